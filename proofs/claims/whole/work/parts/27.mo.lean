theorem dgo_out {I : List Int32} {a : Nat} (h : I.length ≤ a) : dgo (un I a) = none := by
  have e : un I a = -1 := by unfold un; simp [h]
  rw [e]
  decide
set_option maxHeartbeats 4000000 in
set_option maxRecDepth 100000 in
theorem k_Mo_digit (l : Launch) (D : va_G) (cA : ClassId) (sz : Nat) (x : Int32)  : KI l D cA y_Mo_digit c_Mo_digit 1 .int 1 22 [.int x] sz [] (S := Unit) (fun r _ => (∃ n, dgo x = some n ∧ n ≤ 35 ∧ r = nI n) ∨ (dgo x = none ∧ r = -1)) (fun _ => []) := by
  refine KI.of (by decide) (Nat.le_of_ble_eq_true rfl) ?_
  intro p e s m args below meth c Q R A ls Xf hR hA hS hP hD hK hn hl ret
  have hx := Xf.1
  have hb := Xf.2.1
  have hown : s.vm.findClass "ScalarScribeModel" = some m.cls := Xf.2.2.2.1
  have hw := Xf.2.2.2.2
  have hl : lv_has ls 1 [(0, .int x)] := hl
  refine lv_iload_n hx hb dMo_digit_0 rfl (lv_at hl 0 rfl) ?_
  refine lv_bipush (v := nI 97) hx hb dMo_digit_1 (by decide) ?_
  refine lv_bipush (v := nI 122) hx hb dMo_digit_3 (by decide) ?_
  refine ca_i (wr := []) (va_runS (As := [.int x, .int (nI 97), .int (nI 122)]) (rest := []) Xf (k_Mo_isIn l D cA _ x 97 122 (by omega) (by omega)) ⟨cb_of 3 hw w_455 w_7 w_453 (by decide +kernel) (by rw [hR]; exact ⟨Nat.le_of_ble_eq_true rfl, Nat.le_of_ble_eq_true rfl⟩), hw _ w_454⟩ (pre_S hP hD hK hn [] rfl (by decide)) rfl rfl hl.1 rfl (lv_room (Nat.le_of_ble_eq_true rfl)) dMo_digit_5 ⟨Nat.zero_le _, Nat.zero_le _⟩) hP hD hS hA [] [] rfl rfl (by decide) (by decide) (fun r5 u_ H locs hq_ hP hD hS => ?_)
  rcases hq_ with ⟨hk5_1, rfl⟩ | ⟨hk5_1, rfl⟩
  · skip
    replace hP : va_P D vwCl [] H := hP.sub [] rfl
    replace hD : va_D A [] := hD.sub [] (by decide) rfl
    obtain ⟨ea, eb, ec⟩ := tn_of (show (0 : Int) ≤ x.toInt by omega) (by decide)
    refine lv_if_eq (tgt := 18) hx hb dMo_digit_8 (by decide) (fun h8 => ?_) (fun h8 => ?_)
    · skip
      exact absurd h8 (by decide)
    · skip
      refine lv_iload_n hx hb dMo_digit_11 rfl (lv_at hl 0 rfl) ?_
      refine lv_bipush (v := nI 97) hx hb dMo_digit_12 (by decide) ?_
      refine lv_isub hx hb dMo_digit_14 ?_
      refine lv_rei (y := nI (tn x - 97)) (sub_r ea (by omega)) ?_
      refine lv_goto (tgt := 55) hx hb dMo_digit_15 (by decide) ?_
      exact ret () dMo_digit_55 rfl (Or.inl ⟨tn x - 97, by unfold dgo; (repeat' split) <;> first | omega | rfl, by omega, rfl⟩) hP hD hS
  · skip
    replace hP : va_P D vwCl [] H := hP.sub [] rfl
    replace hD : va_D A [] := hD.sub [] (by decide) rfl
    refine lv_if_eq (tgt := 18) hx hb dMo_digit_8 (by decide) (fun h8 => ?_) (fun h8 => ?_)
    · skip
      refine lv_iload_n hx hb dMo_digit_18 rfl (lv_at hl 0 rfl) ?_
      refine lv_bipush (v := nI 65) hx hb dMo_digit_19 (by decide) ?_
      refine lv_bipush (v := nI 90) hx hb dMo_digit_21 (by decide) ?_
      refine ca_i (wr := []) (va_runS (As := [.int x, .int (nI 65), .int (nI 90)]) (rest := []) Xf (k_Mo_isIn l D cA _ x 65 90 (by omega) (by omega)) ⟨cb_of 3 hw w_455 w_7 w_453 (by decide +kernel) (by rw [hR]; exact ⟨Nat.le_of_ble_eq_true rfl, Nat.le_of_ble_eq_true rfl⟩), hw _ w_454⟩ (pre_S hP hD hK hn [] rfl (by decide)) rfl rfl hl.1 rfl (lv_room (Nat.le_of_ble_eq_true rfl)) dMo_digit_23 ⟨Nat.zero_le _, Nat.zero_le _⟩) hP hD hS hA [] [] rfl rfl (by decide) (by decide) (fun r23 u_ H locs hq_ hP hD hS => ?_)
      rcases hq_ with ⟨hk23_2, rfl⟩ | ⟨hk23_2, rfl⟩
      · skip
        replace hP : va_P D vwCl [] H := hP.sub [] rfl
        replace hD : va_D A [] := hD.sub [] (by decide) rfl
        obtain ⟨ea, eb, ec⟩ := tn_of (show (0 : Int) ≤ x.toInt by omega) (by decide)
        refine lv_if_eq (tgt := 36) hx hb dMo_digit_26 (by decide) (fun h26 => ?_) (fun h26 => ?_)
        · skip
          exact absurd h26 (by decide)
        · skip
          refine lv_iload_n hx hb dMo_digit_29 rfl (lv_at hl 0 rfl) ?_
          refine lv_bipush (v := nI 65) hx hb dMo_digit_30 (by decide) ?_
          refine lv_isub hx hb dMo_digit_32 ?_
          refine lv_rei (y := nI (tn x - 65)) (sub_r ea (by omega)) ?_
          refine lv_goto (tgt := 55) hx hb dMo_digit_33 (by decide) ?_
          exact ret () dMo_digit_55 rfl (Or.inl ⟨tn x - 65, by unfold dgo; (repeat' split) <;> first | omega | rfl, by omega, rfl⟩) hP hD hS
      · skip
        replace hP : va_P D vwCl [] H := hP.sub [] rfl
        replace hD : va_D A [] := hD.sub [] (by decide) rfl
        refine lv_if_eq (tgt := 36) hx hb dMo_digit_26 (by decide) (fun h26 => ?_) (fun h26 => ?_)
        · skip
          refine lv_iload_n hx hb dMo_digit_36 rfl (lv_at hl 0 rfl) ?_
          refine lv_bipush (v := nI 48) hx hb dMo_digit_37 (by decide) ?_
          refine lv_bipush (v := nI 57) hx hb dMo_digit_39 (by decide) ?_
          refine ca_i (wr := []) (va_runS (As := [.int x, .int (nI 48), .int (nI 57)]) (rest := []) Xf (k_Mo_isIn l D cA _ x 48 57 (by omega) (by omega)) ⟨cb_of 3 hw w_455 w_7 w_453 (by decide +kernel) (by rw [hR]; exact ⟨Nat.le_of_ble_eq_true rfl, Nat.le_of_ble_eq_true rfl⟩), hw _ w_454⟩ (pre_S hP hD hK hn [] rfl (by decide)) rfl rfl hl.1 rfl (lv_room (Nat.le_of_ble_eq_true rfl)) dMo_digit_41 ⟨Nat.zero_le _, Nat.zero_le _⟩) hP hD hS hA [] [] rfl rfl (by decide) (by decide) (fun r41 u_ H locs hq_ hP hD hS => ?_)
          rcases hq_ with ⟨hk41_3, rfl⟩ | ⟨hk41_3, rfl⟩
          · skip
            replace hP : va_P D vwCl [] H := hP.sub [] rfl
            replace hD : va_D A [] := hD.sub [] (by decide) rfl
            obtain ⟨ea, eb, ec⟩ := tn_of (show (0 : Int) ≤ x.toInt by omega) (by decide)
            refine lv_if_eq (tgt := 54) hx hb dMo_digit_44 (by decide) (fun h44 => ?_) (fun h44 => ?_)
            · skip
              exact absurd h44 (by decide)
            · skip
              refine lv_iload_n hx hb dMo_digit_47 rfl (lv_at hl 0 rfl) ?_
              refine lv_bipush (v := nI 22) hx hb dMo_digit_48 (by decide) ?_
              refine lv_isub hx hb dMo_digit_50 ?_
              refine lv_rei (y := nI (tn x - 22)) (sub_r ea (by omega)) ?_
              refine lv_goto (tgt := 55) hx hb dMo_digit_51 (by decide) ?_
              exact ret () dMo_digit_55 rfl (Or.inl ⟨tn x - 22, by unfold dgo; (repeat' split) <;> first | omega | rfl, by omega, rfl⟩) hP hD hS
          · skip
            replace hP : va_P D vwCl [] H := hP.sub [] rfl
            replace hD : va_D A [] := hD.sub [] (by decide) rfl
            refine lv_if_eq (tgt := 54) hx hb dMo_digit_44 (by decide) (fun h44 => ?_) (fun h44 => ?_)
            · skip
              refine lv_iconst (v := (-1)) hx hb dMo_digit_54 (by decide) ?_
              exact ret () dMo_digit_55 rfl (Or.inr ⟨by unfold dgo; (repeat' split) <;> first | omega | rfl, rfl⟩) hP hD hS
            · skip
              exact absurd h44 (by decide)
        · skip
          exact absurd h26 (by decide)
    · skip
      exact absurd h8 (by decide)
set_option maxHeartbeats 4000000 in
set_option maxRecDepth 100000 in
theorem k_Mo_threshold (l : Launch) (D : va_G) (cA : ClassId) (sz : Nat) (k b : Nat) (hk : k < 2 ^ 20) (hb : b < 2 ^ 20) : KI l D cA y_Mo_threshold c_Mo_threshold 3 .int 0 0 [.int (nI k), .int (nI b)] sz [] (S := Unit) (fun r _ => r = nI (thN b k)) (fun _ => []) := by
  refine KI.of (by decide) (Nat.le_of_ble_eq_true rfl) ?_
  intro p e s m args below meth c Q R A ls Xf hR hA hS hP hD hK hn hl ret
  have hx := Xf.1
  have hb := Xf.2.1
  have hown : s.vm.findClass "ScalarScribeModel" = some m.cls := Xf.2.2.2.1
  have hw := Xf.2.2.2.2
  have hl : lv_has ls 3 [(0, .int (nI k)), (1, .int (nI b))] := hl
  refine lv_bipush (v := nI 36) hx hb dMo_threshold_0 (by decide) ?_
  refine lv_iload_n hx hb dMo_threshold_2 rfl (lv_at hl 0 rfl) ?_
  refine lv_imul hx hb dMo_threshold_3 ?_
  refine lv_rei (y := nI (36 * k)) (pk_mul _ _) ?_
  refine lv_iload_n hx hb dMo_threshold_4 rfl (lv_at hl 1 rfl) ?_
  refine lv_isub hx hb dMo_threshold_5 ?_
  refine lv_topi (fun x ex_ => ?_)
  have e9 := pk_sub_toInt (a := 36 * k) (b := b) (by omega) (by omega)
  rw [← ex_] at e9
  refine lv_istore_n (lv' := [(2, .int x), (0, .int (nI k)), (1, .int (nI b))]) hx hb dMo_threshold_6 rfl hl (by decide) rfl (fun ls hl => ?_)
  refine lv_iload_n hx hb dMo_threshold_7 rfl (lv_at hl 0 rfl) ?_
  refine lv_iconst (v := nI 1) hx hb dMo_threshold_8 (by decide) ?_
  refine lv_icmp_ge (tgt := 16) hx hb dMo_threshold_9 (by decide) (fun h9 => ?_) (fun h9 => ?_)
  · skip
    rw [Int32.le_iff_toInt_le, nI_toInt (n := 1) (by omega)] at h9
    refine lv_iload_n hx hb dMo_threshold_16 rfl (lv_at hl 0 rfl) ?_
    refine lv_bipush (v := nI 26) hx hb dMo_threshold_17 (by decide) ?_
    refine lv_icmp_le (tgt := 27) hx hb dMo_threshold_19 (by decide) (fun h19 => ?_) (fun h19 => ?_)
    · skip
      rw [Int32.le_iff_toInt_le, nI_toInt (n := 26) (by omega)] at h19
      refine lv_iload_n hx hb dMo_threshold_27 rfl (lv_at hl 0 rfl) ?_
      obtain ⟨ea, eb, ec⟩ := tn_of (show (0 : Int) ≤ x.toInt by omega) (by decide)
      exact ret () dMo_threshold_28 rfl (ea.trans (congrArg nI (show tn x = thN b k from by unfold thN; omega))) hP hD hS
    · skip
      rw [Int32.le_iff_toInt_le, nI_toInt (n := 26) (by omega)] at h19
      refine lv_bipush (v := nI 26) hx hb dMo_threshold_22 (by decide) ?_
      refine lv_goto (tgt := 28) hx hb dMo_threshold_24 (by decide) ?_
      exact ret () dMo_threshold_28 rfl (congrArg nI (show 26 = thN b k from by unfold thN; omega)) hP hD hS
  · skip
    rw [Int32.le_iff_toInt_le, nI_toInt (n := 1) (by omega)] at h9
    refine lv_iconst (v := nI 1) hx hb dMo_threshold_12 (by decide) ?_
    refine lv_goto (tgt := 28) hx hb dMo_threshold_13 (by decide) ?_
    exact ret () dMo_threshold_28 rfl (congrArg nI (show 1 = thN b k from by unfold thN; omega)) hP hD hS
set_option maxHeartbeats 4000000 in
set_option maxRecDepth 100000 in
theorem k_Mo_adapted (l : Launch) (D : va_G) (cA : ClassId) (sz : Nat) (d n : Nat) (fb : Bool) (hd : d < 2 ^ 31) (hn1 : 1 ≤ n) (hn2 : n < 2 ^ 31) : KI l D cA y_Mo_adapted c_Mo_adapted 7 .int 0 0 [.long (lN d), .int (nI n), .int (bI fb)] sz [] (S := Unit) (fun r _ => r = nI (adN d n fb)) (fun _ => []) := by
  refine KI.of (by decide) (Nat.le_of_ble_eq_true rfl) ?_
  intro p e s m args below meth c Q R A ls Xf hR hA hS hP hD hK hn hl ret
  have hx := Xf.1
  have hb := Xf.2.1
  have hown : s.vm.findClass "ScalarScribeModel" = some m.cls := Xf.2.2.2.1
  have hw := Xf.2.2.2.2
  have hl : lv_has ls 7 [(0, .long (lN d)), (2, .int (nI n)), (3, .int (bI fb))] := hl
  refine lv_iload_n hx hb dMo_adapted_0 rfl (lv_at hl 2 rfl) ?_
  cases fb
  · skip
    refine lv_rei (y := nI 0) rfl ?_
    refine lv_if_eq (tgt := 12) hx hb dMo_adapted_1 (by decide) (fun h1 => ?_) (fun h1 => ?_)
    · skip
      refine lv_lload_n hx hb dMo_adapted_12 rfl (lv_at hl 0 rfl) ?_
      refine lv_ldc2 (v := lN 2) hx hb hown (hw _ w_515) dMo_adapted_13 ?_
      refine lv_ldiv hx hb dMo_adapted_16 (lN_ne0 (by omega) (by omega)) ?_
      refine lv_rel (y := lN (d / 2)) (pk_lDiv (by omega) (by omega) (by omega)) ?_
      refine lv_lstore (lv' := [(4, .long (lN (d / 2))), (0, .long (lN d)), (2, .int (nI n)), (3, .int (bI false))]) hx hb dMo_adapted_17 hl (by decide) rfl (fun ls hl => ?_)
      have hdv := Nat.div_le_self (d / 2) n
      refine lv_lload hx hb dMo_adapted_19 (lv_at hl 0 rfl) ?_
      refine lv_lload hx hb dMo_adapted_21 (lv_at hl 0 rfl) ?_
      refine lv_iload_n hx hb dMo_adapted_23 rfl (lv_at hl 2 rfl) ?_
      refine lv_i2l (v := lN n) hx hb dMo_adapted_24 (nI_l (by omega)) ?_
      refine lv_ldiv hx hb dMo_adapted_25 (lN_ne0 (by omega) (by omega)) ?_
      refine lv_rel (y := lN ((d / 2) / n)) (pk_lDiv (by omega) (by omega) (by omega)) ?_
      refine lv_ladd hx hb dMo_adapted_26 ?_
      refine lv_rel (y := lN (d / 2 + ((d / 2) / n))) (lN_add _ _) ?_
      refine lv_lstore (lv' := [(4, .long (lN (d / 2 + ((d / 2) / n)))), (0, .long (lN d)), (2, .int (nI n)), (3, .int (bI false))]) hx hb dMo_adapted_27 hl (by decide) rfl (fun ls hl => ?_)
      refine lv_iconst (v := nI 0) hx hb dMo_adapted_29 (by decide) ?_
      refine lv_istore (lv' := [(6, .int (nI 0)), (4, .long (lN (d / 2 + ((d / 2) / n)))), (0, .long (lN d)), (2, .int (nI n)), (3, .int (bI false))]) hx hb dMo_adapted_30 hl (by decide) rfl (fun ls hl => ?_)
      have loop1 : ∀ (n_ : Nat) (ev : Nat) (rc : Nat) (kf : Nat) (ls : Array Slot) (H : Heap) (locs : List Loc), ev < n_ → ev + rc < 2 ^ 31 → ev ≤ kf → adL kf ev rc = adN d n false → lv_has ls 7 [(6, .int (nI rc)), (4, .long (lN ev))] → va_P D vwCl [] H → va_D A [] → va_S A s.heap H locs → W p l e R s m args below meth c H locs 0 0 Q (F0 m 32 ls []) := by
        intro n_
        induction n_ with
        | zero => intro ev rc kf ls H locs hm_; exact absurd hm_ (Nat.not_lt_zero _)
        | succ n_ ih_loop1 =>
          intro ev rc kf ls H locs hm_ hev hkf hF hl hP hD hS
          refine lv_lload hx hb dMo_adapted_32 (lv_at hl 1 rfl) ?_
          refine lv_ldc2 (v := lN 455) hx hb hown (hw _ w_516) dMo_adapted_34 ?_
          refine W.lcmp hx hb dMo_adapted_37 ?_
          refine lv_if_le (tgt := 58) hx hb dMo_adapted_38 (by decide) (fun h38 => ?_) (fun h38 => ?_)
          · skip
            replace h38 := lc_le (a := ev) (b := 455) (by omega) (by omega) h38
            refine lv_ldc2 (v := lN 36) hx hb hown (hw _ w_518) dMo_adapted_58 ?_
            refine lv_iload hx hb dMo_adapted_61 (lv_at hl 0 rfl) ?_
            refine lv_i2l (v := lN rc) hx hb dMo_adapted_63 (nI_l (by omega)) ?_
            refine lv_lmul hx hb dMo_adapted_64 ?_
            refine lv_rel (y := lN (36 * rc)) (lN_mul _ _) ?_
            refine lv_ldc2 (v := lN 36) hx hb hown (hw _ w_518) dMo_adapted_65 ?_
            refine lv_lload hx hb dMo_adapted_68 (lv_at hl 1 rfl) ?_
            refine lv_lmul hx hb dMo_adapted_70 ?_
            refine lv_rel (y := lN (36 * ev)) (lN_mul _ _) ?_
            refine lv_lload hx hb dMo_adapted_71 (lv_at hl 1 rfl) ?_
            refine lv_ldc2 (v := lN 38) hx hb hown (hw _ w_519) dMo_adapted_73 ?_
            refine lv_ladd hx hb dMo_adapted_76 ?_
            refine lv_rel (y := lN (ev + 38)) (lN_add _ _) ?_
            refine lv_ldiv hx hb dMo_adapted_77 (lN_ne0 (by omega) (by omega)) ?_
            refine lv_rel (y := lN ((36 * ev) / (ev + 38))) (pk_lDiv (by omega) (by omega) (by omega)) ?_
            refine lv_ladd hx hb dMo_adapted_78 ?_
            refine lv_rel (y := lN (36 * rc + ((36 * ev) / (ev + 38)))) (lN_add _ _) ?_
            refine lv_l2i (v := nI (36 * rc + ((36 * ev) / (ev + 38)))) hx hb dMo_adapted_79 (lN_i _) ?_
            exact ret () dMo_adapted_80 rfl (congrArg nI (by rw [← hF, adL_end h38])) hP hD hS
          · skip
            replace h38 := lc_nle (a := ev) (b := 455) (by omega) (by omega) h38
            refine lv_lload hx hb dMo_adapted_41 (lv_at hl 1 rfl) ?_
            refine lv_ldc2 (v := lN 35) hx hb hown (hw _ w_517) dMo_adapted_43 ?_
            refine lv_ldiv hx hb dMo_adapted_46 (lN_ne0 (by omega) (by omega)) ?_
            refine lv_rel (y := lN (ev / 35)) (pk_lDiv (by omega) (by omega) (by omega)) ?_
            refine lv_lstore (lv' := [(4, .long (lN (ev / 35))), (6, .int (nI rc))]) hx hb dMo_adapted_47 hl (by decide) rfl (fun ls hl => ?_)
            refine lv_iload hx hb dMo_adapted_49 (lv_at hl 1 rfl) ?_
            refine lv_iconst (v := nI 1) hx hb dMo_adapted_51 (by decide) ?_
            refine lv_iadd hx hb dMo_adapted_52 ?_
            refine lv_rei (y := nI (rc + 1)) (nI_add _ _) ?_
            refine lv_istore (lv' := [(6, .int (nI (rc + 1))), (4, .long (lN (ev / 35)))]) hx hb dMo_adapted_53 hl (by decide) rfl (fun ls hl => ?_)
            refine lv_goto (tgt := 32) hx hb dMo_adapted_55 (by decide) ?_
            obtain ⟨k2, rfl⟩ : ∃ k2, kf = k2 + 1 := ⟨kf - 1, by omega⟩
            rw [adL_step h38] at hF
            exact ih_loop1 (ev / 35) (rc + 1) k2 _ _ _ (by omega) (by omega) (by omega) hF (lv_sub hl [0, 1] rfl) hP hD hS
      exact loop1 _ (d / 2 + ((d / 2) / n)) 0 (d / 2 + ((d / 2) / n)) _ _ _ (Nat.lt_succ_self _) (by omega) (Nat.le_refl _) rfl (lv_sub hl [0, 1] rfl) hP hD hS
    · skip
      exact absurd h1 (by decide)
  · skip
    refine lv_rei (y := nI 1) rfl ?_
    refine lv_if_eq (tgt := 12) hx hb dMo_adapted_1 (by decide) (fun h1 => ?_) (fun h1 => ?_)
    · skip
      exact absurd h1 (by decide)
    · skip
      refine lv_lload_n hx hb dMo_adapted_4 rfl (lv_at hl 0 rfl) ?_
      refine lv_ldc2 (v := lN 700) hx hb hown (hw _ w_514) dMo_adapted_5 ?_
      refine lv_ldiv hx hb dMo_adapted_8 (lN_ne0 (by omega) (by omega)) ?_
      refine lv_rel (y := lN (d / 700)) (pk_lDiv (by omega) (by omega) (by omega)) ?_
      refine lv_goto (tgt := 17) hx hb dMo_adapted_9 (by decide) ?_
      refine lv_lstore (lv' := [(4, .long (lN (d / 700))), (0, .long (lN d)), (2, .int (nI n)), (3, .int (bI true))]) hx hb dMo_adapted_17 hl (by decide) rfl (fun ls hl => ?_)
      have hdv := Nat.div_le_self (d / 700) n
      refine lv_lload hx hb dMo_adapted_19 (lv_at hl 0 rfl) ?_
      refine lv_lload hx hb dMo_adapted_21 (lv_at hl 0 rfl) ?_
      refine lv_iload_n hx hb dMo_adapted_23 rfl (lv_at hl 2 rfl) ?_
      refine lv_i2l (v := lN n) hx hb dMo_adapted_24 (nI_l (by omega)) ?_
      refine lv_ldiv hx hb dMo_adapted_25 (lN_ne0 (by omega) (by omega)) ?_
      refine lv_rel (y := lN ((d / 700) / n)) (pk_lDiv (by omega) (by omega) (by omega)) ?_
      refine lv_ladd hx hb dMo_adapted_26 ?_
      refine lv_rel (y := lN (d / 700 + ((d / 700) / n))) (lN_add _ _) ?_
      refine lv_lstore (lv' := [(4, .long (lN (d / 700 + ((d / 700) / n)))), (0, .long (lN d)), (2, .int (nI n)), (3, .int (bI true))]) hx hb dMo_adapted_27 hl (by decide) rfl (fun ls hl => ?_)
      refine lv_iconst (v := nI 0) hx hb dMo_adapted_29 (by decide) ?_
      refine lv_istore (lv' := [(6, .int (nI 0)), (4, .long (lN (d / 700 + ((d / 700) / n)))), (0, .long (lN d)), (2, .int (nI n)), (3, .int (bI true))]) hx hb dMo_adapted_30 hl (by decide) rfl (fun ls hl => ?_)
      have loop1 : ∀ (n_ : Nat) (ev : Nat) (rc : Nat) (kf : Nat) (ls : Array Slot) (H : Heap) (locs : List Loc), ev < n_ → ev + rc < 2 ^ 31 → ev ≤ kf → adL kf ev rc = adN d n true → lv_has ls 7 [(6, .int (nI rc)), (4, .long (lN ev))] → va_P D vwCl [] H → va_D A [] → va_S A s.heap H locs → W p l e R s m args below meth c H locs 0 0 Q (F0 m 32 ls []) := by
        intro n_
        induction n_ with
        | zero => intro ev rc kf ls H locs hm_; exact absurd hm_ (Nat.not_lt_zero _)
        | succ n_ ih_loop1 =>
          intro ev rc kf ls H locs hm_ hev hkf hF hl hP hD hS
          refine lv_lload hx hb dMo_adapted_32 (lv_at hl 1 rfl) ?_
          refine lv_ldc2 (v := lN 455) hx hb hown (hw _ w_516) dMo_adapted_34 ?_
          refine W.lcmp hx hb dMo_adapted_37 ?_
          refine lv_if_le (tgt := 58) hx hb dMo_adapted_38 (by decide) (fun h38 => ?_) (fun h38 => ?_)
          · skip
            replace h38 := lc_le (a := ev) (b := 455) (by omega) (by omega) h38
            refine lv_ldc2 (v := lN 36) hx hb hown (hw _ w_518) dMo_adapted_58 ?_
            refine lv_iload hx hb dMo_adapted_61 (lv_at hl 0 rfl) ?_
            refine lv_i2l (v := lN rc) hx hb dMo_adapted_63 (nI_l (by omega)) ?_
            refine lv_lmul hx hb dMo_adapted_64 ?_
            refine lv_rel (y := lN (36 * rc)) (lN_mul _ _) ?_
            refine lv_ldc2 (v := lN 36) hx hb hown (hw _ w_518) dMo_adapted_65 ?_
            refine lv_lload hx hb dMo_adapted_68 (lv_at hl 1 rfl) ?_
            refine lv_lmul hx hb dMo_adapted_70 ?_
            refine lv_rel (y := lN (36 * ev)) (lN_mul _ _) ?_
            refine lv_lload hx hb dMo_adapted_71 (lv_at hl 1 rfl) ?_
            refine lv_ldc2 (v := lN 38) hx hb hown (hw _ w_519) dMo_adapted_73 ?_
            refine lv_ladd hx hb dMo_adapted_76 ?_
            refine lv_rel (y := lN (ev + 38)) (lN_add _ _) ?_
            refine lv_ldiv hx hb dMo_adapted_77 (lN_ne0 (by omega) (by omega)) ?_
            refine lv_rel (y := lN ((36 * ev) / (ev + 38))) (pk_lDiv (by omega) (by omega) (by omega)) ?_
            refine lv_ladd hx hb dMo_adapted_78 ?_
            refine lv_rel (y := lN (36 * rc + ((36 * ev) / (ev + 38)))) (lN_add _ _) ?_
            refine lv_l2i (v := nI (36 * rc + ((36 * ev) / (ev + 38)))) hx hb dMo_adapted_79 (lN_i _) ?_
            exact ret () dMo_adapted_80 rfl (congrArg nI (by rw [← hF, adL_end h38])) hP hD hS
          · skip
            replace h38 := lc_nle (a := ev) (b := 455) (by omega) (by omega) h38
            refine lv_lload hx hb dMo_adapted_41 (lv_at hl 1 rfl) ?_
            refine lv_ldc2 (v := lN 35) hx hb hown (hw _ w_517) dMo_adapted_43 ?_
            refine lv_ldiv hx hb dMo_adapted_46 (lN_ne0 (by omega) (by omega)) ?_
            refine lv_rel (y := lN (ev / 35)) (pk_lDiv (by omega) (by omega) (by omega)) ?_
            refine lv_lstore (lv' := [(4, .long (lN (ev / 35))), (6, .int (nI rc))]) hx hb dMo_adapted_47 hl (by decide) rfl (fun ls hl => ?_)
            refine lv_iload hx hb dMo_adapted_49 (lv_at hl 1 rfl) ?_
            refine lv_iconst (v := nI 1) hx hb dMo_adapted_51 (by decide) ?_
            refine lv_iadd hx hb dMo_adapted_52 ?_
            refine lv_rei (y := nI (rc + 1)) (nI_add _ _) ?_
            refine lv_istore (lv' := [(6, .int (nI (rc + 1))), (4, .long (lN (ev / 35)))]) hx hb dMo_adapted_53 hl (by decide) rfl (fun ls hl => ?_)
            refine lv_goto (tgt := 32) hx hb dMo_adapted_55 (by decide) ?_
            obtain ⟨k2, rfl⟩ : ∃ k2, kf = k2 + 1 := ⟨kf - 1, by omega⟩
            rw [adL_step h38] at hF
            exact ih_loop1 (ev / 35) (rc + 1) k2 _ _ _ (by omega) (by omega) (by omega) hF (lv_sub hl [0, 1] rfl) hP hD hS
      exact loop1 _ (d / 700 + ((d / 700) / n)) 0 (d / 700 + ((d / 700) / n)) _ _ _ (Nat.lt_succ_self _) (by omega) (Nat.le_refl _) rfl (lv_sub hl [0, 1] rfl) hP hD hS
set_option maxHeartbeats 4000000 in
set_option maxRecDepth 100000 in
theorem k_Mo_isScalar (l : Launch) (D : va_G) (cA : ClassId) (sz : Nat) (v : Nat) (hv : v < 2 ^ 62) : KI l D cA y_Mo_isScalar c_Mo_isScalar 2 .boolean 0 0 [.long (lN v)] sz [] (S := Unit) (fun r _ => (sca v ∧ r = 1) ∨ (¬ sca v ∧ r = 0)) (fun _ => []) := by
  refine KI.of (by decide) (Nat.le_of_ble_eq_true rfl) ?_
  intro p e s m args below meth c Q R A ls Xf hR hA hS hP hD hK hn hl ret
  have hx := Xf.1
  have hb := Xf.2.1
  have hown : s.vm.findClass "ScalarScribeModel" = some m.cls := Xf.2.2.2.1
  have hw := Xf.2.2.2.2
  have hl : lv_has ls 2 [(0, .long (lN v))] := hl
  refine lv_lload_n hx hb dMo_isScalar_0 rfl (lv_at hl 0 rfl) ?_
  refine lv_lconst (v := lN 0) hx hb dMo_isScalar_1 (by decide) ?_
  refine W.lcmp hx hb dMo_isScalar_2 ?_
  refine lv_if_lt (tgt := 34) hx hb dMo_isScalar_3 (by decide) (fun h3 => ?_) (fun h3 => ?_)
  · skip
    replace h3 := lc_lt (a := v) (b := 0) (by omega) (by omega) h3
    refine lv_iconst (v := nI 0) hx hb dMo_isScalar_34 (by decide) ?_
    exact ret () dMo_isScalar_35 rfl (Or.inr ⟨by unfold sca; omega, rfl⟩) hP hD hS
  · skip
    replace h3 := lc_nlt (a := v) (b := 0) (by omega) (by omega) h3
    refine lv_lload_n hx hb dMo_isScalar_6 rfl (lv_at hl 0 rfl) ?_
    refine lv_ldc2 (v := lN 1114111) hx hb hown (hw _ w_508) dMo_isScalar_7 ?_
    refine W.lcmp hx hb dMo_isScalar_10 ?_
    refine lv_if_gt (tgt := 34) hx hb dMo_isScalar_11 (by decide) (fun h11 => ?_) (fun h11 => ?_)
    · skip
      replace h11 := lc_gt (a := v) (b := 1114111) (by omega) (by omega) h11
      refine lv_iconst (v := nI 0) hx hb dMo_isScalar_34 (by decide) ?_
      exact ret () dMo_isScalar_35 rfl (Or.inr ⟨by unfold sca; omega, rfl⟩) hP hD hS
    · skip
      replace h11 := lc_ngt (a := v) (b := 1114111) (by omega) (by omega) h11
      refine lv_lload_n hx hb dMo_isScalar_14 rfl (lv_at hl 0 rfl) ?_
      refine lv_ldc2 (v := lN 55296) hx hb hown (hw _ w_509) dMo_isScalar_15 ?_
      refine W.lcmp hx hb dMo_isScalar_18 ?_
      refine lv_if_lt (tgt := 30) hx hb dMo_isScalar_19 (by decide) (fun h19 => ?_) (fun h19 => ?_)
      · skip
        replace h19 := lc_lt (a := v) (b := 55296) (by omega) (by omega) h19
        refine lv_iconst (v := nI 1) hx hb dMo_isScalar_30 (by decide) ?_
        refine lv_goto (tgt := 35) hx hb dMo_isScalar_31 (by decide) ?_
        exact ret () dMo_isScalar_35 rfl (Or.inl ⟨by unfold sca; omega, rfl⟩) hP hD hS
      · skip
        replace h19 := lc_nlt (a := v) (b := 55296) (by omega) (by omega) h19
        refine lv_lload_n hx hb dMo_isScalar_22 rfl (lv_at hl 0 rfl) ?_
        refine lv_ldc2 (v := lN 57343) hx hb hown (hw _ w_510) dMo_isScalar_23 ?_
        refine W.lcmp hx hb dMo_isScalar_26 ?_
        refine lv_if_le (tgt := 34) hx hb dMo_isScalar_27 (by decide) (fun h27 => ?_) (fun h27 => ?_)
        · skip
          replace h27 := lc_le (a := v) (b := 57343) (by omega) (by omega) h27
          refine lv_iconst (v := nI 0) hx hb dMo_isScalar_34 (by decide) ?_
          exact ret () dMo_isScalar_35 rfl (Or.inr ⟨by unfold sca; omega, rfl⟩) hP hD hS
        · skip
          replace h27 := lc_nle (a := v) (b := 57343) (by omega) (by omega) h27
          refine lv_iconst (v := nI 1) hx hb dMo_isScalar_30 (by decide) ?_
          refine lv_goto (tgt := 35) hx hb dMo_isScalar_31 (by decide) ?_
          exact ret () dMo_isScalar_35 rfl (Or.inl ⟨by unfold sca; omega, rfl⟩) hP hD hS
set_option maxHeartbeats 4000000 in
set_option maxRecDepth 100000 in
theorem k_Mo_readNumber (l : Launch) (D : va_G) (cA : ClassId) (sz : Nat) (mo xI xL xO xK xR xW : Nat) (I L O K : List Int32) (gI gL gO gK gR gW : Nat → Int32) (md wr : Int32) (nu vl pc_ : Int64) ( tk gd : Int32) (la bi : Nat) (hfI : Hd gI I) (hcI : I.length ≤ 120) (hfL : Hd gL L) (hcL : L.length ≤ 120) (hfO : Hd gO O) (hcO : O.length ≤ 400) (hfK : Hd gK K) (hcK : K.length ≤ 120) (hla : la ≤ I.length) (hbi : bi < 2 ^ 20) : KI l D cA y_Mo_readNumber c_Mo_readNumber 6 .int 2 42 [.ref mo] sz [(mo, .inr (5, [.int (nI I.length), .ref xI, .int (nI L.length), .ref xL, .int (nI O.length), .ref xO, .int (nI K.length), .ref xK, .int md, .ref xR, .int wr, .ref xW, .int (nI la), .long nu, .long vl, .long pc_, .int (nI bi), .int tk, .int gd])), (xI, .inl (cA, 120, .inl gI)), (xL, .inl (cA, 120, .inl gL)), (xO, .inl (cA, 400, .inl gO)), (xK, .inl (cA, 120, .inl gK)), (xR, .inl (cA, 121, .inl gR)), (xW, .inl (cA, 1000, .inl gW))] (S := Nat × Nat) (fun r u => (rnS I bi I.length 1 la 0 1 = (0, u.2, u.1) ∧ r = 0) ∨ (rnS I bi I.length 1 la 0 1 = (-1, u.2, u.1) ∧ r = -1) ∨ (rnS I bi I.length 1 la 0 1 = (-2, u.2, u.1) ∧ r = -2)) (fun u => [(mo, .inr (5, [.int (nI I.length), .ref xI, .int (nI L.length), .ref xL, .int (nI O.length), .ref xO, .int (nI K.length), .ref xK, .int md, .ref xR, .int wr, .ref xW, .int (nI u.1), .long (lN u.2), .long vl, .long pc_, .int (nI bi), .int tk, .int gd])), (xI, .inl (cA, 120, .inl gI)), (xL, .inl (cA, 120, .inl gL)), (xO, .inl (cA, 400, .inl gO)), (xK, .inl (cA, 120, .inl gK)), (xR, .inl (cA, 121, .inl gR)), (xW, .inl (cA, 1000, .inl gW))]) := by
  refine KI.of (by decide) (Nat.le_of_ble_eq_true rfl) ?_
  intro p e s m args below meth c Q R A ls Xf hR hA hS hP hD hK hn hl ret
  have hx := Xf.1
  have hb := Xf.2.1
  have hown : s.vm.findClass "ScalarScribeModel" = some m.cls := Xf.2.2.2.1
  have hw := Xf.2.2.2.2
  have hl : lv_has ls 6 [(0, .ref mo)] := hl
  refine lv_lconst (v := lN 1) hx hb dMo_readNumber_0 (by decide) ?_
  refine lv_lstore_n (lv' := [(1, .long (lN 1)), (0, .ref mo)]) hx hb dMo_readNumber_1 rfl hl (by decide) rfl (fun ls hl => ?_)
  refine lv_aload_n hx hb dMo_readNumber_2 rfl (lv_at hl 1 rfl) ?_
  refine lv_lconst (v := lN 0) hx hb dMo_readNumber_3 (by decide) ?_
  refine va_put (D := D) (ci := 5) (v := .long (lN 0)) (ty := .long) (C := R_Mo) (T := T_Mo) (N := 19) hx hb hw in_Mo ty_Mo ty_Mo_ok nm_Mo hown hK hP hD hS 0 rfl rfl 13 (by decide) (hw _ w_377) (fun _ h9 => h9) rfl (by decide +kernel) rfl rfl (Nat.le_of_ble_eq_true rfl) dMo_readNumber_4 (fun H locs hP hD hS => ?_)
  have hP : va_P D vwCl [(mo, .inr (5, [.int (nI I.length), .ref xI, .int (nI L.length), .ref xL, .int (nI O.length), .ref xO, .int (nI K.length), .ref xK, .int md, .ref xR, .int wr, .ref xW, .int (nI la), .long (lN 0), .long vl, .long pc_, .int (nI bi), .int tk, .int gd])), (xI, .inl (cA, 120, .inl gI)), (xL, .inl (cA, 120, .inl gL)), (xO, .inl (cA, 400, .inl gO)), (xK, .inl (cA, 120, .inl gK)), (xR, .inl (cA, 121, .inl gR)), (xW, .inl (cA, 1000, .inl gW))] H := hP
  have hD : va_D A [(mo, .inr (5, [.int (nI I.length), .ref xI, .int (nI L.length), .ref xL, .int (nI O.length), .ref xO, .int (nI K.length), .ref xK, .int md, .ref xR, .int wr, .ref xW, .int (nI la), .long (lN 0), .long vl, .long pc_, .int (nI bi), .int tk, .int gd])), (xI, .inl (cA, 120, .inl gI)), (xL, .inl (cA, 120, .inl gL)), (xO, .inl (cA, 400, .inl gO)), (xK, .inl (cA, 120, .inl gK)), (xR, .inl (cA, 121, .inl gR)), (xW, .inl (cA, 1000, .inl gW))] := hD
  refine lv_iconst (v := nI 1) hx hb dMo_readNumber_7 (by decide) ?_
  refine lv_istore_n (lv' := [(3, .int (nI 1)), (1, .long (lN 1)), (0, .ref mo)]) hx hb dMo_readNumber_8 rfl hl (by decide) rfl (fun ls hl => ?_)
  have loop1 : ∀ (n_ : Nat) (k : Nat) (ax : Nat) (sm : Nat) (wt : Nat) (kf : Nat) (ls : Array Slot) (H : Heap) (locs : List Loc), kf < n_ → k + kf = I.length + 1 → 1 ≤ k → ax ≤ I.length → I.length - ax ≤ kf → sm ≤ 2147483647 → wt ≤ 2147483647 → rnS I bi kf k ax sm wt = rnS I bi I.length 1 la 0 1 → lv_has ls 6 [(3, .int (nI k)), (1, .long (lN wt)), (0, .ref mo)] → va_P D vwCl [(mo, .inr (5, [.int (nI I.length), .ref xI, .int (nI L.length), .ref xL, .int (nI O.length), .ref xO, .int (nI K.length), .ref xK, .int md, .ref xR, .int wr, .ref xW, .int (nI ax), .long (lN sm), .long vl, .long pc_, .int (nI bi), .int tk, .int gd])), (xI, .inl (cA, 120, .inl gI)), (xL, .inl (cA, 120, .inl gL)), (xO, .inl (cA, 400, .inl gO)), (xK, .inl (cA, 120, .inl gK)), (xR, .inl (cA, 121, .inl gR)), (xW, .inl (cA, 1000, .inl gW))] H → va_D A [(mo, .inr (5, [.int (nI I.length), .ref xI, .int (nI L.length), .ref xL, .int (nI O.length), .ref xO, .int (nI K.length), .ref xK, .int md, .ref xR, .int wr, .ref xW, .int (nI ax), .long (lN sm), .long vl, .long pc_, .int (nI bi), .int tk, .int gd])), (xI, .inl (cA, 120, .inl gI)), (xL, .inl (cA, 120, .inl gL)), (xO, .inl (cA, 400, .inl gO)), (xK, .inl (cA, 120, .inl gK)), (xR, .inl (cA, 121, .inl gR)), (xW, .inl (cA, 1000, .inl gW))] → va_S A s.heap H locs → W p l e R s m args below meth c H locs 0 0 Q (F0 m 9 ls []) := by
    intro n_
    induction n_ with
    | zero => intro k ax sm wt kf ls H locs hm_; exact absurd hm_ (Nat.not_lt_zero _)
    | succ n_ ih_loop1 =>
      intro k ax sm wt kf ls H locs hm_ hk1 hk2 hax hak hsm hwt hF hl hP hD hS
      refine lv_iload_n hx hb dMo_readNumber_9 rfl (lv_at hl 0 rfl) ?_
      refine lv_if_le (tgt := 132) hx hb dMo_readNumber_10 (by decide) (fun h10 => ?_) (fun h10 => ?_)
      · skip
        exact absurd (nt_le (a := k) (b := 0) (by omega) (by omega) h10) (by omega)
      · skip
        refine lv_aload_n hx hb dMo_readNumber_13 rfl (lv_at hl 2 rfl) ?_
        refine va_get (D := D) (ci := 5) (v := .int (nI ax)) (C := R_Mo) (T := T_Mo) (N := 19) hx hb hw in_Mo hown hK hP 0 rfl rfl 12 (by decide) (hw _ w_376) (fun _ h9 => h9) rfl dMo_readNumber_14 ?_
        refine lv_aload_n hx hb dMo_readNumber_17 rfl (lv_at hl 2 rfl) ?_
        refine va_get (D := D) (ci := 5) (v := .int (nI I.length)) (C := R_Mo) (T := T_Mo) (N := 19) hx hb hw in_Mo hown hK hP 0 rfl rfl 0 (by decide) (hw _ w_364) (fun _ h9 => h9) rfl dMo_readNumber_18 ?_
        refine lv_icmp_ge (tgt := 39) hx hb dMo_readNumber_21 (by decide) (fun h21 => ?_) (fun h21 => ?_)
        · skip
          replace h21 := nt_le (a := I.length) (b := ax) (by omega) (by omega) h21
          have hdg := dgo_out h21
          refine lv_iconst (v := (-1)) hx hb dMo_readNumber_39 (by decide) ?_
          refine lv_istore (lv' := [(4, .int (-1)), (3, .int (nI k)), (1, .long (lN wt)), (0, .ref mo)]) hx hb dMo_readNumber_40 hl (by decide) rfl (fun ls hl => ?_)
          refine lv_iload hx hb dMo_readNumber_42 (lv_at hl 0 rfl) ?_
          refine lv_if_ge (tgt := 49) hx hb dMo_readNumber_44 (by decide) (fun h44 => ?_) (fun h44 => ?_)
          · skip
            exact absurd h44 (by decide)
          · skip
            refine lv_iconst (v := (-1)) hx hb dMo_readNumber_47 (by decide) ?_
            exact ret (ax, sm) dMo_readNumber_48 rfl (Or.inr (Or.inl ⟨by rw [← hF]; exact rn_no hdg, rfl⟩)) hP hD hS
        · skip
          replace h21 := nt_nle (a := I.length) (b := ax) (by omega) (by omega) h21
          refine lv_aload_n hx hb dMo_readNumber_24 rfl (lv_at hl 2 rfl) ?_
          refine va_get (D := D) (ci := 5) (v := .ref xI) (C := R_Mo) (T := T_Mo) (N := 19) hx hb hw in_Mo hown hK hP 0 rfl rfl 1 (by decide) (hw _ w_365) (fun _ h9 => h9) rfl dMo_readNumber_25 ?_
          refine lv_aload_n hx hb dMo_readNumber_28 rfl (lv_at hl 2 rfl) ?_
          refine va_get (D := D) (ci := 5) (v := .int (nI ax)) (C := R_Mo) (T := T_Mo) (N := 19) hx hb hw in_Mo hown hK hP 0 rfl rfl 12 (by decide) (hw _ w_376) (fun _ h9 => h9) rfl dMo_readNumber_29 ?_
          refine va_iald hx hb hK hP 1 0 rfl rfl (vp_in_nI (by omega) (by omega)) dMo_readNumber_32 ?_
          refine lv_rei (y := gI ax) (by rw [nI_clamp (by omega)]) ?_
          refine lv_rei (y := un I ax) (Hd_un hfI (by omega)) ?_
          refine ca_i (wr := [(mo, .inr (5, [.int (nI I.length), .ref xI, .int (nI L.length), .ref xL, .int (nI O.length), .ref xO, .int (nI K.length), .ref xK, .int md, .ref xR, .int wr, .ref xW, .int (nI ax), .long (lN sm), .long vl, .long pc_, .int (nI bi), .int tk, .int gd])), (xI, .inl (cA, 120, .inl gI)), (xL, .inl (cA, 120, .inl gL)), (xO, .inl (cA, 400, .inl gO)), (xK, .inl (cA, 120, .inl gK)), (xR, .inl (cA, 121, .inl gR)), (xW, .inl (cA, 1000, .inl gW))]) (va_runS (As := [.int (un I ax)]) (rest := []) Xf (k_Mo_digit l D cA _ (un I ax)) ⟨cb_of 1 hw w_496 w_7 w_494 (by decide +kernel) (by rw [hR]; exact ⟨Nat.le_of_ble_eq_true rfl, Nat.le_of_ble_eq_true rfl⟩), hw _ w_495⟩ (pre_S hP hD hK hn [] rfl (by decide)) rfl rfl hl.1 rfl (lv_room (Nat.le_of_ble_eq_true rfl)) dMo_readNumber_33 ⟨Nat.zero_le _, Nat.zero_le _⟩) hP hD hS hA [] [0, 1, 2, 3, 4, 5, 6] rfl rfl (by decide) (by decide) (fun r33 u_ H locs hq_ hP hD hS => ?_)
          rcases hq_ with ⟨dg, hdg, hd35, rfl⟩ | ⟨hdg, rfl⟩
          · skip
            replace hP : va_P D vwCl [(mo, .inr (5, [.int (nI I.length), .ref xI, .int (nI L.length), .ref xL, .int (nI O.length), .ref xO, .int (nI K.length), .ref xK, .int md, .ref xR, .int wr, .ref xW, .int (nI ax), .long (lN sm), .long vl, .long pc_, .int (nI bi), .int tk, .int gd])), (xI, .inl (cA, 120, .inl gI)), (xL, .inl (cA, 120, .inl gL)), (xO, .inl (cA, 400, .inl gO)), (xK, .inl (cA, 120, .inl gK)), (xR, .inl (cA, 121, .inl gR)), (xW, .inl (cA, 1000, .inl gW))] H := hP.sub [0, 1, 2, 3, 4, 5, 6] rfl
            replace hD : va_D A [(mo, .inr (5, [.int (nI I.length), .ref xI, .int (nI L.length), .ref xL, .int (nI O.length), .ref xO, .int (nI K.length), .ref xK, .int md, .ref xR, .int wr, .ref xW, .int (nI ax), .long (lN sm), .long vl, .long pc_, .int (nI bi), .int tk, .int gd])), (xI, .inl (cA, 120, .inl gI)), (xL, .inl (cA, 120, .inl gL)), (xO, .inl (cA, 400, .inl gO)), (xK, .inl (cA, 120, .inl gK)), (xR, .inl (cA, 121, .inl gR)), (xW, .inl (cA, 1000, .inl gW))] := hD.sub [0, 1, 2, 3, 4, 5, 6] (by decide) rfl
            have hdw : dg * wt ≤ 35 * 2147483647 := Nat.mul_le_mul hd35 hwt
            refine lv_goto (tgt := 40) hx hb dMo_readNumber_36 (by decide) ?_
            refine lv_istore (lv' := [(4, .int (nI dg)), (3, .int (nI k)), (1, .long (lN wt)), (0, .ref mo)]) hx hb dMo_readNumber_40 hl (by decide) rfl (fun ls hl => ?_)
            refine lv_iload hx hb dMo_readNumber_42 (lv_at hl 0 rfl) ?_
            refine lv_if_ge (tgt := 49) hx hb dMo_readNumber_44 (by decide) (fun h44 => ?_) (fun h44 => ?_)
            · skip
              refine lv_aload_n hx hb dMo_readNumber_49 rfl (lv_at hl 3 rfl) ?_
              refine lv_aload_n hx hb dMo_readNumber_50 rfl (lv_at hl 3 rfl) ?_
              refine va_get (D := D) (ci := 5) (v := .int (nI ax)) (C := R_Mo) (T := T_Mo) (N := 19) hx hb hw in_Mo hown hK hP 0 rfl rfl 12 (by decide) (hw _ w_376) (fun _ h9 => h9) rfl dMo_readNumber_51 ?_
              refine lv_iconst (v := nI 1) hx hb dMo_readNumber_54 (by decide) ?_
              refine lv_iadd hx hb dMo_readNumber_55 ?_
              refine lv_rei (y := nI (ax + 1)) (nI_add _ _) ?_
              refine va_put (D := D) (ci := 5) (v := .int (nI (ax + 1))) (ty := .int) (C := R_Mo) (T := T_Mo) (N := 19) hx hb hw in_Mo ty_Mo ty_Mo_ok nm_Mo hown hK hP hD hS 0 rfl rfl 12 (by decide) (hw _ w_376) (fun _ h9 => h9) rfl (by decide +kernel) rfl rfl (Nat.le_of_ble_eq_true rfl) dMo_readNumber_56 (fun H locs hP hD hS => ?_)
              have hP : va_P D vwCl [(mo, .inr (5, [.int (nI I.length), .ref xI, .int (nI L.length), .ref xL, .int (nI O.length), .ref xO, .int (nI K.length), .ref xK, .int md, .ref xR, .int wr, .ref xW, .int (nI (ax + 1)), .long (lN sm), .long vl, .long pc_, .int (nI bi), .int tk, .int gd])), (xI, .inl (cA, 120, .inl gI)), (xL, .inl (cA, 120, .inl gL)), (xO, .inl (cA, 400, .inl gO)), (xK, .inl (cA, 120, .inl gK)), (xR, .inl (cA, 121, .inl gR)), (xW, .inl (cA, 1000, .inl gW))] H := hP
              have hD : va_D A [(mo, .inr (5, [.int (nI I.length), .ref xI, .int (nI L.length), .ref xL, .int (nI O.length), .ref xO, .int (nI K.length), .ref xK, .int md, .ref xR, .int wr, .ref xW, .int (nI (ax + 1)), .long (lN sm), .long vl, .long pc_, .int (nI bi), .int tk, .int gd])), (xI, .inl (cA, 120, .inl gI)), (xL, .inl (cA, 120, .inl gL)), (xO, .inl (cA, 400, .inl gO)), (xK, .inl (cA, 120, .inl gK)), (xR, .inl (cA, 121, .inl gR)), (xW, .inl (cA, 1000, .inl gW))] := hD
              refine lv_aload_n hx hb dMo_readNumber_59 rfl (lv_at hl 3 rfl) ?_
              refine lv_aload_n hx hb dMo_readNumber_60 rfl (lv_at hl 3 rfl) ?_
              refine va_get (D := D) (ci := 5) (v := .long (lN sm)) (C := R_Mo) (T := T_Mo) (N := 19) hx hb hw in_Mo hown hK hP 0 rfl rfl 13 (by decide) (hw _ w_377) (fun _ h9 => h9) rfl dMo_readNumber_61 ?_
              refine lv_iload hx hb dMo_readNumber_64 (lv_at hl 0 rfl) ?_
              refine lv_i2l (v := lN dg) hx hb dMo_readNumber_66 (nI_l (by omega)) ?_
              refine lv_lload_n hx hb dMo_readNumber_67 rfl (lv_at hl 2 rfl) ?_
              refine lv_lmul hx hb dMo_readNumber_68 ?_
              refine lv_rel (y := lN (dg * wt)) (lN_mul _ _) ?_
              refine lv_ladd hx hb dMo_readNumber_69 ?_
              refine lv_rel (y := lN (sm + (dg * wt))) (lN_add _ _) ?_
              refine va_put (D := D) (ci := 5) (v := .long (lN (sm + (dg * wt)))) (ty := .long) (C := R_Mo) (T := T_Mo) (N := 19) hx hb hw in_Mo ty_Mo ty_Mo_ok nm_Mo hown hK hP hD hS 0 rfl rfl 13 (by decide) (hw _ w_377) (fun _ h9 => h9) rfl (by decide +kernel) rfl rfl (Nat.le_of_ble_eq_true rfl) dMo_readNumber_70 (fun H locs hP hD hS => ?_)
              have hP : va_P D vwCl [(mo, .inr (5, [.int (nI I.length), .ref xI, .int (nI L.length), .ref xL, .int (nI O.length), .ref xO, .int (nI K.length), .ref xK, .int md, .ref xR, .int wr, .ref xW, .int (nI (ax + 1)), .long (lN (sm + (dg * wt))), .long vl, .long pc_, .int (nI bi), .int tk, .int gd])), (xI, .inl (cA, 120, .inl gI)), (xL, .inl (cA, 120, .inl gL)), (xO, .inl (cA, 400, .inl gO)), (xK, .inl (cA, 120, .inl gK)), (xR, .inl (cA, 121, .inl gR)), (xW, .inl (cA, 1000, .inl gW))] H := hP
              have hD : va_D A [(mo, .inr (5, [.int (nI I.length), .ref xI, .int (nI L.length), .ref xL, .int (nI O.length), .ref xO, .int (nI K.length), .ref xK, .int md, .ref xR, .int wr, .ref xW, .int (nI (ax + 1)), .long (lN (sm + (dg * wt))), .long vl, .long pc_, .int (nI bi), .int tk, .int gd])), (xI, .inl (cA, 120, .inl gI)), (xL, .inl (cA, 120, .inl gL)), (xO, .inl (cA, 400, .inl gO)), (xK, .inl (cA, 120, .inl gK)), (xR, .inl (cA, 121, .inl gR)), (xW, .inl (cA, 1000, .inl gW))] := hD
              refine lv_aload_n hx hb dMo_readNumber_73 rfl (lv_at hl 3 rfl) ?_
              refine va_get (D := D) (ci := 5) (v := .long (lN (sm + (dg * wt)))) (C := R_Mo) (T := T_Mo) (N := 19) hx hb hw in_Mo hown hK hP 0 rfl rfl 13 (by decide) (hw _ w_377) (fun _ h9 => h9) rfl dMo_readNumber_74 ?_
              refine lv_ldc2 (v := lN 2147483647) hx hb hown (hw _ w_497) dMo_readNumber_77 ?_
              refine W.lcmp hx hb dMo_readNumber_80 ?_
              refine lv_if_le (tgt := 87) hx hb dMo_readNumber_81 (by decide) (fun h81 => ?_) (fun h81 => ?_)
              · skip
                replace h81 := lc_le (a := sm + (dg * wt)) (b := 2147483647) (by omega) (by omega) h81
                refine lv_iload_n hx hb dMo_readNumber_87 rfl (lv_at hl 1 rfl) ?_
                refine lv_aload_n hx hb dMo_readNumber_88 rfl (lv_at hl 3 rfl) ?_
                refine va_get (D := D) (ci := 5) (v := .int (nI bi)) (C := R_Mo) (T := T_Mo) (N := 19) hx hb hw in_Mo hown hK hP 0 rfl rfl 16 (by decide) (hw _ w_380) (fun _ h9 => h9) rfl dMo_readNumber_89 ?_
                refine ca_i (wr := [(mo, .inr (5, [.int (nI I.length), .ref xI, .int (nI L.length), .ref xL, .int (nI O.length), .ref xO, .int (nI K.length), .ref xK, .int md, .ref xR, .int wr, .ref xW, .int (nI (ax + 1)), .long (lN (sm + (dg * wt))), .long vl, .long pc_, .int (nI bi), .int tk, .int gd])), (xI, .inl (cA, 120, .inl gI)), (xL, .inl (cA, 120, .inl gL)), (xO, .inl (cA, 400, .inl gO)), (xK, .inl (cA, 120, .inl gK)), (xR, .inl (cA, 121, .inl gR)), (xW, .inl (cA, 1000, .inl gW))]) (va_runS (As := [.int (nI k), .int (nI bi)]) (rest := []) Xf (k_Mo_threshold l D cA _ k bi (by omega) (by omega)) ⟨cb_of 2 hw w_500 w_7 w_498 (by decide +kernel) (by rw [hR]; exact ⟨Nat.le_of_ble_eq_true rfl, Nat.le_of_ble_eq_true rfl⟩), hw _ w_499⟩ (pre_S hP hD hK hn [] rfl (by decide)) rfl rfl hl.1 rfl (lv_room (Nat.le_of_ble_eq_true rfl)) dMo_readNumber_92 ⟨Nat.zero_le _, Nat.zero_le _⟩) hP hD hS hA [] [0, 1, 2, 3, 4, 5, 6] rfl rfl (by decide) (by decide) (fun r92 u_ H locs hq_ hP hD hS => ?_)
                obtain rfl : r92 = nI (thN bi k) := hq_
                have hth92 := thN_b bi k
                replace hP : va_P D vwCl [(mo, .inr (5, [.int (nI I.length), .ref xI, .int (nI L.length), .ref xL, .int (nI O.length), .ref xO, .int (nI K.length), .ref xK, .int md, .ref xR, .int wr, .ref xW, .int (nI (ax + 1)), .long (lN (sm + (dg * wt))), .long vl, .long pc_, .int (nI bi), .int tk, .int gd])), (xI, .inl (cA, 120, .inl gI)), (xL, .inl (cA, 120, .inl gL)), (xO, .inl (cA, 400, .inl gO)), (xK, .inl (cA, 120, .inl gK)), (xR, .inl (cA, 121, .inl gR)), (xW, .inl (cA, 1000, .inl gW))] H := hP.sub [0, 1, 2, 3, 4, 5, 6] rfl
                replace hD : va_D A [(mo, .inr (5, [.int (nI I.length), .ref xI, .int (nI L.length), .ref xL, .int (nI O.length), .ref xO, .int (nI K.length), .ref xK, .int md, .ref xR, .int wr, .ref xW, .int (nI (ax + 1)), .long (lN (sm + (dg * wt))), .long vl, .long pc_, .int (nI bi), .int tk, .int gd])), (xI, .inl (cA, 120, .inl gI)), (xL, .inl (cA, 120, .inl gL)), (xO, .inl (cA, 400, .inl gO)), (xK, .inl (cA, 120, .inl gK)), (xR, .inl (cA, 121, .inl gR)), (xW, .inl (cA, 1000, .inl gW))] := hD.sub [0, 1, 2, 3, 4, 5, 6] (by decide) rfl
                refine lv_istore (lv' := [(5, .int (nI (thN bi k))), (4, .int (nI dg)), (3, .int (nI k)), (1, .long (lN wt)), (0, .ref mo)]) hx hb dMo_readNumber_95 hl (by decide) rfl (fun ls hl => ?_)
                refine lv_iload hx hb dMo_readNumber_97 (lv_at hl 1 rfl) ?_
                refine lv_iload hx hb dMo_readNumber_99 (lv_at hl 0 rfl) ?_
                refine lv_icmp_ge (tgt := 106) hx hb dMo_readNumber_101 (by decide) (fun h101 => ?_) (fun h101 => ?_)
                · skip
                  replace h101 := nt_le (a := thN bi k) (b := dg) (by omega) (by omega) h101
                  refine lv_lload_n hx hb dMo_readNumber_106 rfl (lv_at hl 3 rfl) ?_
                  refine lv_bipush (v := nI 36) hx hb dMo_readNumber_107 (by decide) ?_
                  refine lv_iload hx hb dMo_readNumber_109 (lv_at hl 0 rfl) ?_
                  refine lv_isub hx hb dMo_readNumber_111 ?_
                  refine lv_rei (y := nI (36 - (thN bi k))) (pk_sub (by omega)) ?_
                  refine lv_i2l (v := lN (36 - (thN bi k))) hx hb dMo_readNumber_112 (nI_l (by omega)) ?_
                  have hwm : wt * (36 - thN bi k) ≤ 2147483647 * 35 := Nat.mul_le_mul hwt (by omega)
                  refine lv_lmul hx hb dMo_readNumber_113 ?_
                  refine lv_rel (y := lN (wt * (36 - (thN bi k)))) (lN_mul _ _) ?_
                  refine lv_lstore_n (lv' := [(1, .long (lN (wt * (36 - (thN bi k))))), (5, .int (nI (thN bi k))), (4, .int (nI dg)), (3, .int (nI k)), (0, .ref mo)]) hx hb dMo_readNumber_114 rfl hl (by decide) rfl (fun ls hl => ?_)
                  refine lv_lload_n hx hb dMo_readNumber_115 rfl (lv_at hl 0 rfl) ?_
                  refine lv_ldc2 (v := lN 2147483647) hx hb hown (hw _ w_497) dMo_readNumber_116 ?_
                  refine W.lcmp hx hb dMo_readNumber_119 ?_
                  refine lv_if_le (tgt := 126) hx hb dMo_readNumber_120 (by decide) (fun h120 => ?_) (fun h120 => ?_)
                  · skip
                    replace h120 := lc_le (a := wt * (36 - (thN bi k))) (b := 2147483647) (by omega) (by omega) h120
                    refine lv_iinc (k := 3) (v := nI (k + 1)) (lv' := [(3, .int (nI (k + 1))), (1, .long (lN (wt * (36 - (thN bi k))))), (5, .int (nI (thN bi k))), (4, .int (nI dg)), (0, .ref mo)]) hx hb dMo_readNumber_126 hl rfl (nI_1 _) (by decide) rfl (fun ls hl => ?_)
                    refine lv_goto (tgt := 9) hx hb dMo_readNumber_129 (by decide) ?_
                    obtain ⟨k2, rfl⟩ : ∃ k2, kf = k2 + 1 := ⟨kf - 1, by omega⟩
                    rw [rn_s hdg, if_neg (by omega), if_neg (by omega), if_neg (by omega)] at hF
                    exact ih_loop1 (k + 1) (ax + 1) (sm + dg * wt) (wt * (36 - thN bi k)) k2 _ _ _ (by omega) (by omega) (by omega) (by omega) (by omega) (by omega) (by omega) hF (lv_sub hl [0, 1, 4] rfl) hP hD hS
                  · skip
                    replace h120 := lc_nle (a := wt * (36 - (thN bi k))) (b := 2147483647) (by omega) (by omega) h120
                    refine lv_bipush (v := (-2)) hx hb dMo_readNumber_123 (by decide) ?_
                    obtain ⟨k2, rfl⟩ : ∃ k2, kf = k2 + 1 := ⟨kf - 1, by omega⟩
                    exact ret (ax + 1, sm + dg * wt) dMo_readNumber_125 rfl (Or.inr (Or.inr ⟨by rw [← hF, rn_s hdg, if_neg (by omega), if_neg (by omega), if_pos (by omega)], rfl⟩)) hP hD hS
                · skip
                  replace h101 := nt_nle (a := thN bi k) (b := dg) (by omega) (by omega) h101
                  refine lv_iconst (v := nI 0) hx hb dMo_readNumber_104 (by decide) ?_
                  obtain ⟨k2, rfl⟩ : ∃ k2, kf = k2 + 1 := ⟨kf - 1, by omega⟩
                  exact ret (ax + 1, sm + dg * wt) dMo_readNumber_105 rfl (Or.inl ⟨by rw [← hF, rn_s hdg, if_neg (by omega), if_pos (by omega)], rfl⟩) hP hD hS
              · skip
                replace h81 := lc_nle (a := sm + (dg * wt)) (b := 2147483647) (by omega) (by omega) h81
                refine lv_bipush (v := (-2)) hx hb dMo_readNumber_84 (by decide) ?_
                obtain ⟨k2, rfl⟩ : ∃ k2, kf = k2 + 1 := ⟨kf - 1, by omega⟩
                exact ret (ax + 1, sm + dg * wt) dMo_readNumber_86 rfl (Or.inr (Or.inr ⟨by rw [← hF, rn_s hdg, if_pos (by omega)], rfl⟩)) hP hD hS
            · skip
              exact absurd (nI_pos' (by omega)) h44
          · skip
            replace hP : va_P D vwCl [(mo, .inr (5, [.int (nI I.length), .ref xI, .int (nI L.length), .ref xL, .int (nI O.length), .ref xO, .int (nI K.length), .ref xK, .int md, .ref xR, .int wr, .ref xW, .int (nI ax), .long (lN sm), .long vl, .long pc_, .int (nI bi), .int tk, .int gd])), (xI, .inl (cA, 120, .inl gI)), (xL, .inl (cA, 120, .inl gL)), (xO, .inl (cA, 400, .inl gO)), (xK, .inl (cA, 120, .inl gK)), (xR, .inl (cA, 121, .inl gR)), (xW, .inl (cA, 1000, .inl gW))] H := hP.sub [0, 1, 2, 3, 4, 5, 6] rfl
            replace hD : va_D A [(mo, .inr (5, [.int (nI I.length), .ref xI, .int (nI L.length), .ref xL, .int (nI O.length), .ref xO, .int (nI K.length), .ref xK, .int md, .ref xR, .int wr, .ref xW, .int (nI ax), .long (lN sm), .long vl, .long pc_, .int (nI bi), .int tk, .int gd])), (xI, .inl (cA, 120, .inl gI)), (xL, .inl (cA, 120, .inl gL)), (xO, .inl (cA, 400, .inl gO)), (xK, .inl (cA, 120, .inl gK)), (xR, .inl (cA, 121, .inl gR)), (xW, .inl (cA, 1000, .inl gW))] := hD.sub [0, 1, 2, 3, 4, 5, 6] (by decide) rfl
            refine lv_goto (tgt := 40) hx hb dMo_readNumber_36 (by decide) ?_
            refine lv_istore (lv' := [(4, .int (-1)), (3, .int (nI k)), (1, .long (lN wt)), (0, .ref mo)]) hx hb dMo_readNumber_40 hl (by decide) rfl (fun ls hl => ?_)
            refine lv_iload hx hb dMo_readNumber_42 (lv_at hl 0 rfl) ?_
            refine lv_if_ge (tgt := 49) hx hb dMo_readNumber_44 (by decide) (fun h44 => ?_) (fun h44 => ?_)
            · skip
              exact absurd h44 (by decide)
            · skip
              refine lv_iconst (v := (-1)) hx hb dMo_readNumber_47 (by decide) ?_
              exact ret (ax, sm) dMo_readNumber_48 rfl (Or.inr (Or.inl ⟨by rw [← hF]; exact rn_no hdg, rfl⟩)) hP hD hS
  exact loop1 _ 1 la 0 1 I.length _ _ _ (Nat.lt_succ_self _) (by omega) (Nat.le_refl _) hla (by omega) (by omega) (by omega) rfl (lv_sub hl [0, 1, 2] rfl) hP hD hS
set_option maxHeartbeats 4000000 in
set_option maxRecDepth 100000 in
theorem k_Mo_putIn (l : Launch) (D : va_G) (cA : ClassId) (sz : Nat) (mo xI xL xO xK xR xW : Nat) (I L O K : List Int32) (gI gL gO gK gR gW : Nat → Int32) ( wr at_ : Int32) ( tk gd : Int32) (bi : Nat) (acc : List Nat) (d va pl : Nat) (fb : Bool) (hfI : Hd gI I) (hcI : I.length ≤ 120) (hfL : Hd gL L) (hcL : L.length ≤ 120) (hfO : Hd gO O) (hcO : O.length ≤ 400) (hfK : Hd gK K) (hcK : K.length ≤ 120) (hfR : Hd gR (acc.map nI)) (hacc : acc.length < 120) (hva : va < 2 ^ 31) (hpl : pl < 2 ^ 31) (hd : d < 2 ^ 31) : KI l D cA y_Mo_putIn c_Mo_putIn 3 .int 1 26 [.ref mo, .int (bI fb)] sz [(mo, .inr (5, [.int (nI I.length), .ref xI, .int (nI L.length), .ref xL, .int (nI O.length), .ref xO, .int (nI K.length), .ref xK, .int (nI acc.length), .ref xR, .int wr, .ref xW, .int at_, .long (lN d), .long (lN va), .long (lN pl), .int (nI bi), .int tk, .int gd])), (xI, .inl (cA, 120, .inl gI)), (xL, .inl (cA, 120, .inl gL)), (xO, .inl (cA, 400, .inl gO)), (xK, .inl (cA, 120, .inl gK)), (xR, .inl (cA, 121, .inl gR)), (xW, .inl (cA, 1000, .inl gW))] (S := (Nat → Int32) × List Nat × Nat × Nat × Nat) (fun r u => match u with | (gR2, acc2, va2, pl2, bi2) => ((2147483647 < pl + d ∨ 2147483647 < va + (pl + d) / (acc.length + 1)) ∧ r = -2) ∨ (¬ (2147483647 < pl + d ∨ 2147483647 < va + (pl + d) / (acc.length + 1)) ∧ ¬ sca (va + (pl + d) / (acc.length + 1)) ∧ r = -4) ∨ (¬ (2147483647 < pl + d ∨ 2147483647 < va + (pl + d) / (acc.length + 1)) ∧ sca (va + (pl + d) / (acc.length + 1)) ∧ r = 0 ∧ acc2 = acc.insertIdx ((pl + d) % (acc.length + 1)) (va + (pl + d) / (acc.length + 1)) ∧ va2 = va + (pl + d) / (acc.length + 1) ∧ pl2 = (pl + d) % (acc.length + 1) + 1 ∧ bi2 = adN d (acc.length + 1) fb ∧ Hd gR2 (acc2.map nI))) (fun u => match u with | (gR2, acc2, va2, pl2, bi2) => [(mo, .inr (5, [.int (nI I.length), .ref xI, .int (nI L.length), .ref xL, .int (nI O.length), .ref xO, .int (nI K.length), .ref xK, .int (nI acc2.length), .ref xR, .int wr, .ref xW, .int at_, .long (lN d), .long (lN va2), .long (lN pl2), .int (nI bi2), .int tk, .int gd])), (xI, .inl (cA, 120, .inl gI)), (xL, .inl (cA, 120, .inl gL)), (xO, .inl (cA, 400, .inl gO)), (xK, .inl (cA, 120, .inl gK)), (xR, .inl (cA, 121, .inl gR2)), (xW, .inl (cA, 1000, .inl gW))]) := by
  refine KI.of (by decide) (Nat.le_of_ble_eq_true rfl) ?_
  intro p e s m args below meth c Q R A ls Xf hR hA hS hP hD hK hn hl ret
  have hx := Xf.1
  have hb := Xf.2.1
  have hown : s.vm.findClass "ScalarScribeModel" = some m.cls := Xf.2.2.2.1
  have hw := Xf.2.2.2.2
  have hl : lv_has ls 3 [(0, .ref mo), (1, .int (bI fb))] := hl
  refine lv_aload_n hx hb dMo_putIn_0 rfl (lv_at hl 0 rfl) ?_
  refine lv_aload_n hx hb dMo_putIn_1 rfl (lv_at hl 0 rfl) ?_
  refine va_get (D := D) (ci := 5) (v := .long (lN pl)) (C := R_Mo) (T := T_Mo) (N := 19) hx hb hw in_Mo hown hK hP 0 rfl rfl 15 (by decide) (hw _ w_379) (fun _ h9 => h9) rfl dMo_putIn_2 ?_
  refine lv_aload_n hx hb dMo_putIn_5 rfl (lv_at hl 0 rfl) ?_
  refine va_get (D := D) (ci := 5) (v := .long (lN d)) (C := R_Mo) (T := T_Mo) (N := 19) hx hb hw in_Mo hown hK hP 0 rfl rfl 13 (by decide) (hw _ w_377) (fun _ h9 => h9) rfl dMo_putIn_6 ?_
  refine lv_ladd hx hb dMo_putIn_9 ?_
  refine lv_rel (y := lN (pl + d)) (lN_add _ _) ?_
  have hdv := Nat.div_le_self (pl + d) (acc.length + 1)
  have hml : (pl + d) % (acc.length + 1) < acc.length + 1 := Nat.mod_lt _ (Nat.succ_pos _)
  have hlm : (acc.map nI).length = acc.length := List.length_map _
  refine va_put (D := D) (ci := 5) (v := .long (lN (pl + d))) (ty := .long) (C := R_Mo) (T := T_Mo) (N := 19) hx hb hw in_Mo ty_Mo ty_Mo_ok nm_Mo hown hK hP hD hS 0 rfl rfl 15 (by decide) (hw _ w_379) (fun _ h9 => h9) rfl (by decide +kernel) rfl rfl (Nat.le_of_ble_eq_true rfl) dMo_putIn_10 (fun H locs hP hD hS => ?_)
  have hP : va_P D vwCl [(mo, .inr (5, [.int (nI I.length), .ref xI, .int (nI L.length), .ref xL, .int (nI O.length), .ref xO, .int (nI K.length), .ref xK, .int (nI acc.length), .ref xR, .int wr, .ref xW, .int at_, .long (lN d), .long (lN va), .long (lN (pl + d)), .int (nI bi), .int tk, .int gd])), (xI, .inl (cA, 120, .inl gI)), (xL, .inl (cA, 120, .inl gL)), (xO, .inl (cA, 400, .inl gO)), (xK, .inl (cA, 120, .inl gK)), (xR, .inl (cA, 121, .inl gR)), (xW, .inl (cA, 1000, .inl gW))] H := hP
  have hD : va_D A [(mo, .inr (5, [.int (nI I.length), .ref xI, .int (nI L.length), .ref xL, .int (nI O.length), .ref xO, .int (nI K.length), .ref xK, .int (nI acc.length), .ref xR, .int wr, .ref xW, .int at_, .long (lN d), .long (lN va), .long (lN (pl + d)), .int (nI bi), .int tk, .int gd])), (xI, .inl (cA, 120, .inl gI)), (xL, .inl (cA, 120, .inl gL)), (xO, .inl (cA, 400, .inl gO)), (xK, .inl (cA, 120, .inl gK)), (xR, .inl (cA, 121, .inl gR)), (xW, .inl (cA, 1000, .inl gW))] := hD
  refine lv_aload_n hx hb dMo_putIn_13 rfl (lv_at hl 0 rfl) ?_
  refine va_get (D := D) (ci := 5) (v := .long (lN (pl + d))) (C := R_Mo) (T := T_Mo) (N := 19) hx hb hw in_Mo hown hK hP 0 rfl rfl 15 (by decide) (hw _ w_379) (fun _ h9 => h9) rfl dMo_putIn_14 ?_
  refine lv_ldc2 (v := lN 2147483647) hx hb hown (hw _ w_497) dMo_putIn_17 ?_
  refine W.lcmp hx hb dMo_putIn_20 ?_
  refine lv_if_le (tgt := 27) hx hb dMo_putIn_21 (by decide) (fun h21 => ?_) (fun h21 => ?_)
  · skip
    replace h21 := lc_le (a := pl + d) (b := 2147483647) (by omega) (by omega) h21
    refine lv_aload_n hx hb dMo_putIn_27 rfl (lv_at hl 0 rfl) ?_
    refine lv_aload_n hx hb dMo_putIn_28 rfl (lv_at hl 0 rfl) ?_
    refine va_get (D := D) (ci := 5) (v := .long (lN va)) (C := R_Mo) (T := T_Mo) (N := 19) hx hb hw in_Mo hown hK hP 0 rfl rfl 14 (by decide) (hw _ w_378) (fun _ h9 => h9) rfl dMo_putIn_29 ?_
    refine lv_aload_n hx hb dMo_putIn_32 rfl (lv_at hl 0 rfl) ?_
    refine va_get (D := D) (ci := 5) (v := .long (lN (pl + d))) (C := R_Mo) (T := T_Mo) (N := 19) hx hb hw in_Mo hown hK hP 0 rfl rfl 15 (by decide) (hw _ w_379) (fun _ h9 => h9) rfl dMo_putIn_33 ?_
    refine lv_aload_n hx hb dMo_putIn_36 rfl (lv_at hl 0 rfl) ?_
    refine va_get (D := D) (ci := 5) (v := .int (nI acc.length)) (C := R_Mo) (T := T_Mo) (N := 19) hx hb hw in_Mo hown hK hP 0 rfl rfl 8 (by decide) (hw _ w_372) (fun _ h9 => h9) rfl dMo_putIn_37 ?_
    refine lv_iconst (v := nI 1) hx hb dMo_putIn_40 (by decide) ?_
    refine lv_iadd hx hb dMo_putIn_41 ?_
    refine lv_rei (y := nI (acc.length + 1)) (nI_add _ _) ?_
    refine lv_i2l (v := lN (acc.length + 1)) hx hb dMo_putIn_42 (nI_l (by omega)) ?_
    refine lv_ldiv hx hb dMo_putIn_43 (lN_ne0 (by omega) (by omega)) ?_
    refine lv_rel (y := lN ((pl + d) / (acc.length + 1))) (pk_lDiv (by omega) (by omega) (by omega)) ?_
    refine lv_ladd hx hb dMo_putIn_44 ?_
    refine lv_rel (y := lN (va + ((pl + d) / (acc.length + 1)))) (lN_add _ _) ?_
    refine va_put (D := D) (ci := 5) (v := .long (lN (va + ((pl + d) / (acc.length + 1))))) (ty := .long) (C := R_Mo) (T := T_Mo) (N := 19) hx hb hw in_Mo ty_Mo ty_Mo_ok nm_Mo hown hK hP hD hS 0 rfl rfl 14 (by decide) (hw _ w_378) (fun _ h9 => h9) rfl (by decide +kernel) rfl rfl (Nat.le_of_ble_eq_true rfl) dMo_putIn_45 (fun H locs hP hD hS => ?_)
    have hP : va_P D vwCl [(mo, .inr (5, [.int (nI I.length), .ref xI, .int (nI L.length), .ref xL, .int (nI O.length), .ref xO, .int (nI K.length), .ref xK, .int (nI acc.length), .ref xR, .int wr, .ref xW, .int at_, .long (lN d), .long (lN (va + ((pl + d) / (acc.length + 1)))), .long (lN (pl + d)), .int (nI bi), .int tk, .int gd])), (xI, .inl (cA, 120, .inl gI)), (xL, .inl (cA, 120, .inl gL)), (xO, .inl (cA, 400, .inl gO)), (xK, .inl (cA, 120, .inl gK)), (xR, .inl (cA, 121, .inl gR)), (xW, .inl (cA, 1000, .inl gW))] H := hP
    have hD : va_D A [(mo, .inr (5, [.int (nI I.length), .ref xI, .int (nI L.length), .ref xL, .int (nI O.length), .ref xO, .int (nI K.length), .ref xK, .int (nI acc.length), .ref xR, .int wr, .ref xW, .int at_, .long (lN d), .long (lN (va + ((pl + d) / (acc.length + 1)))), .long (lN (pl + d)), .int (nI bi), .int tk, .int gd])), (xI, .inl (cA, 120, .inl gI)), (xL, .inl (cA, 120, .inl gL)), (xO, .inl (cA, 400, .inl gO)), (xK, .inl (cA, 120, .inl gK)), (xR, .inl (cA, 121, .inl gR)), (xW, .inl (cA, 1000, .inl gW))] := hD
    refine lv_aload_n hx hb dMo_putIn_48 rfl (lv_at hl 0 rfl) ?_
    refine lv_aload_n hx hb dMo_putIn_49 rfl (lv_at hl 0 rfl) ?_
    refine va_get (D := D) (ci := 5) (v := .long (lN (pl + d))) (C := R_Mo) (T := T_Mo) (N := 19) hx hb hw in_Mo hown hK hP 0 rfl rfl 15 (by decide) (hw _ w_379) (fun _ h9 => h9) rfl dMo_putIn_50 ?_
    refine lv_aload_n hx hb dMo_putIn_53 rfl (lv_at hl 0 rfl) ?_
    refine va_get (D := D) (ci := 5) (v := .int (nI acc.length)) (C := R_Mo) (T := T_Mo) (N := 19) hx hb hw in_Mo hown hK hP 0 rfl rfl 8 (by decide) (hw _ w_372) (fun _ h9 => h9) rfl dMo_putIn_54 ?_
    refine lv_iconst (v := nI 1) hx hb dMo_putIn_57 (by decide) ?_
    refine lv_iadd hx hb dMo_putIn_58 ?_
    refine lv_rei (y := nI (acc.length + 1)) (nI_add _ _) ?_
    refine lv_i2l (v := lN (acc.length + 1)) hx hb dMo_putIn_59 (nI_l (by omega)) ?_
    refine lv_lrem hx hb dMo_putIn_60 (lN_ne0 (by omega) (by omega)) ?_
    refine lv_rel (y := lN ((pl + d) % (acc.length + 1))) (pk_lRem (by omega) (by omega) (by omega)) ?_
    refine va_put (D := D) (ci := 5) (v := .long (lN ((pl + d) % (acc.length + 1)))) (ty := .long) (C := R_Mo) (T := T_Mo) (N := 19) hx hb hw in_Mo ty_Mo ty_Mo_ok nm_Mo hown hK hP hD hS 0 rfl rfl 15 (by decide) (hw _ w_379) (fun _ h9 => h9) rfl (by decide +kernel) rfl rfl (Nat.le_of_ble_eq_true rfl) dMo_putIn_61 (fun H locs hP hD hS => ?_)
    have hP : va_P D vwCl [(mo, .inr (5, [.int (nI I.length), .ref xI, .int (nI L.length), .ref xL, .int (nI O.length), .ref xO, .int (nI K.length), .ref xK, .int (nI acc.length), .ref xR, .int wr, .ref xW, .int at_, .long (lN d), .long (lN (va + ((pl + d) / (acc.length + 1)))), .long (lN ((pl + d) % (acc.length + 1))), .int (nI bi), .int tk, .int gd])), (xI, .inl (cA, 120, .inl gI)), (xL, .inl (cA, 120, .inl gL)), (xO, .inl (cA, 400, .inl gO)), (xK, .inl (cA, 120, .inl gK)), (xR, .inl (cA, 121, .inl gR)), (xW, .inl (cA, 1000, .inl gW))] H := hP
    have hD : va_D A [(mo, .inr (5, [.int (nI I.length), .ref xI, .int (nI L.length), .ref xL, .int (nI O.length), .ref xO, .int (nI K.length), .ref xK, .int (nI acc.length), .ref xR, .int wr, .ref xW, .int at_, .long (lN d), .long (lN (va + ((pl + d) / (acc.length + 1)))), .long (lN ((pl + d) % (acc.length + 1))), .int (nI bi), .int tk, .int gd])), (xI, .inl (cA, 120, .inl gI)), (xL, .inl (cA, 120, .inl gL)), (xO, .inl (cA, 400, .inl gO)), (xK, .inl (cA, 120, .inl gK)), (xR, .inl (cA, 121, .inl gR)), (xW, .inl (cA, 1000, .inl gW))] := hD
    refine lv_aload_n hx hb dMo_putIn_64 rfl (lv_at hl 0 rfl) ?_
    refine va_get (D := D) (ci := 5) (v := .long (lN (va + ((pl + d) / (acc.length + 1))))) (C := R_Mo) (T := T_Mo) (N := 19) hx hb hw in_Mo hown hK hP 0 rfl rfl 14 (by decide) (hw _ w_378) (fun _ h9 => h9) rfl dMo_putIn_65 ?_
    refine lv_ldc2 (v := lN 2147483647) hx hb hown (hw _ w_497) dMo_putIn_68 ?_
    refine W.lcmp hx hb dMo_putIn_71 ?_
    refine lv_if_le (tgt := 78) hx hb dMo_putIn_72 (by decide) (fun h72 => ?_) (fun h72 => ?_)
    · skip
      replace h72 := lc_le (a := va + ((pl + d) / (acc.length + 1))) (b := 2147483647) (by omega) (by omega) h72
      refine lv_aload_n hx hb dMo_putIn_78 rfl (lv_at hl 0 rfl) ?_
      refine va_get (D := D) (ci := 5) (v := .long (lN (va + ((pl + d) / (acc.length + 1))))) (C := R_Mo) (T := T_Mo) (N := 19) hx hb hw in_Mo hown hK hP 0 rfl rfl 14 (by decide) (hw _ w_378) (fun _ h9 => h9) rfl dMo_putIn_79 ?_
      refine ca_i (wr := [(mo, .inr (5, [.int (nI I.length), .ref xI, .int (nI L.length), .ref xL, .int (nI O.length), .ref xO, .int (nI K.length), .ref xK, .int (nI acc.length), .ref xR, .int wr, .ref xW, .int at_, .long (lN d), .long (lN (va + ((pl + d) / (acc.length + 1)))), .long (lN ((pl + d) % (acc.length + 1))), .int (nI bi), .int tk, .int gd])), (xI, .inl (cA, 120, .inl gI)), (xL, .inl (cA, 120, .inl gL)), (xO, .inl (cA, 400, .inl gO)), (xK, .inl (cA, 120, .inl gK)), (xR, .inl (cA, 121, .inl gR)), (xW, .inl (cA, 1000, .inl gW))]) (va_runS (As := [.long (lN (va + ((pl + d) / (acc.length + 1))))]) (rest := []) Xf (k_Mo_isScalar l D cA _ (va + ((pl + d) / (acc.length + 1))) (by omega)) ⟨cb_of 1 hw w_507 w_7 w_505 (by decide +kernel) (by rw [hR]; exact ⟨Nat.le_of_ble_eq_true rfl, Nat.le_of_ble_eq_true rfl⟩), hw _ w_506⟩ (pre_S hP hD hK hn [] rfl (by decide)) rfl rfl hl.1 rfl (lv_room (Nat.le_of_ble_eq_true rfl)) dMo_putIn_82 ⟨Nat.zero_le _, Nat.zero_le _⟩) hP hD hS hA [] [0, 1, 2, 3, 4, 5, 6] rfl rfl (by decide) (by decide) (fun r82 u_ H locs hq_ hP hD hS => ?_)
      rcases hq_ with ⟨hk82_1, rfl⟩ | ⟨hk82_1, rfl⟩
      · skip
        replace hP : va_P D vwCl [(mo, .inr (5, [.int (nI I.length), .ref xI, .int (nI L.length), .ref xL, .int (nI O.length), .ref xO, .int (nI K.length), .ref xK, .int (nI acc.length), .ref xR, .int wr, .ref xW, .int at_, .long (lN d), .long (lN (va + ((pl + d) / (acc.length + 1)))), .long (lN ((pl + d) % (acc.length + 1))), .int (nI bi), .int tk, .int gd])), (xI, .inl (cA, 120, .inl gI)), (xL, .inl (cA, 120, .inl gL)), (xO, .inl (cA, 400, .inl gO)), (xK, .inl (cA, 120, .inl gK)), (xR, .inl (cA, 121, .inl gR)), (xW, .inl (cA, 1000, .inl gW))] H := hP.sub [0, 1, 2, 3, 4, 5, 6] rfl
        replace hD : va_D A [(mo, .inr (5, [.int (nI I.length), .ref xI, .int (nI L.length), .ref xL, .int (nI O.length), .ref xO, .int (nI K.length), .ref xK, .int (nI acc.length), .ref xR, .int wr, .ref xW, .int at_, .long (lN d), .long (lN (va + ((pl + d) / (acc.length + 1)))), .long (lN ((pl + d) % (acc.length + 1))), .int (nI bi), .int tk, .int gd])), (xI, .inl (cA, 120, .inl gI)), (xL, .inl (cA, 120, .inl gL)), (xO, .inl (cA, 400, .inl gO)), (xK, .inl (cA, 120, .inl gK)), (xR, .inl (cA, 121, .inl gR)), (xW, .inl (cA, 1000, .inl gW))] := hD.sub [0, 1, 2, 3, 4, 5, 6] (by decide) rfl
        refine lv_if_ne (tgt := 91) hx hb dMo_putIn_85 (by decide) (fun h85 => ?_) (fun h85 => ?_)
        · skip
          refine lv_aload_n hx hb dMo_putIn_91 rfl (lv_at hl 0 rfl) ?_
          refine va_get (D := D) (ci := 5) (v := .int (nI acc.length)) (C := R_Mo) (T := T_Mo) (N := 19) hx hb hw in_Mo hown hK hP 0 rfl rfl 8 (by decide) (hw _ w_372) (fun _ h9 => h9) rfl dMo_putIn_92 ?_
          refine lv_bipush (v := nI 120) hx hb dMo_putIn_95 (by decide) ?_
          refine lv_icmp_ne (tgt := 103) hx hb dMo_putIn_97 (by decide) (fun h97 => ?_) (fun h97 => ?_)
          · skip
            refine lv_aload_n hx hb dMo_putIn_103 rfl (lv_at hl 0 rfl) ?_
            refine va_get (D := D) (ci := 5) (v := .int (nI acc.length)) (C := R_Mo) (T := T_Mo) (N := 19) hx hb hw in_Mo hown hK hP 0 rfl rfl 8 (by decide) (hw _ w_372) (fun _ h9 => h9) rfl dMo_putIn_104 ?_
            refine lv_istore_n (lv' := [(2, .int (nI acc.length)), (0, .ref mo), (1, .int (bI fb))]) hx hb dMo_putIn_107 rfl hl (by decide) rfl (fun ls hl => ?_)
            replace hP : va_P D vwCl [(mo, .inr (5, [.int (nI I.length), .ref xI, .int (nI L.length), .ref xL, .int (nI O.length), .ref xO, .int (nI K.length), .ref xK, .int (nI acc.length), .ref xR, .int wr, .ref xW, .int at_, .long (lN d), .long (lN (va + (pl + d) / (acc.length + 1))), .long (lN ((pl + d) % (acc.length + 1))), .int (nI bi), .int tk, .int gd])), (xI, .inl (cA, 120, .inl gI)), (xL, .inl (cA, 120, .inl gL)), (xO, .inl (cA, 400, .inl gO)), (xK, .inl (cA, 120, .inl gK)), (xR, .inl (cA, 121, .inl (sh gR acc.length acc.length))), (xW, .inl (cA, 1000, .inl gW))] H := by rw [sh_0]; exact hP
            replace hD : va_D A [(mo, .inr (5, [.int (nI I.length), .ref xI, .int (nI L.length), .ref xL, .int (nI O.length), .ref xO, .int (nI K.length), .ref xK, .int (nI acc.length), .ref xR, .int wr, .ref xW, .int at_, .long (lN d), .long (lN (va + (pl + d) / (acc.length + 1))), .long (lN ((pl + d) % (acc.length + 1))), .int (nI bi), .int tk, .int gd])), (xI, .inl (cA, 120, .inl gI)), (xL, .inl (cA, 120, .inl gL)), (xO, .inl (cA, 400, .inl gO)), (xK, .inl (cA, 120, .inl gK)), (xR, .inl (cA, 121, .inl (sh gR acc.length acc.length))), (xW, .inl (cA, 1000, .inl gW))] := by rw [sh_0]; exact hD
            have loop1 : ∀ (n_ : Nat) (i : Nat) (ls : Array Slot) (H : Heap) (locs : List Loc), i < n_ → (pl + d) % (acc.length + 1) ≤ i → i ≤ acc.length → lv_has ls 3 [(2, .int (nI i)), (0, .ref mo), (1, .int (bI fb))] → va_P D vwCl [(mo, .inr (5, [.int (nI I.length), .ref xI, .int (nI L.length), .ref xL, .int (nI O.length), .ref xO, .int (nI K.length), .ref xK, .int (nI acc.length), .ref xR, .int wr, .ref xW, .int at_, .long (lN d), .long (lN (va + (pl + d) / (acc.length + 1))), .long (lN ((pl + d) % (acc.length + 1))), .int (nI bi), .int tk, .int gd])), (xI, .inl (cA, 120, .inl gI)), (xL, .inl (cA, 120, .inl gL)), (xO, .inl (cA, 400, .inl gO)), (xK, .inl (cA, 120, .inl gK)), (xR, .inl (cA, 121, .inl (sh gR i acc.length))), (xW, .inl (cA, 1000, .inl gW))] H → va_D A [(mo, .inr (5, [.int (nI I.length), .ref xI, .int (nI L.length), .ref xL, .int (nI O.length), .ref xO, .int (nI K.length), .ref xK, .int (nI acc.length), .ref xR, .int wr, .ref xW, .int at_, .long (lN d), .long (lN (va + (pl + d) / (acc.length + 1))), .long (lN ((pl + d) % (acc.length + 1))), .int (nI bi), .int tk, .int gd])), (xI, .inl (cA, 120, .inl gI)), (xL, .inl (cA, 120, .inl gL)), (xO, .inl (cA, 400, .inl gO)), (xK, .inl (cA, 120, .inl gK)), (xR, .inl (cA, 121, .inl (sh gR i acc.length))), (xW, .inl (cA, 1000, .inl gW))] → va_S A s.heap H locs → W p l e R s m args below meth c H locs 0 0 Q (F0 m 108 ls []) := by
              intro n_
              induction n_ with
              | zero => intro i ls H locs hm_; exact absurd hm_ (Nat.not_lt_zero _)
              | succ n_ ih_loop1 =>
                intro i ls H locs hm_ hi1 hi2 hl hP hD hS
                refine lv_iload_n hx hb dMo_putIn_108 rfl (lv_at hl 0 rfl) ?_
                refine lv_i2l (v := lN i) hx hb dMo_putIn_109 (nI_l (by omega)) ?_
                refine lv_aload_n hx hb dMo_putIn_110 rfl (lv_at hl 1 rfl) ?_
                refine va_get (D := D) (ci := 5) (v := .long (lN ((pl + d) % (acc.length + 1)))) (C := R_Mo) (T := T_Mo) (N := 19) hx hb hw in_Mo hown hK hP 0 rfl rfl 15 (by decide) (hw _ w_379) (fun _ h9 => h9) rfl dMo_putIn_111 ?_
                refine W.lcmp hx hb dMo_putIn_114 ?_
                refine lv_if_le (tgt := 138) hx hb dMo_putIn_115 (by decide) (fun h115 => ?_) (fun h115 => ?_)
                · skip
                  replace h115 := lc_le (a := i) (b := (pl + d) % (acc.length + 1)) (by omega) (by omega) h115
                  obtain rfl : i = (pl + d) % (acc.length + 1) := by omega
                  refine lv_aload_n hx hb dMo_putIn_138 rfl (lv_at hl 1 rfl) ?_
                  refine va_get (D := D) (ci := 5) (v := .ref xR) (C := R_Mo) (T := T_Mo) (N := 19) hx hb hw in_Mo hown hK hP 0 rfl rfl 9 (by decide) (hw _ w_373) (fun _ h9 => h9) rfl dMo_putIn_139 ?_
                  refine lv_aload_n hx hb dMo_putIn_142 rfl (lv_at hl 1 rfl) ?_
                  refine va_get (D := D) (ci := 5) (v := .long (lN ((pl + d) % (acc.length + 1)))) (C := R_Mo) (T := T_Mo) (N := 19) hx hb hw in_Mo hown hK hP 0 rfl rfl 15 (by decide) (hw _ w_379) (fun _ h9 => h9) rfl dMo_putIn_143 ?_
                  refine lv_l2i (v := nI ((pl + d) % (acc.length + 1))) hx hb dMo_putIn_146 (lN_i _) ?_
                  refine lv_aload_n hx hb dMo_putIn_147 rfl (lv_at hl 1 rfl) ?_
                  refine va_get (D := D) (ci := 5) (v := .long (lN (va + (pl + d) / (acc.length + 1)))) (C := R_Mo) (T := T_Mo) (N := 19) hx hb hw in_Mo hown hK hP 0 rfl rfl 14 (by decide) (hw _ w_378) (fun _ h9 => h9) rfl dMo_putIn_148 ?_
                  refine lv_l2i (v := nI (va + (pl + d) / (acc.length + 1))) hx hb dMo_putIn_151 (lN_i _) ?_
                  refine va_iast hx hb hK hP hD hS 5 0 rfl rfl (vp_in_nI (by omega) (by omega)) dMo_putIn_152 (fun H locs hP hD hS => ?_)
                  rw [nI_clamp (by omega)] at hP hD
                  have hP : va_P D vwCl [(mo, .inr (5, [.int (nI I.length), .ref xI, .int (nI L.length), .ref xL, .int (nI O.length), .ref xO, .int (nI K.length), .ref xK, .int (nI acc.length), .ref xR, .int wr, .ref xW, .int at_, .long (lN d), .long (lN (va + (pl + d) / (acc.length + 1))), .long (lN ((pl + d) % (acc.length + 1))), .int (nI bi), .int tk, .int gd])), (xI, .inl (cA, 120, .inl gI)), (xL, .inl (cA, 120, .inl gL)), (xO, .inl (cA, 400, .inl gO)), (xK, .inl (cA, 120, .inl gK)), (xR, .inl (cA, 121, .inl (upd (sh gR ((pl + d) % (acc.length + 1)) acc.length) ((pl + d) % (acc.length + 1)) (nI (va + (pl + d) / (acc.length + 1)))))), (xW, .inl (cA, 1000, .inl gW))] H := hP
                  have hD : va_D A [(mo, .inr (5, [.int (nI I.length), .ref xI, .int (nI L.length), .ref xL, .int (nI O.length), .ref xO, .int (nI K.length), .ref xK, .int (nI acc.length), .ref xR, .int wr, .ref xW, .int at_, .long (lN d), .long (lN (va + (pl + d) / (acc.length + 1))), .long (lN ((pl + d) % (acc.length + 1))), .int (nI bi), .int tk, .int gd])), (xI, .inl (cA, 120, .inl gI)), (xL, .inl (cA, 120, .inl gL)), (xO, .inl (cA, 400, .inl gO)), (xK, .inl (cA, 120, .inl gK)), (xR, .inl (cA, 121, .inl (upd (sh gR ((pl + d) % (acc.length + 1)) acc.length) ((pl + d) % (acc.length + 1)) (nI (va + (pl + d) / (acc.length + 1)))))), (xW, .inl (cA, 1000, .inl gW))] := hD
                  refine lv_aload_n hx hb dMo_putIn_153 rfl (lv_at hl 1 rfl) ?_
                  refine lv_aload_n hx hb dMo_putIn_154 rfl (lv_at hl 1 rfl) ?_
                  refine va_get (D := D) (ci := 5) (v := .int (nI acc.length)) (C := R_Mo) (T := T_Mo) (N := 19) hx hb hw in_Mo hown hK hP 0 rfl rfl 8 (by decide) (hw _ w_372) (fun _ h9 => h9) rfl dMo_putIn_155 ?_
                  refine lv_iconst (v := nI 1) hx hb dMo_putIn_158 (by decide) ?_
                  refine lv_iadd hx hb dMo_putIn_159 ?_
                  refine lv_rei (y := nI (acc.length + 1)) (nI_add _ _) ?_
                  refine va_put (D := D) (ci := 5) (v := .int (nI (acc.length + 1))) (ty := .int) (C := R_Mo) (T := T_Mo) (N := 19) hx hb hw in_Mo ty_Mo ty_Mo_ok nm_Mo hown hK hP hD hS 0 rfl rfl 8 (by decide) (hw _ w_372) (fun _ h9 => h9) rfl (by decide +kernel) rfl rfl (Nat.le_of_ble_eq_true rfl) dMo_putIn_160 (fun H locs hP hD hS => ?_)
                  have hP : va_P D vwCl [(mo, .inr (5, [.int (nI I.length), .ref xI, .int (nI L.length), .ref xL, .int (nI O.length), .ref xO, .int (nI K.length), .ref xK, .int (nI (acc.length + 1)), .ref xR, .int wr, .ref xW, .int at_, .long (lN d), .long (lN (va + (pl + d) / (acc.length + 1))), .long (lN ((pl + d) % (acc.length + 1))), .int (nI bi), .int tk, .int gd])), (xI, .inl (cA, 120, .inl gI)), (xL, .inl (cA, 120, .inl gL)), (xO, .inl (cA, 400, .inl gO)), (xK, .inl (cA, 120, .inl gK)), (xR, .inl (cA, 121, .inl (upd (sh gR ((pl + d) % (acc.length + 1)) acc.length) ((pl + d) % (acc.length + 1)) (nI (va + (pl + d) / (acc.length + 1)))))), (xW, .inl (cA, 1000, .inl gW))] H := hP
                  have hD : va_D A [(mo, .inr (5, [.int (nI I.length), .ref xI, .int (nI L.length), .ref xL, .int (nI O.length), .ref xO, .int (nI K.length), .ref xK, .int (nI (acc.length + 1)), .ref xR, .int wr, .ref xW, .int at_, .long (lN d), .long (lN (va + (pl + d) / (acc.length + 1))), .long (lN ((pl + d) % (acc.length + 1))), .int (nI bi), .int tk, .int gd])), (xI, .inl (cA, 120, .inl gI)), (xL, .inl (cA, 120, .inl gL)), (xO, .inl (cA, 400, .inl gO)), (xK, .inl (cA, 120, .inl gK)), (xR, .inl (cA, 121, .inl (upd (sh gR ((pl + d) % (acc.length + 1)) acc.length) ((pl + d) % (acc.length + 1)) (nI (va + (pl + d) / (acc.length + 1)))))), (xW, .inl (cA, 1000, .inl gW))] := hD
                  have hil : acc.length + 1 = (acc.insertIdx ((pl + d) % (acc.length + 1)) (va + (pl + d) / (acc.length + 1))).length := (List.length_insertIdx_of_le_length (by omega) _).symm
                  have hfn := Hd_ins (x := nI (va + (pl + d) / (acc.length + 1))) (j := (pl + d) % (acc.length + 1)) hfR (by omega)
                  rw [map_ins, hlm] at hfn
                  refine lv_aload_n hx hb dMo_putIn_163 rfl (lv_at hl 1 rfl) ?_
                  refine lv_aload_n hx hb dMo_putIn_164 rfl (lv_at hl 1 rfl) ?_
                  refine va_get (D := D) (ci := 5) (v := .long (lN ((pl + d) % (acc.length + 1)))) (C := R_Mo) (T := T_Mo) (N := 19) hx hb hw in_Mo hown hK hP 0 rfl rfl 15 (by decide) (hw _ w_379) (fun _ h9 => h9) rfl dMo_putIn_165 ?_
                  refine lv_lconst (v := lN 1) hx hb dMo_putIn_168 (by decide) ?_
                  refine lv_ladd hx hb dMo_putIn_169 ?_
                  refine lv_rel (y := lN ((pl + d) % (acc.length + 1) + 1)) (lN_add _ _) ?_
                  refine va_put (D := D) (ci := 5) (v := .long (lN ((pl + d) % (acc.length + 1) + 1))) (ty := .long) (C := R_Mo) (T := T_Mo) (N := 19) hx hb hw in_Mo ty_Mo ty_Mo_ok nm_Mo hown hK hP hD hS 0 rfl rfl 15 (by decide) (hw _ w_379) (fun _ h9 => h9) rfl (by decide +kernel) rfl rfl (Nat.le_of_ble_eq_true rfl) dMo_putIn_170 (fun H locs hP hD hS => ?_)
                  have hP : va_P D vwCl [(mo, .inr (5, [.int (nI I.length), .ref xI, .int (nI L.length), .ref xL, .int (nI O.length), .ref xO, .int (nI K.length), .ref xK, .int (nI (acc.length + 1)), .ref xR, .int wr, .ref xW, .int at_, .long (lN d), .long (lN (va + (pl + d) / (acc.length + 1))), .long (lN ((pl + d) % (acc.length + 1) + 1)), .int (nI bi), .int tk, .int gd])), (xI, .inl (cA, 120, .inl gI)), (xL, .inl (cA, 120, .inl gL)), (xO, .inl (cA, 400, .inl gO)), (xK, .inl (cA, 120, .inl gK)), (xR, .inl (cA, 121, .inl (upd (sh gR ((pl + d) % (acc.length + 1)) acc.length) ((pl + d) % (acc.length + 1)) (nI (va + (pl + d) / (acc.length + 1)))))), (xW, .inl (cA, 1000, .inl gW))] H := hP
                  have hD : va_D A [(mo, .inr (5, [.int (nI I.length), .ref xI, .int (nI L.length), .ref xL, .int (nI O.length), .ref xO, .int (nI K.length), .ref xK, .int (nI (acc.length + 1)), .ref xR, .int wr, .ref xW, .int at_, .long (lN d), .long (lN (va + (pl + d) / (acc.length + 1))), .long (lN ((pl + d) % (acc.length + 1) + 1)), .int (nI bi), .int tk, .int gd])), (xI, .inl (cA, 120, .inl gI)), (xL, .inl (cA, 120, .inl gL)), (xO, .inl (cA, 400, .inl gO)), (xK, .inl (cA, 120, .inl gK)), (xR, .inl (cA, 121, .inl (upd (sh gR ((pl + d) % (acc.length + 1)) acc.length) ((pl + d) % (acc.length + 1)) (nI (va + (pl + d) / (acc.length + 1)))))), (xW, .inl (cA, 1000, .inl gW))] := hD
                  refine lv_aload_n hx hb dMo_putIn_173 rfl (lv_at hl 1 rfl) ?_
                  refine lv_aload_n hx hb dMo_putIn_174 rfl (lv_at hl 1 rfl) ?_
                  refine va_get (D := D) (ci := 5) (v := .long (lN d)) (C := R_Mo) (T := T_Mo) (N := 19) hx hb hw in_Mo hown hK hP 0 rfl rfl 13 (by decide) (hw _ w_377) (fun _ h9 => h9) rfl dMo_putIn_175 ?_
                  refine lv_aload_n hx hb dMo_putIn_178 rfl (lv_at hl 1 rfl) ?_
                  refine va_get (D := D) (ci := 5) (v := .int (nI (acc.length + 1))) (C := R_Mo) (T := T_Mo) (N := 19) hx hb hw in_Mo hown hK hP 0 rfl rfl 8 (by decide) (hw _ w_372) (fun _ h9 => h9) rfl dMo_putIn_179 ?_
                  refine lv_iload_n hx hb dMo_putIn_182 rfl (lv_at hl 2 rfl) ?_
                  refine ca_i (wr := [(mo, .inr (5, [.int (nI I.length), .ref xI, .int (nI L.length), .ref xL, .int (nI O.length), .ref xO, .int (nI K.length), .ref xK, .int (nI (acc.length + 1)), .ref xR, .int wr, .ref xW, .int at_, .long (lN d), .long (lN (va + (pl + d) / (acc.length + 1))), .long (lN ((pl + d) % (acc.length + 1) + 1)), .int (nI bi), .int tk, .int gd])), (xI, .inl (cA, 120, .inl gI)), (xL, .inl (cA, 120, .inl gL)), (xO, .inl (cA, 400, .inl gO)), (xK, .inl (cA, 120, .inl gK)), (xR, .inl (cA, 121, .inl (upd (sh gR ((pl + d) % (acc.length + 1)) acc.length) ((pl + d) % (acc.length + 1)) (nI (va + (pl + d) / (acc.length + 1)))))), (xW, .inl (cA, 1000, .inl gW))]) (va_runS (As := [.long (lN d), .int (nI (acc.length + 1)), .int (bI fb)]) (rest := [.ref mo]) Xf (k_Mo_adapted l D cA _ d (acc.length + 1) fb (by omega) (by omega) (by omega)) ⟨cb_of 3 hw w_513 w_7 w_511 (by decide +kernel) (by rw [hR]; exact ⟨Nat.le_of_ble_eq_true rfl, Nat.le_of_ble_eq_true rfl⟩), hw _ w_512⟩ (pre_S hP hD hK hn [] rfl (by decide)) rfl rfl hl.1 rfl (lv_room (Nat.le_of_ble_eq_true rfl)) dMo_putIn_183 ⟨Nat.zero_le _, Nat.zero_le _⟩) hP hD hS hA [] [0, 1, 2, 3, 4, 5, 6] rfl rfl (by decide) (by decide) (fun r183 u_ H locs hq_ hP hD hS => ?_)
                  obtain rfl : r183 = nI (adN d (acc.length + 1) fb) := hq_
                  replace hP : va_P D vwCl [(mo, .inr (5, [.int (nI I.length), .ref xI, .int (nI L.length), .ref xL, .int (nI O.length), .ref xO, .int (nI K.length), .ref xK, .int (nI (acc.length + 1)), .ref xR, .int wr, .ref xW, .int at_, .long (lN d), .long (lN (va + (pl + d) / (acc.length + 1))), .long (lN ((pl + d) % (acc.length + 1) + 1)), .int (nI bi), .int tk, .int gd])), (xI, .inl (cA, 120, .inl gI)), (xL, .inl (cA, 120, .inl gL)), (xO, .inl (cA, 400, .inl gO)), (xK, .inl (cA, 120, .inl gK)), (xR, .inl (cA, 121, .inl (upd (sh gR ((pl + d) % (acc.length + 1)) acc.length) ((pl + d) % (acc.length + 1)) (nI (va + (pl + d) / (acc.length + 1)))))), (xW, .inl (cA, 1000, .inl gW))] H := hP.sub [0, 1, 2, 3, 4, 5, 6] rfl
                  replace hD : va_D A [(mo, .inr (5, [.int (nI I.length), .ref xI, .int (nI L.length), .ref xL, .int (nI O.length), .ref xO, .int (nI K.length), .ref xK, .int (nI (acc.length + 1)), .ref xR, .int wr, .ref xW, .int at_, .long (lN d), .long (lN (va + (pl + d) / (acc.length + 1))), .long (lN ((pl + d) % (acc.length + 1) + 1)), .int (nI bi), .int tk, .int gd])), (xI, .inl (cA, 120, .inl gI)), (xL, .inl (cA, 120, .inl gL)), (xO, .inl (cA, 400, .inl gO)), (xK, .inl (cA, 120, .inl gK)), (xR, .inl (cA, 121, .inl (upd (sh gR ((pl + d) % (acc.length + 1)) acc.length) ((pl + d) % (acc.length + 1)) (nI (va + (pl + d) / (acc.length + 1)))))), (xW, .inl (cA, 1000, .inl gW))] := hD.sub [0, 1, 2, 3, 4, 5, 6] (by decide) rfl
                  refine va_put (D := D) (ci := 5) (v := .int (nI (adN d (acc.length + 1) fb))) (ty := .int) (C := R_Mo) (T := T_Mo) (N := 19) hx hb hw in_Mo ty_Mo ty_Mo_ok nm_Mo hown hK hP hD hS 0 rfl rfl 16 (by decide) (hw _ w_380) (fun _ h9 => h9) rfl (by decide +kernel) rfl rfl (Nat.le_of_ble_eq_true rfl) dMo_putIn_186 (fun H locs hP hD hS => ?_)
                  have hP : va_P D vwCl [(mo, .inr (5, [.int (nI I.length), .ref xI, .int (nI L.length), .ref xL, .int (nI O.length), .ref xO, .int (nI K.length), .ref xK, .int (nI (acc.length + 1)), .ref xR, .int wr, .ref xW, .int at_, .long (lN d), .long (lN (va + (pl + d) / (acc.length + 1))), .long (lN ((pl + d) % (acc.length + 1) + 1)), .int (nI (adN d (acc.length + 1) fb)), .int tk, .int gd])), (xI, .inl (cA, 120, .inl gI)), (xL, .inl (cA, 120, .inl gL)), (xO, .inl (cA, 400, .inl gO)), (xK, .inl (cA, 120, .inl gK)), (xR, .inl (cA, 121, .inl (upd (sh gR ((pl + d) % (acc.length + 1)) acc.length) ((pl + d) % (acc.length + 1)) (nI (va + (pl + d) / (acc.length + 1)))))), (xW, .inl (cA, 1000, .inl gW))] H := hP
                  have hD : va_D A [(mo, .inr (5, [.int (nI I.length), .ref xI, .int (nI L.length), .ref xL, .int (nI O.length), .ref xO, .int (nI K.length), .ref xK, .int (nI (acc.length + 1)), .ref xR, .int wr, .ref xW, .int at_, .long (lN d), .long (lN (va + (pl + d) / (acc.length + 1))), .long (lN ((pl + d) % (acc.length + 1) + 1)), .int (nI (adN d (acc.length + 1) fb)), .int tk, .int gd])), (xI, .inl (cA, 120, .inl gI)), (xL, .inl (cA, 120, .inl gL)), (xO, .inl (cA, 400, .inl gO)), (xK, .inl (cA, 120, .inl gK)), (xR, .inl (cA, 121, .inl (upd (sh gR ((pl + d) % (acc.length + 1)) acc.length) ((pl + d) % (acc.length + 1)) (nI (va + (pl + d) / (acc.length + 1)))))), (xW, .inl (cA, 1000, .inl gW))] := hD
                  refine lv_iconst (v := nI 0) hx hb dMo_putIn_189 (by decide) ?_
                  exact ret (upd (sh gR ((pl + d) % (acc.length + 1)) acc.length) ((pl + d) % (acc.length + 1)) (nI (va + (pl + d) / (acc.length + 1))), acc.insertIdx ((pl + d) % (acc.length + 1)) (va + (pl + d) / (acc.length + 1)), va + (pl + d) / (acc.length + 1), (pl + d) % (acc.length + 1) + 1, adN d (acc.length + 1) fb) dMo_putIn_190 rfl (Or.inr (Or.inr ⟨fun q => q.elim (fun q => by omega) (fun q => by omega), hk82_1, rfl, rfl, rfl, rfl, rfl, hfn⟩)) (by dsimp only; rw [← hil]; exact hP) (by dsimp only; rw [← hil]; exact hD) hS
                · skip
                  replace h115 := lc_nle (a := i) (b := (pl + d) % (acc.length + 1)) (by omega) (by omega) h115
                  obtain ⟨i, rfl⟩ : ∃ k, i = k + 1 := ⟨i - 1, by omega⟩
                  refine lv_aload_n hx hb dMo_putIn_118 rfl (lv_at hl 1 rfl) ?_
                  refine va_get (D := D) (ci := 5) (v := .ref xR) (C := R_Mo) (T := T_Mo) (N := 19) hx hb hw in_Mo hown hK hP 0 rfl rfl 9 (by decide) (hw _ w_373) (fun _ h9 => h9) rfl dMo_putIn_119 ?_
                  refine lv_iload_n hx hb dMo_putIn_122 rfl (lv_at hl 0 rfl) ?_
                  refine lv_aload_n hx hb dMo_putIn_123 rfl (lv_at hl 1 rfl) ?_
                  refine va_get (D := D) (ci := 5) (v := .ref xR) (C := R_Mo) (T := T_Mo) (N := 19) hx hb hw in_Mo hown hK hP 0 rfl rfl 9 (by decide) (hw _ w_373) (fun _ h9 => h9) rfl dMo_putIn_124 ?_
                  refine lv_iload_n hx hb dMo_putIn_127 rfl (lv_at hl 0 rfl) ?_
                  refine lv_iconst (v := nI 1) hx hb dMo_putIn_128 (by decide) ?_
                  refine lv_isub hx hb dMo_putIn_129 ?_
                  refine lv_rei (y := nI i) (nI_pred _) ?_
                  refine va_iald hx hb hK hP 5 0 rfl rfl (vp_in_nI (by omega) (by omega)) dMo_putIn_130 ?_
                  refine lv_rei (y := (sh gR (i + 1) acc.length) i) (by rw [nI_clamp (by omega)]) ?_
                  refine va_iast hx hb hK hP hD hS 5 0 rfl rfl (vp_in_nI (by omega) (by omega)) dMo_putIn_131 (fun H locs hP hD hS => ?_)
                  rw [nI_clamp (by omega)] at hP hD
                  have hP : va_P D vwCl [(mo, .inr (5, [.int (nI I.length), .ref xI, .int (nI L.length), .ref xL, .int (nI O.length), .ref xO, .int (nI K.length), .ref xK, .int (nI acc.length), .ref xR, .int wr, .ref xW, .int at_, .long (lN d), .long (lN (va + (pl + d) / (acc.length + 1))), .long (lN ((pl + d) % (acc.length + 1))), .int (nI bi), .int tk, .int gd])), (xI, .inl (cA, 120, .inl gI)), (xL, .inl (cA, 120, .inl gL)), (xO, .inl (cA, 400, .inl gO)), (xK, .inl (cA, 120, .inl gK)), (xR, .inl (cA, 121, .inl (upd (sh gR (i + 1) acc.length) (i + 1) ((sh gR (i + 1) acc.length) i)))), (xW, .inl (cA, 1000, .inl gW))] H := hP
                  have hD : va_D A [(mo, .inr (5, [.int (nI I.length), .ref xI, .int (nI L.length), .ref xL, .int (nI O.length), .ref xO, .int (nI K.length), .ref xK, .int (nI acc.length), .ref xR, .int wr, .ref xW, .int at_, .long (lN d), .long (lN (va + (pl + d) / (acc.length + 1))), .long (lN ((pl + d) % (acc.length + 1))), .int (nI bi), .int tk, .int gd])), (xI, .inl (cA, 120, .inl gI)), (xL, .inl (cA, 120, .inl gL)), (xO, .inl (cA, 400, .inl gO)), (xK, .inl (cA, 120, .inl gK)), (xR, .inl (cA, 121, .inl (upd (sh gR (i + 1) acc.length) (i + 1) ((sh gR (i + 1) acc.length) i)))), (xW, .inl (cA, 1000, .inl gW))] := hD
                  rw [sh_s (by omega)] at hP hD
                  refine lv_iinc (k := 0) (v := nI i) (lv' := [(2, .int (nI i)), (0, .ref mo), (1, .int (bI fb))]) hx hb dMo_putIn_132 hl rfl (pk_m1 _) (by decide) rfl (fun ls hl => ?_)
                  refine lv_goto (tgt := 108) hx hb dMo_putIn_135 (by decide) ?_
                  exact ih_loop1 i _ _ _ (by omega) (by omega) (by omega) (lv_sub hl [0, 1, 2] rfl) hP hD hS
            exact loop1 _ acc.length _ _ _ (Nat.lt_succ_self _) (by omega) (Nat.le_refl _) (lv_sub hl [0, 1, 2] rfl) hP hD hS
          · skip
            exact absurd (nt_eq (a := acc.length) (b := 120) (by omega) (by omega) h97) (by omega)
        · skip
          exact absurd h85 (by decide)
      · skip
        replace hP : va_P D vwCl [(mo, .inr (5, [.int (nI I.length), .ref xI, .int (nI L.length), .ref xL, .int (nI O.length), .ref xO, .int (nI K.length), .ref xK, .int (nI acc.length), .ref xR, .int wr, .ref xW, .int at_, .long (lN d), .long (lN (va + ((pl + d) / (acc.length + 1)))), .long (lN ((pl + d) % (acc.length + 1))), .int (nI bi), .int tk, .int gd])), (xI, .inl (cA, 120, .inl gI)), (xL, .inl (cA, 120, .inl gL)), (xO, .inl (cA, 400, .inl gO)), (xK, .inl (cA, 120, .inl gK)), (xR, .inl (cA, 121, .inl gR)), (xW, .inl (cA, 1000, .inl gW))] H := hP.sub [0, 1, 2, 3, 4, 5, 6] rfl
        replace hD : va_D A [(mo, .inr (5, [.int (nI I.length), .ref xI, .int (nI L.length), .ref xL, .int (nI O.length), .ref xO, .int (nI K.length), .ref xK, .int (nI acc.length), .ref xR, .int wr, .ref xW, .int at_, .long (lN d), .long (lN (va + ((pl + d) / (acc.length + 1)))), .long (lN ((pl + d) % (acc.length + 1))), .int (nI bi), .int tk, .int gd])), (xI, .inl (cA, 120, .inl gI)), (xL, .inl (cA, 120, .inl gL)), (xO, .inl (cA, 400, .inl gO)), (xK, .inl (cA, 120, .inl gK)), (xR, .inl (cA, 121, .inl gR)), (xW, .inl (cA, 1000, .inl gW))] := hD.sub [0, 1, 2, 3, 4, 5, 6] (by decide) rfl
        refine lv_if_ne (tgt := 91) hx hb dMo_putIn_85 (by decide) (fun h85 => ?_) (fun h85 => ?_)
        · skip
          exact absurd h85 (by decide)
        · skip
          refine lv_bipush (v := (-4)) hx hb dMo_putIn_88 (by decide) ?_
          exact ret (gR, acc, va + ((pl + d) / (acc.length + 1)), (pl + d) % (acc.length + 1), bi) dMo_putIn_90 rfl (Or.inr (Or.inl ⟨fun q => q.elim (fun q => by omega) (fun q => by omega), hk82_1, rfl⟩)) hP hD hS
    · skip
      replace h72 := lc_nle (a := va + ((pl + d) / (acc.length + 1))) (b := 2147483647) (by omega) (by omega) h72
      refine lv_bipush (v := (-2)) hx hb dMo_putIn_75 (by decide) ?_
      exact ret (gR, acc, va + ((pl + d) / (acc.length + 1)), (pl + d) % (acc.length + 1), bi) dMo_putIn_77 rfl (Or.inl ⟨Or.inr h72, rfl⟩) hP hD hS
  · skip
    replace h21 := lc_nle (a := pl + d) (b := 2147483647) (by omega) (by omega) h21
    refine lv_bipush (v := (-2)) hx hb dMo_putIn_24 (by decide) ?_
    exact ret (gR, acc, va, pl + d, bi) dMo_putIn_26 rfl (Or.inl ⟨Or.inl h21, rfl⟩) hP hD hS
