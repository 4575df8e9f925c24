set_option maxHeartbeats 4000000 in
set_option maxRecDepth 100000 in
theorem k_Le_unitOf (l : Launch) (D : va_G) (cA : ClassId) (sz : Nat) (d : Nat) (hd : d < 2 ^ 30) : KI l D cA y_Le_unitOf c_Le_unitOf 1 .int 0 0 [.int (nI d)] sz [] (S := Unit) (fun r _ => r = nI (sg d)) (fun _ => []) := by
  refine KI.of (by decide) (Nat.le_of_ble_eq_true rfl) ?_
  intro p e s m args below meth c Q R A ls Xf hR hA hS hP hD hK hn hl ret
  have hx := Xf.1
  have hb := Xf.2.1
  have hown : s.vm.findClass "ScalarScribe$Letters" = some m.cls := Xf.2.2.2.1
  have hw := Xf.2.2.2.2
  have hl : lv_has ls 1 [(0, .int (nI d))] := hl
  refine lv_iload_n hx hb dLe_unitOf_0 rfl (lv_at hl 0 rfl) ?_
  refine lv_bipush (v := nI 26) hx hb dLe_unitOf_1 (by decide) ?_
  refine lv_icmp_ge (tgt := 13) hx hb dLe_unitOf_3 (by decide) (fun h3 => ?_) (fun h3 => ?_)
  · skip
    replace h3 := nt_le (a := 26) (b := d) (by omega) (by omega) h3
    refine lv_bipush (v := nI 48) hx hb dLe_unitOf_13 (by decide) ?_
    refine lv_iload_n hx hb dLe_unitOf_15 rfl (lv_at hl 0 rfl) ?_
    refine lv_iadd hx hb dLe_unitOf_16 ?_
    refine lv_rei (y := nI (48 + d)) (nI_add _ _) ?_
    refine lv_bipush (v := nI 26) hx hb dLe_unitOf_17 (by decide) ?_
    refine lv_isub hx hb dLe_unitOf_19 ?_
    refine lv_rei (y := nI (48 + d - 26)) (pk_sub (by omega)) ?_
    exact ret () dLe_unitOf_20 rfl (congrArg nI (show 48 + d - 26 = sg d from by unfold sg; split <;> omega)) hP hD hS
  · skip
    replace h3 := nt_nle (a := 26) (b := d) (by omega) (by omega) h3
    refine lv_bipush (v := nI 97) hx hb dLe_unitOf_6 (by decide) ?_
    refine lv_iload_n hx hb dLe_unitOf_8 rfl (lv_at hl 0 rfl) ?_
    refine lv_iadd hx hb dLe_unitOf_9 ?_
    refine lv_rei (y := nI (97 + d)) (nI_add _ _) ?_
    refine lv_goto (tgt := 20) hx hb dLe_unitOf_10 (by decide) ?_
    exact ret () dLe_unitOf_20 rfl (congrArg nI (show 97 + d = sg d from by unfold sg; split <;> omega)) hP hD hS
set_option maxHeartbeats 4000000 in
set_option maxRecDepth 100000 in
theorem k_Le_writeNumber (l : Launch) (D : va_G) (cA : ClassId) (sz : Nat) (oT : Nat) (lat lva lpl : Int32) (bi : Nat) (lfi : Int32) (g b : Nat) (w : List Nat) (f : Nat → Int32) (d : Nat) (hf : Hd f (w.map nI)) (hc : (w.map nI).length ≤ 400) (hbi : bi < 2 ^ 20) (hd : d < 2 ^ 30) : KI l D cA y_Le_writeNumber c_Le_writeNumber 7 .boolean 2 44 [.ref oT, .int (nI d), .ref g] sz [(oT, .inr (3, [.int lat, .int lva, .int lpl, .int (nI bi), .int lfi])), (g, .inr (0, [.ref b, .int (nI ((w.map nI).length))])), (b, .inl (cA, 400, .inl f))] (S := List Int32 × (Nat → Int32)) (fun r u => ((w ++ wnum bi d).length ≤ 400 ∧ r = 1 ∧ u.1 = (w ++ wnum bi d).map nI ∧ Hd u.2 u.1) ∨ (400 < (w ++ wnum bi d).length ∧ r = 0 ∧ u.1.length ≤ 400 ∧ Hd u.2 u.1)) (fun u => [(oT, .inr (3, [.int lat, .int lva, .int lpl, .int (nI bi), .int lfi])), (g, .inr (0, [.ref b, .int (nI u.1.length)])), (b, .inl (cA, 400, .inl u.2))]) := by
  refine KI.of (by decide) (Nat.le_of_ble_eq_true rfl) ?_
  intro p e s m args below meth c Q R A ls Xf hR hA hS hP hD hK hn hl ret
  have hx := Xf.1
  have hb := Xf.2.1
  have hown : s.vm.findClass "ScalarScribe$Letters" = some m.cls := Xf.2.2.2.1
  have hw := Xf.2.2.2.2
  have hl : lv_has ls 7 [(0, .ref oT), (1, .int (nI d)), (2, .ref g)] := hl
  have hlw : (w.map nI).length = w.length := List.length_map _
  refine lv_iload_n hx hb dLe_writeNumber_0 rfl (lv_at hl 1 rfl) ?_
  refine lv_istore_n (lv' := [(3, .int (nI d)), (0, .ref oT), (1, .int (nI d)), (2, .ref g)]) hx hb dLe_writeNumber_1 rfl hl (by decide) rfl (fun ls hl => ?_)
  refine lv_iconst (v := nI 1) hx hb dLe_writeNumber_2 (by decide) ?_
  refine lv_istore (lv' := [(4, .int (nI 1)), (3, .int (nI d)), (0, .ref oT), (1, .int (nI d)), (2, .ref g)]) hx hb dLe_writeNumber_3 hl (by decide) rfl (fun ls hl => ?_)
  have loop1 : ∀ (n_ : Nat) (k : Nat) (lf : Nat) (W1 : List Nat) (gY : Nat → Int32) (kf : Nat) (ep : Nat) (ls : Array Slot) (H : Heap) (locs : List Loc), kf < n_ → Hd gY (W1.map nI) → (W1.map nI).length ≤ 400 → W1 ++ wn bi kf k lf = w ++ wnum bi d → lf < kf → lf < 10 ^ ep → k + ep ≤ 12 → lf ≤ d → lv_has ls 7 [(4, .int (nI k)), (3, .int (nI lf)), (0, .ref oT), (2, .ref g)] → va_P D vwCl [(oT, .inr (3, [.int lat, .int lva, .int lpl, .int (nI bi), .int lfi])), (g, .inr (0, [.ref b, .int (nI ((W1.map nI).length))])), (b, .inl (cA, 400, .inl gY))] H → va_D A [(oT, .inr (3, [.int lat, .int lva, .int lpl, .int (nI bi), .int lfi])), (g, .inr (0, [.ref b, .int (nI ((W1.map nI).length))])), (b, .inl (cA, 400, .inl gY))] → va_S A s.heap H locs → W p l e R s m args below meth c H locs 0 0 Q (F0 m 5 ls []) := by
    intro n_
    induction n_ with
    | zero => intro k lf W1 gY kf ep ls H locs hm_; exact absurd hm_ (Nat.not_lt_zero _)
    | succ n_ ih_loop1 =>
      intro k lf W1 gY kf ep ls H locs hm_ hgY hY4 hF hkf hep hke hld hl hP hD hS
      refine lv_iload hx hb dLe_writeNumber_5 (lv_at hl 0 rfl) ?_
      refine lv_sipush (v := nI 400) hx hb dLe_writeNumber_7 (by decide) ?_
      refine lv_icmp_gt (tgt := 79) hx hb dLe_writeNumber_10 (by decide) (fun h10 => ?_) (fun h10 => ?_)
      · skip
        exact absurd (nt_lt (by omega) (by omega) h10) (by omega)
      · skip
        obtain ⟨k2, rfl⟩ : ∃ k2, kf = k2 + 1 := ⟨kf - 1, by omega⟩
        refine lv_aload_n hx hb dLe_writeNumber_13 rfl (lv_at hl 2 rfl) ?_
        refine lv_iload hx hb dLe_writeNumber_14 (lv_at hl 0 rfl) ?_
        refine ca_i (wr := [(g, .inr (0, [.ref b, .int (nI ((W1.map nI).length))])), (b, .inl (cA, 400, .inl gY))]) (va_runV (As := [.int (nI k)]) (rest := []) Xf (k_Le_thresholdOf l D cA _ oT lat lva lpl bi lfi k (by omega) (by omega)) ⟨cb_of 1 hw w_231 w_6 w_228 (by decide +kernel) (by rw [hR]; exact ⟨Nat.le_of_ble_eq_true rfl, Nat.le_of_ble_eq_true rfl⟩), hw _ w_230, hw _ ws_4⟩ (pre_V (As := [.int (nI k)]) hP hD hK hn [0] rfl (by decide) 0 3 rfl rfl) rfl rfl hl.1 rfl (lv_room (Nat.le_of_ble_eq_true rfl)) dLe_writeNumber_16 ⟨Nat.zero_le _, Nat.zero_le _⟩) hP hD hS hA [0] [1, 2] rfl rfl (by decide) (by decide) (fun r16 u_ H locs hq_ hP hD hS => ?_)
        obtain rfl : r16 = nI (thN bi k) := hq_
        have hth := thN_b bi k
        replace hP : va_P D vwCl [(oT, .inr (3, [.int lat, .int lva, .int lpl, .int (nI bi), .int lfi])), (g, .inr (0, [.ref b, .int (nI ((W1.map nI).length))])), (b, .inl (cA, 400, .inl gY))] H := hP.sub [2, 0, 1] rfl
        replace hD : va_D A [(oT, .inr (3, [.int lat, .int lva, .int lpl, .int (nI bi), .int lfi])), (g, .inr (0, [.ref b, .int (nI ((W1.map nI).length))])), (b, .inl (cA, 400, .inl gY))] := hD.sub [2, 0, 1] (by decide) rfl
        refine lv_istore (lv' := [(5, .int (nI (thN bi k))), (4, .int (nI k)), (3, .int (nI lf)), (0, .ref oT), (2, .ref g)]) hx hb dLe_writeNumber_19 hl (by decide) rfl (fun ls hl => ?_)
        refine lv_iload_n hx hb dLe_writeNumber_21 rfl (lv_at hl 2 rfl) ?_
        refine lv_iload hx hb dLe_writeNumber_22 (lv_at hl 0 rfl) ?_
        refine lv_icmp_ge (tgt := 36) hx hb dLe_writeNumber_24 (by decide) (fun h24 => ?_) (fun h24 => ?_)
        · skip
          replace h24 := nt_le (a := thN bi k) (b := lf) (by omega) (by omega) h24
          refine lv_bipush (v := nI 36) hx hb dLe_writeNumber_36 (by decide) ?_
          refine lv_iload hx hb dLe_writeNumber_38 (lv_at hl 0 rfl) ?_
          refine lv_isub hx hb dLe_writeNumber_40 ?_
          refine lv_rei (y := nI (36 - (thN bi k))) (pk_sub (by omega)) ?_
          refine lv_istore (lv' := [(6, .int (nI (36 - (thN bi k)))), (5, .int (nI (thN bi k))), (4, .int (nI k)), (3, .int (nI lf)), (0, .ref oT), (2, .ref g)]) hx hb dLe_writeNumber_41 hl (by decide) rfl (fun ls hl => ?_)
          refine lv_aload_n hx hb dLe_writeNumber_43 rfl (lv_at hl 5 rfl) ?_
          refine lv_iload hx hb dLe_writeNumber_44 (lv_at hl 1 rfl) ?_
          refine lv_iload_n hx hb dLe_writeNumber_46 rfl (lv_at hl 3 rfl) ?_
          refine lv_iload hx hb dLe_writeNumber_47 (lv_at hl 1 rfl) ?_
          refine lv_isub hx hb dLe_writeNumber_49 ?_
          refine lv_rei (y := nI (lf - (thN bi k))) (pk_sub (by omega)) ?_
          refine lv_iload hx hb dLe_writeNumber_50 (lv_at hl 0 rfl) ?_
          have hmo : (lf - thN bi k) % (36 - thN bi k) < 36 - thN bi k := Nat.mod_lt _ (by omega)
          refine lv_irem hx hb dLe_writeNumber_52 (nI_ne0 (by omega) (by omega)) ?_
          refine lv_rei (y := nI ((lf - (thN bi k)) % (36 - (thN bi k)))) (pk_rem (by omega) (by omega) (by omega)) ?_
          refine lv_iadd hx hb dLe_writeNumber_53 ?_
          refine lv_rei (y := nI (thN bi k + ((lf - (thN bi k)) % (36 - (thN bi k))))) (nI_add _ _) ?_
          refine ca_i (wr := [(oT, .inr (3, [.int lat, .int lva, .int lpl, .int (nI bi), .int lfi])), (g, .inr (0, [.ref b, .int (nI ((W1.map nI).length))])), (b, .inl (cA, 400, .inl gY))]) (va_runS (As := [.int (nI (thN bi k + ((lf - (thN bi k)) % (36 - (thN bi k)))))]) (rest := [.ref g]) Xf (k_Le_unitOf l D cA _ (thN bi k + ((lf - (thN bi k)) % (36 - (thN bi k)))) (by omega)) ⟨cb_of 1 hw w_321 w_6 w_319 (by decide +kernel) (by rw [hR]; exact ⟨Nat.le_of_ble_eq_true rfl, Nat.le_of_ble_eq_true rfl⟩), hw _ w_320⟩ (pre_S hP hD hK hn [] rfl (by decide)) rfl rfl hl.1 rfl (lv_room (Nat.le_of_ble_eq_true rfl)) dLe_writeNumber_54 ⟨Nat.zero_le _, Nat.zero_le _⟩) hP hD hS hA [] [0, 1, 2] rfl rfl (by decide) (by decide) (fun r54 u_ H locs hq_ hP hD hS => ?_)
          obtain rfl : r54 = nI (sg (thN bi k + ((lf - (thN bi k)) % (36 - (thN bi k))))) := hq_
          replace hP : va_P D vwCl [(oT, .inr (3, [.int lat, .int lva, .int lpl, .int (nI bi), .int lfi])), (g, .inr (0, [.ref b, .int (nI ((W1.map nI).length))])), (b, .inl (cA, 400, .inl gY))] H := hP.sub [0, 1, 2] rfl
          replace hD : va_D A [(oT, .inr (3, [.int lat, .int lva, .int lpl, .int (nI bi), .int lfi])), (g, .inr (0, [.ref b, .int (nI ((W1.map nI).length))])), (b, .inl (cA, 400, .inl gY))] := hD.sub [0, 1, 2] (by decide) rfl
          refine ca_i (wr := [(oT, .inr (3, [.int lat, .int lva, .int lpl, .int (nI bi), .int lfi]))]) (va_runV (As := [.int (nI (sg (thN bi k + ((lf - (thN bi k)) % (36 - (thN bi k))))))]) (rest := []) Xf (k_Row_add l D cA _ g b 400 (W1.map nI) gY (nI (sg (thN bi k + ((lf - (thN bi k)) % (36 - (thN bi k)))))) hgY hY4 (by omega)) ⟨cb_of 1 hw w_124 w_2 w_219 (by decide +kernel) (by rw [hR]; exact ⟨Nat.le_of_ble_eq_true rfl, Nat.le_of_ble_eq_true rfl⟩), hw _ w_122, hw _ w_123⟩ (pre_V (As := [.int (nI (sg (thN bi k + ((lf - (thN bi k)) % (36 - (thN bi k))))))]) hP hD hK hn [1, 2] rfl (by decide) 1 0 rfl rfl) rfl rfl hl.1 rfl (lv_room (Nat.le_of_ble_eq_true rfl)) dLe_writeNumber_57 ⟨Nat.zero_le _, Nat.zero_le _⟩) hP hD hS hA [1, 2] [0] rfl rfl (by decide) (by decide) (fun r57 u_ H locs hq_ hP hD hS => ?_)
          obtain ⟨L1, f1⟩ := u_
          dsimp only at hq_ hP hD
          rcases hq_ with ⟨hlt_1, rfl, hL_, hf1⟩ | ⟨hlt_1, rfl, hL_, hf1⟩
          · skip
            subst L1
            try simp only [List.length_append, List.length_singleton, List.length_nil, List.length_map, List.length_cons] at hlt_1
            replace hP : va_P D vwCl [(oT, .inr (3, [.int lat, .int lva, .int lpl, .int (nI bi), .int lfi])), (g, .inr (0, [.ref b, .int (nI (((W1.map nI) ++ [nI (sg (thN bi k + ((lf - (thN bi k)) % (36 - (thN bi k)))))]).length))])), (b, .inl (cA, 400, .inl f1))] H := hP.sub [0, 1, 2] rfl
            replace hD : va_D A [(oT, .inr (3, [.int lat, .int lva, .int lpl, .int (nI bi), .int lfi])), (g, .inr (0, [.ref b, .int (nI (((W1.map nI) ++ [nI (sg (thN bi k + ((lf - (thN bi k)) % (36 - (thN bi k)))))]).length))])), (b, .inl (cA, 400, .inl f1))] := hD.sub [0, 1, 2] (by decide) rfl
            refine lv_if_ne (tgt := 65) hx hb dLe_writeNumber_60 (by decide) (fun h60 => ?_) (fun h60 => ?_)
            · skip
              refine lv_iload_n hx hb dLe_writeNumber_65 rfl (lv_at hl 3 rfl) ?_
              refine lv_iload hx hb dLe_writeNumber_66 (lv_at hl 1 rfl) ?_
              refine lv_isub hx hb dLe_writeNumber_68 ?_
              refine lv_rei (y := nI (lf - (thN bi k))) (pk_sub (by omega)) ?_
              refine lv_iload hx hb dLe_writeNumber_69 (lv_at hl 0 rfl) ?_
              refine lv_idiv hx hb dLe_writeNumber_71 (nI_ne0 (by omega) (by omega)) ?_
              refine lv_rei (y := nI ((lf - (thN bi k)) / (36 - (thN bi k)))) (pk_div (by omega) (by omega) (by omega)) ?_
              refine lv_istore_n (lv' := [(3, .int (nI ((lf - (thN bi k)) / (36 - (thN bi k))))), (6, .int (nI (36 - (thN bi k)))), (5, .int (nI (thN bi k))), (4, .int (nI k)), (0, .ref oT), (2, .ref g)]) hx hb dLe_writeNumber_72 rfl hl (by decide) rfl (fun ls hl => ?_)
              refine lv_iinc (k := 3) (v := nI (k + 1)) (lv' := [(4, .int (nI (k + 1))), (3, .int (nI ((lf - (thN bi k)) / (36 - (thN bi k))))), (6, .int (nI (36 - (thN bi k)))), (5, .int (nI (thN bi k))), (0, .ref oT), (2, .ref g)]) hx hb dLe_writeNumber_73 hl rfl (nI_1 _) (by decide) rfl (fun ls hl => ?_)
              refine lv_goto (tgt := 5) hx hb dLe_writeNumber_76 (by decide) ?_
              rw [map_snoc] at hP hD hf1
              have hdl := dv_le hth.1 hth.2 h24
              obtain ⟨e2, rfl⟩ : ∃ e2, ep = e2 + 1 := by
                cases ep with
                | zero => rw [Nat.pow_zero] at hep; omega
                | succ e2 => exact ⟨e2, rfl⟩
              rw [Nat.pow_succ] at hep
              exact ih_loop1 (k + 1) ((lf - thN bi k) / (36 - thN bi k)) (W1 ++ [sg (thN bi k + (lf - thN bi k) % (36 - thN bi k))]) f1 k2 e2 _ _ _ (by omega) hf1 (by simp only [List.length_append, List.length_singleton, List.length_nil, List.length_map, List.length_cons]; omega) (by rw [← hF, wn_s h24, List.append_assoc]; rfl) (by omega) (dv_lt hth.1 hth.2 hep) (by omega) (by omega) (lv_sub hl [0, 1, 4, 5] rfl) hP hD hS
            · skip
              exact absurd h60 (by decide)
          · skip
            subst L1
            try simp only [List.length_append, List.length_singleton, List.length_nil, List.length_map, List.length_cons] at hlt_1
            replace hP : va_P D vwCl [(oT, .inr (3, [.int lat, .int lva, .int lpl, .int (nI bi), .int lfi])), (g, .inr (0, [.ref b, .int (nI ((W1.map nI).length))])), (b, .inl (cA, 400, .inl f1))] H := hP.sub [0, 1, 2] rfl
            replace hD : va_D A [(oT, .inr (3, [.int lat, .int lva, .int lpl, .int (nI bi), .int lfi])), (g, .inr (0, [.ref b, .int (nI ((W1.map nI).length))])), (b, .inl (cA, 400, .inl f1))] := hD.sub [0, 1, 2] (by decide) rfl
            refine lv_if_ne (tgt := 65) hx hb dLe_writeNumber_60 (by decide) (fun h60 => ?_) (fun h60 => ?_)
            · skip
              exact absurd h60 (by decide)
            · skip
              refine lv_iconst (v := nI 0) hx hb dLe_writeNumber_63 (by decide) ?_
              exact ret (W1.map nI, f1) dLe_writeNumber_64 rfl (Or.inr ⟨by rw [← hF, wn_s h24]; simp only [List.length_append, List.length_singleton, List.length_nil, List.length_map, List.length_cons]; omega, rfl, hY4, hf1⟩) hP hD hS
        · skip
          replace h24 := nt_nle (a := thN bi k) (b := lf) (by omega) (by omega) h24
          refine lv_aload_n hx hb dLe_writeNumber_27 rfl (lv_at hl 4 rfl) ?_
          refine lv_iload_n hx hb dLe_writeNumber_28 rfl (lv_at hl 2 rfl) ?_
          refine ca_i (wr := [(oT, .inr (3, [.int lat, .int lva, .int lpl, .int (nI bi), .int lfi])), (g, .inr (0, [.ref b, .int (nI ((W1.map nI).length))])), (b, .inl (cA, 400, .inl gY))]) (va_runS (As := [.int (nI lf)]) (rest := [.ref g]) Xf (k_Le_unitOf l D cA _ lf (by omega)) ⟨cb_of 1 hw w_321 w_6 w_319 (by decide +kernel) (by rw [hR]; exact ⟨Nat.le_of_ble_eq_true rfl, Nat.le_of_ble_eq_true rfl⟩), hw _ w_320⟩ (pre_S hP hD hK hn [] rfl (by decide)) rfl rfl hl.1 rfl (lv_room (Nat.le_of_ble_eq_true rfl)) dLe_writeNumber_29 ⟨Nat.zero_le _, Nat.zero_le _⟩) hP hD hS hA [] [0, 1, 2] rfl rfl (by decide) (by decide) (fun r29 u_ H locs hq_ hP hD hS => ?_)
          obtain rfl : r29 = nI (sg lf) := hq_
          replace hP : va_P D vwCl [(oT, .inr (3, [.int lat, .int lva, .int lpl, .int (nI bi), .int lfi])), (g, .inr (0, [.ref b, .int (nI ((W1.map nI).length))])), (b, .inl (cA, 400, .inl gY))] H := hP.sub [0, 1, 2] rfl
          replace hD : va_D A [(oT, .inr (3, [.int lat, .int lva, .int lpl, .int (nI bi), .int lfi])), (g, .inr (0, [.ref b, .int (nI ((W1.map nI).length))])), (b, .inl (cA, 400, .inl gY))] := hD.sub [0, 1, 2] (by decide) rfl
          refine ca_i (wr := [(oT, .inr (3, [.int lat, .int lva, .int lpl, .int (nI bi), .int lfi]))]) (va_runV (As := [.int (nI (sg lf))]) (rest := []) Xf (k_Row_add l D cA _ g b 400 (W1.map nI) gY (nI (sg lf)) hgY hY4 (by omega)) ⟨cb_of 1 hw w_124 w_2 w_219 (by decide +kernel) (by rw [hR]; exact ⟨Nat.le_of_ble_eq_true rfl, Nat.le_of_ble_eq_true rfl⟩), hw _ w_122, hw _ w_123⟩ (pre_V (As := [.int (nI (sg lf))]) hP hD hK hn [1, 2] rfl (by decide) 1 0 rfl rfl) rfl rfl hl.1 rfl (lv_room (Nat.le_of_ble_eq_true rfl)) dLe_writeNumber_32 ⟨Nat.zero_le _, Nat.zero_le _⟩) hP hD hS hA [1, 2] [0] rfl rfl (by decide) (by decide) (fun r32 u_ H locs hq_ hP hD hS => ?_)
          obtain ⟨L2, f2⟩ := u_
          dsimp only at hq_ hP hD
          rcases hq_ with ⟨hlt_2, rfl, hL_, hf2⟩ | ⟨hlt_2, rfl, hL_, hf2⟩
          · skip
            subst L2
            try simp only [List.length_append, List.length_singleton, List.length_nil, List.length_map, List.length_cons] at hlt_2
            replace hP : va_P D vwCl [(oT, .inr (3, [.int lat, .int lva, .int lpl, .int (nI bi), .int lfi])), (g, .inr (0, [.ref b, .int (nI (((W1.map nI) ++ [nI (sg lf)]).length))])), (b, .inl (cA, 400, .inl f2))] H := hP.sub [0, 1, 2] rfl
            replace hD : va_D A [(oT, .inr (3, [.int lat, .int lva, .int lpl, .int (nI bi), .int lfi])), (g, .inr (0, [.ref b, .int (nI (((W1.map nI) ++ [nI (sg lf)]).length))])), (b, .inl (cA, 400, .inl f2))] := hD.sub [0, 1, 2] (by decide) rfl
            have hz : W1 ++ [sg lf] = w ++ wnum bi d := by rw [← hF, wn_e h24]
            rw [map_snoc, hz] at hP hD hf2
            exact ret ((w ++ wnum bi d).map nI, f2) dLe_writeNumber_35 rfl (Or.inl ⟨by rw [← hz]; simp only [List.length_append, List.length_singleton, List.length_nil, List.length_map, List.length_cons]; omega, rfl, rfl, hf2⟩) hP hD hS
          · skip
            subst L2
            try simp only [List.length_append, List.length_singleton, List.length_nil, List.length_map, List.length_cons] at hlt_2
            replace hP : va_P D vwCl [(oT, .inr (3, [.int lat, .int lva, .int lpl, .int (nI bi), .int lfi])), (g, .inr (0, [.ref b, .int (nI ((W1.map nI).length))])), (b, .inl (cA, 400, .inl f2))] H := hP.sub [0, 1, 2] rfl
            replace hD : va_D A [(oT, .inr (3, [.int lat, .int lva, .int lpl, .int (nI bi), .int lfi])), (g, .inr (0, [.ref b, .int (nI ((W1.map nI).length))])), (b, .inl (cA, 400, .inl f2))] := hD.sub [0, 1, 2] (by decide) rfl
            have hz : W1 ++ [sg lf] = w ++ wnum bi d := by rw [← hF, wn_e h24]
            exact ret (W1.map nI, f2) dLe_writeNumber_35 rfl (Or.inr ⟨by rw [← hz]; simp only [List.length_append, List.length_singleton, List.length_nil, List.length_map, List.length_cons]; omega, rfl, hY4, hf2⟩) hP hD hS
  exact loop1 _ 1 d w f (d + 1) 10 _ _ _ (Nat.lt_succ_self _) hf hc rfl (Nat.lt_succ_self _) (by omega) (by omega) (Nat.le_refl _) (lv_sub hl [0, 1, 2, 4] rfl) hP hD hS
set_option maxHeartbeats 4000000 in
set_option maxRecDepth 100000 in
theorem k_Le_toldBefore (l : Launch) (D : va_G) (cA : ClassId) (sz : Nat) (h a : Nat) (M : List Nat) (f : Nat → Int32) (ix : Nat) (hf : Hd f (M.map nI)) (hc : (M.map nI).length ≤ 120) (hMb : ∀ x ∈ M, x ≤ 1114111) (hix : ix < M.length) : KI l D cA y_Le_toldBefore c_Le_toldBefore 4 .int 1 21 [.ref h, .int (nI ix)] sz [(h, .inr (0, [.ref a, .int (nI ((M.map nI).length))])), (a, .inl (cA, 120, .inl f))] (S := Unit) (fun r _ => r = nI (leC M (M.getD ix 0) ix)) (fun _ => [(h, .inr (0, [.ref a, .int (nI ((M.map nI).length))])), (a, .inl (cA, 120, .inl f))]) := by
  refine KI.of (by decide) (Nat.le_of_ble_eq_true rfl) ?_
  intro p e s m args below meth c Q R A ls Xf hR hA hS hP hD hK hn hl ret
  have hx := Xf.1
  have hb := Xf.2.1
  have hown : s.vm.findClass "ScalarScribe$Letters" = some m.cls := Xf.2.2.2.1
  have hw := Xf.2.2.2.2
  have hl : lv_has ls 4 [(0, .ref h), (1, .int (nI ix))] := hl
  have hcM : M.length ≤ 120 := by rw [List.length_map] at hc; exact hc
  refine lv_iconst (v := nI 0) hx hb dLe_toldBefore_0 (by decide) ?_
  refine lv_istore_n (lv' := [(2, .int (nI 0)), (0, .ref h), (1, .int (nI ix))]) hx hb dLe_toldBefore_1 rfl hl (by decide) rfl (fun ls hl => ?_)
  refine lv_iconst (v := nI 0) hx hb dLe_toldBefore_2 (by decide) ?_
  refine lv_istore_n (lv' := [(3, .int (nI 0)), (2, .int (nI 0)), (0, .ref h), (1, .int (nI ix))]) hx hb dLe_toldBefore_3 rfl hl (by decide) rfl (fun ls hl => ?_)
  have loop1 : ∀ (n_ : Nat) (i : Nat) (ls : Array Slot) (H : Heap) (locs : List Loc), ix - i < n_ → i ≤ ix → lv_has ls 4 [(3, .int (nI i)), (2, .int (nI (leC M (M.getD ix 0) i))), (0, .ref h), (1, .int (nI ix))] → va_P D vwCl [(h, .inr (0, [.ref a, .int (nI ((M.map nI).length))])), (a, .inl (cA, 120, .inl f))] H → va_D A [(h, .inr (0, [.ref a, .int (nI ((M.map nI).length))])), (a, .inl (cA, 120, .inl f))] → va_S A s.heap H locs → W p l e R s m args below meth c H locs 0 0 Q (F0 m 4 ls []) := by
    intro n_
    induction n_ with
    | zero => intro i ls H locs hm_; exact absurd hm_ (Nat.not_lt_zero _)
    | succ n_ ih_loop1 =>
      intro i ls H locs hm_ hi hl hP hD hS
      refine lv_iload_n hx hb dLe_toldBefore_4 rfl (lv_at hl 0 rfl) ?_
      refine lv_iload_n hx hb dLe_toldBefore_5 rfl (lv_at hl 3 rfl) ?_
      refine lv_icmp_ge (tgt := 31) hx hb dLe_toldBefore_6 (by decide) (fun h6 => ?_) (fun h6 => ?_)
      · skip
        replace h6 := nt_le (a := ix) (b := i) (by omega) (by omega) h6
        refine lv_iload_n hx hb dLe_toldBefore_31 rfl (lv_at hl 1 rfl) ?_
        exact ret () dLe_toldBefore_32 rfl (by rw [show i = ix by omega]) hP hD hS
      · skip
        replace h6 := nt_nle (a := ix) (b := i) (by omega) (by omega) h6
        refine lv_aload_n hx hb dLe_toldBefore_9 rfl (lv_at hl 2 rfl) ?_
        refine lv_iload_n hx hb dLe_toldBefore_10 rfl (lv_at hl 0 rfl) ?_
        refine ca_i (wr := []) (va_runV (As := [.int (nI i)]) (rest := []) Xf (k_Row_unitAt l D cA _ h a 120 (M.map nI) f (nI i) hf hc (by omega)) ⟨cb_of 1 hw w_154 w_2 w_218 (by decide +kernel) (by rw [hR]; exact ⟨Nat.le_of_ble_eq_true rfl, Nat.le_of_ble_eq_true rfl⟩), hw _ w_152, hw _ w_153⟩ (pre_V (As := [.int (nI i)]) hP hD hK hn [0, 1] rfl (by decide) 0 0 rfl rfl) rfl rfl hl.1 rfl (lv_room (Nat.le_of_ble_eq_true rfl)) dLe_toldBefore_11 ⟨Nat.zero_le _, Nat.zero_le _⟩) hP hD hS hA [0, 1] [] rfl rfl (by decide) (by decide) (fun r11 u_ H locs hq_ hP hD hS => ?_)
        obtain rfl : r11 = un (M.map nI) i := hq_.trans (gt_n (by omega) (by omega))
        replace hP : va_P D vwCl [(h, .inr (0, [.ref a, .int (nI ((M.map nI).length))])), (a, .inl (cA, 120, .inl f))] H := hP.sub [0, 1] rfl
        replace hD : va_D A [(h, .inr (0, [.ref a, .int (nI ((M.map nI).length))])), (a, .inl (cA, 120, .inl f))] := hD.sub [0, 1] (by decide) rfl
        refine lv_rei (y := nI (M.getD i 0)) (un_map (by omega)) ?_
        have hvb : M.getD i 0 ≤ 1114111 := getD_b hMb (by omega)
        refine lv_aload_n hx hb dLe_toldBefore_14 rfl (lv_at hl 2 rfl) ?_
        refine lv_iload_n hx hb dLe_toldBefore_15 rfl (lv_at hl 3 rfl) ?_
        refine ca_i (wr := []) (va_runV (As := [.int (nI ix)]) (rest := [.int (nI (M.getD i 0))]) Xf (k_Row_unitAt l D cA _ h a 120 (M.map nI) f (nI ix) hf hc (by omega)) ⟨cb_of 1 hw w_154 w_2 w_218 (by decide +kernel) (by rw [hR]; exact ⟨Nat.le_of_ble_eq_true rfl, Nat.le_of_ble_eq_true rfl⟩), hw _ w_152, hw _ w_153⟩ (pre_V (As := [.int (nI ix)]) hP hD hK hn [0, 1] rfl (by decide) 0 0 rfl rfl) rfl rfl hl.1 rfl (lv_room (Nat.le_of_ble_eq_true rfl)) dLe_toldBefore_16 ⟨Nat.zero_le _, Nat.zero_le _⟩) hP hD hS hA [0, 1] [] rfl rfl (by decide) (by decide) (fun r16 u_ H locs hq_ hP hD hS => ?_)
        obtain rfl : r16 = un (M.map nI) ix := hq_.trans (gt_n (by omega) (by omega))
        replace hP : va_P D vwCl [(h, .inr (0, [.ref a, .int (nI ((M.map nI).length))])), (a, .inl (cA, 120, .inl f))] H := hP.sub [0, 1] rfl
        replace hD : va_D A [(h, .inr (0, [.ref a, .int (nI ((M.map nI).length))])), (a, .inl (cA, 120, .inl f))] := hD.sub [0, 1] (by decide) rfl
        refine lv_rei (y := nI (M.getD ix 0)) (un_map (by omega)) ?_
        have hwb : M.getD ix 0 ≤ 1114111 := getD_b hMb (by omega)
        refine lv_icmp_gt (tgt := 25) hx hb dLe_toldBefore_19 (by decide) (fun h19 => ?_) (fun h19 => ?_)
        · skip
          replace h19 := nt_lt (a := M.getD ix 0) (b := M.getD i 0) (by omega) (by omega) h19
          refine lv_iinc (k := 0) (v := nI (i + 1)) (lv' := [(3, .int (nI (i + 1))), (2, .int (nI (leC M (M.getD ix 0) i))), (0, .ref h), (1, .int (nI ix))]) hx hb dLe_toldBefore_25 hl rfl (nI_1 _) (by decide) rfl (fun ls hl => ?_)
          refine lv_goto (tgt := 4) hx hb dLe_toldBefore_28 (by decide) ?_
          have el : leC M (M.getD ix 0) i = leC M (M.getD ix 0) (i + 1) := by rw [leC, if_neg (by omega)]; rfl
          rw [el] at hl
          exact ih_loop1 (i + 1) _ _ _ (by omega) (by omega) (lv_sub hl [0, 1, 2, 3] rfl) hP hD hS
        · skip
          replace h19 := nt_nlt (a := M.getD ix 0) (b := M.getD i 0) (by omega) (by omega) h19
          refine lv_iinc (k := 1) (v := nI (leC M (M.getD ix 0) i + 1)) (lv' := [(2, .int (nI (leC M (M.getD ix 0) i + 1))), (3, .int (nI i)), (0, .ref h), (1, .int (nI ix))]) hx hb dLe_toldBefore_22 hl rfl (nI_1 _) (by decide) rfl (fun ls hl => ?_)
          refine lv_iinc (k := 1) (v := nI (i + 1)) (lv' := [(3, .int (nI (i + 1))), (2, .int (nI (leC M (M.getD ix 0) i + 1))), (0, .ref h), (1, .int (nI ix))]) hx hb dLe_toldBefore_25 hl rfl (nI_1 _) (by decide) rfl (fun ls hl => ?_)
          refine lv_goto (tgt := 4) hx hb dLe_toldBefore_28 (by decide) ?_
          have el : leC M (M.getD ix 0) i + 1 = leC M (M.getD ix 0) (i + 1) := by rw [leC, if_pos h19]
          rw [el] at hl
          exact ih_loop1 (i + 1) _ _ _ (by omega) (by omega) (lv_sub hl [0, 1, 2, 3] rfl) hP hD hS
  exact loop1 _ 0 _ _ _ (Nat.lt_succ_self _) (Nat.zero_le _) (lv_sub hl [0, 1, 2, 3] rfl) hP hD hS
set_option maxHeartbeats 4000000 in
set_option maxRecDepth 100000 in
theorem k_Le_nextToTell (l : Launch) (D : va_G) (cA : ClassId) (sz : Nat) (oT : Nat) (lat : Int32) (va : Nat) (lpl lbi lfi : Int32) (h a : Nat) (M : List Nat) (f : Nat → Int32) (la : Nat) (hf : Hd f (M.map nI)) (hc : (M.map nI).length ≤ 120) (hMb : ∀ x ∈ M, x ≤ 1114111) (hva : va < 2 ^ 31) (hla : la < 2 ^ 31) : KI l D cA y_Le_nextToTell c_Le_nextToTell 7 .int 1 21 [.ref oT, .ref h, .int (lz la)] sz [(oT, .inr (3, [.int lat, .int (nI va), .int lpl, .int lbi, .int lfi])), (h, .inr (0, [.ref a, .int (nI ((M.map nI).length))])), (a, .inl (cA, 120, .inl f))] (S := Unit) (fun r _ => r = ov (nxG M va la M.length)) (fun _ => [(oT, .inr (3, [.int lat, .int (nI va), .int lpl, .int lbi, .int lfi])), (h, .inr (0, [.ref a, .int (nI ((M.map nI).length))])), (a, .inl (cA, 120, .inl f))]) := by
  refine KI.of (by decide) (Nat.le_of_ble_eq_true rfl) ?_
  intro p e s m args below meth c Q R A ls Xf hR hA hS hP hD hK hn hl ret
  have hx := Xf.1
  have hb := Xf.2.1
  have hown : s.vm.findClass "ScalarScribe$Letters" = some m.cls := Xf.2.2.2.1
  have hw := Xf.2.2.2.2
  have hl : lv_has ls 7 [(0, .ref oT), (1, .ref h), (2, .int (lz la))] := hl
  have hcM : M.length ≤ 120 := by rw [List.length_map] at hc; exact hc
  refine lv_iconst (v := (-1)) hx hb dLe_nextToTell_0 (by decide) ?_
  refine lv_istore_n (lv' := [(3, .int (-1)), (0, .ref oT), (1, .ref h), (2, .int (lz la))]) hx hb dLe_nextToTell_1 rfl hl (by decide) rfl (fun ls hl => ?_)
  refine lv_iconst (v := nI 0) hx hb dLe_nextToTell_2 (by decide) ?_
  refine lv_istore (lv' := [(4, .int (nI 0)), (3, .int (-1)), (0, .ref oT), (1, .ref h), (2, .int (lz la))]) hx hb dLe_nextToTell_3 hl (by decide) rfl (fun ls hl => ?_)
  have loop1 : ∀ (n_ : Nat) (i : Nat) (ls : Array Slot) (H : Heap) (locs : List Loc), M.length - i < n_ → i ≤ M.length → lv_has ls 7 [(4, .int (nI i)), (3, .int (ov (nxG M va la i))), (0, .ref oT), (1, .ref h), (2, .int (lz la))] → va_P D vwCl [(oT, .inr (3, [.int lat, .int (nI va), .int lpl, .int lbi, .int lfi])), (h, .inr (0, [.ref a, .int (nI ((M.map nI).length))])), (a, .inl (cA, 120, .inl f))] H → va_D A [(oT, .inr (3, [.int lat, .int (nI va), .int lpl, .int lbi, .int lfi])), (h, .inr (0, [.ref a, .int (nI ((M.map nI).length))])), (a, .inl (cA, 120, .inl f))] → va_S A s.heap H locs → W p l e R s m args below meth c H locs 0 0 Q (F0 m 5 ls []) := by
    intro n_
    induction n_ with
    | zero => intro i ls H locs hm_; exact absurd hm_ (Nat.not_lt_zero _)
    | succ n_ ih_loop1 =>
      intro i ls H locs hm_ hi hl hP hD hS
      refine lv_iload hx hb dLe_nextToTell_5 (lv_at hl 0 rfl) ?_
      refine lv_aload_n hx hb dLe_nextToTell_7 rfl (lv_at hl 3 rfl) ?_
      refine va_getN (D := D) (ci := 0) (v := .int (nI ((M.map nI).length))) (C := R_Row) (T := T_Row) (N := 2) hx hb hw in_Row hown hK hP 1 rfl rfl 1 (by decide) (va_Nw.use rfl (hn _ w_27)) (fun _ h9 => h9) rfl dLe_nextToTell_8 ?_
      refine lv_icmp_ge (tgt := 82) hx hb dLe_nextToTell_11 (by decide) (fun h11 => ?_) (fun h11 => ?_)
      · skip
        replace h11 := nt_le (a := (M.map nI).length) (b := i) (by omega) (by omega) h11
        rw [List.length_map] at h11
        refine lv_iload_n hx hb dLe_nextToTell_82 rfl (lv_at hl 1 rfl) ?_
        exact ret () dLe_nextToTell_83 rfl (by rw [show i = M.length by omega]) hP hD hS
      · skip
        replace h11 := nt_nle (a := (M.map nI).length) (b := i) (by omega) (by omega) h11
        rw [List.length_map] at h11
        have hnx : ∃ z, nxG M va la i = z := ⟨_, rfl⟩
        obtain ⟨z, hnx⟩ := hnx
        rw [hnx] at hl
        rcases z with _ | bj
        · skip
          replace hl : lv_has ls 7 [(4, .int (nI i)), (3, .int (-1)), (0, .ref oT), (1, .ref h), (2, .int (lz la))] := hl
          refine lv_aload_n hx hb dLe_nextToTell_14 rfl (lv_at hl 3 rfl) ?_
          refine lv_iload hx hb dLe_nextToTell_15 (lv_at hl 0 rfl) ?_
          refine ca_i (wr := [(oT, .inr (3, [.int lat, .int (nI va), .int lpl, .int lbi, .int lfi]))]) (va_runV (As := [.int (nI i)]) (rest := []) Xf (k_Row_unitAt l D cA _ h a 120 (M.map nI) f (nI i) hf hc (by omega)) ⟨cb_of 1 hw w_154 w_2 w_218 (by decide +kernel) (by rw [hR]; exact ⟨Nat.le_of_ble_eq_true rfl, Nat.le_of_ble_eq_true rfl⟩), hw _ w_152, hw _ w_153⟩ (pre_V (As := [.int (nI i)]) hP hD hK hn [1, 2] rfl (by decide) 1 0 rfl rfl) rfl rfl hl.1 rfl (lv_room (Nat.le_of_ble_eq_true rfl)) dLe_nextToTell_17 ⟨Nat.zero_le _, Nat.zero_le _⟩) hP hD hS hA [1, 2] [0] rfl rfl (by decide) (by decide) (fun r17 u_ H locs hq_ hP hD hS => ?_)
          obtain rfl : r17 = un (M.map nI) i := hq_.trans (gt_n (by omega) (by omega))
          replace hP : va_P D vwCl [(oT, .inr (3, [.int lat, .int (nI va), .int lpl, .int lbi, .int lfi])), (h, .inr (0, [.ref a, .int (nI ((M.map nI).length))])), (a, .inl (cA, 120, .inl f))] H := hP.sub [0, 1, 2] rfl
          replace hD : va_D A [(oT, .inr (3, [.int lat, .int (nI va), .int lpl, .int lbi, .int lfi])), (h, .inr (0, [.ref a, .int (nI ((M.map nI).length))])), (a, .inl (cA, 120, .inl f))] := hD.sub [0, 1, 2] (by decide) rfl
          refine lv_rei (y := nI (M.getD i 0)) (un_map (by omega)) ?_
          have hvb : M.getD i 0 ≤ 1114111 := getD_b hMb (by omega)
          refine lv_istore (lv' := [(5, .int (nI (M.getD i 0))), (4, .int (nI i)), (3, .int (-1)), (0, .ref oT), (1, .ref h), (2, .int (lz la))]) hx hb dLe_nextToTell_20 hl (by decide) rfl (fun ls hl => ?_)
          refine lv_iload hx hb dLe_nextToTell_22 (lv_at hl 0 rfl) ?_
          refine lv_aload_n hx hb dLe_nextToTell_24 rfl (lv_at hl 3 rfl) ?_
          refine va_get (D := D) (ci := 3) (v := .int (nI va)) (C := R_Le) (T := T_Le) (N := 5) hx hb hw in_Le hown hK hP 0 rfl rfl 1 (by decide) (hw _ w_74) (fun _ h9 => h9) rfl dLe_nextToTell_25 ?_
          refine lv_icmp_gt (tgt := 46) hx hb dLe_nextToTell_28 (by decide) (fun h28 => ?_) (fun h28 => ?_)
          · skip
            replace h28 := nt_lt (a := va) (b := M.getD i 0) (by omega) (by omega) h28
            refine lv_iconst (v := nI 1) hx hb dLe_nextToTell_46 (by decide) ?_
            refine lv_goto (tgt := 51) hx hb dLe_nextToTell_47 (by decide) ?_
            refine lv_istore (lv' := [(6, .int (nI 1)), (5, .int (nI (M.getD i 0))), (4, .int (nI i)), (3, .int (-1)), (0, .ref oT), (1, .ref h), (2, .int (lz la))]) hx hb dLe_nextToTell_51 hl (by decide) rfl (fun ls hl => ?_)
            refine lv_iload hx hb dLe_nextToTell_53 (lv_at hl 0 rfl) ?_
            refine lv_if_eq (tgt := 76) hx hb dLe_nextToTell_55 (by decide) (fun h55 => ?_) (fun h55 => ?_)
            · skip
              exact absurd h55 (by decide)
            · skip
              refine lv_iload_n hx hb dLe_nextToTell_58 rfl (lv_at hl 3 rfl) ?_
              refine lv_iconst (v := (-1)) hx hb dLe_nextToTell_59 (by decide) ?_
              refine lv_icmp_eq (tgt := 73) hx hb dLe_nextToTell_60 (by decide) (fun h60 => ?_) (fun h60 => ?_)
              · skip
                refine lv_iload hx hb dLe_nextToTell_73 (lv_at hl 2 rfl) ?_
                refine lv_istore_n (lv' := [(3, .int (nI i)), (6, .int (nI 1)), (5, .int (nI (M.getD i 0))), (4, .int (nI i)), (0, .ref oT), (1, .ref h), (2, .int (lz la))]) hx hb dLe_nextToTell_75 rfl hl (by decide) rfl (fun ls hl => ?_)
                refine lv_iinc (k := 3) (v := nI (i + 1)) (lv' := [(4, .int (nI (i + 1))), (3, .int (nI i)), (6, .int (nI 1)), (5, .int (nI (M.getD i 0))), (0, .ref oT), (1, .ref h), (2, .int (lz la))]) hx hb dLe_nextToTell_76 hl rfl (nI_1 _) (by decide) rfl (fun ls hl => ?_)
                refine lv_goto (tgt := 5) hx hb dLe_nextToTell_79 (by decide) ?_
                have en : nxG M va la (i + 1) = some i := by rw [nxG, hnx]; exact if_pos (Or.inl h28)
                have eo : nI i = ov (nxG M va la (i + 1)) := by rw [en]; rfl
                rw [eo] at hl
                exact ih_loop1 (i + 1) _ _ _ (by omega) (by omega) (lv_sub hl [0, 1, 4, 5, 6] rfl) hP hD hS
              · skip
                exact absurd h60 (by decide)
          · skip
            replace h28 := nt_nlt (a := va) (b := M.getD i 0) (by omega) (by omega) h28
            refine lv_iload hx hb dLe_nextToTell_31 (lv_at hl 0 rfl) ?_
            refine lv_aload_n hx hb dLe_nextToTell_33 rfl (lv_at hl 3 rfl) ?_
            refine va_get (D := D) (ci := 3) (v := .int (nI va)) (C := R_Le) (T := T_Le) (N := 5) hx hb hw in_Le hown hK hP 0 rfl rfl 1 (by decide) (hw _ w_74) (fun _ h9 => h9) rfl dLe_nextToTell_34 ?_
            refine lv_icmp_ne (tgt := 50) hx hb dLe_nextToTell_37 (by decide) (fun h37 => ?_) (fun h37 => ?_)
            · skip
              replace h37 := nt_ne (a := M.getD i 0) (b := va) (by omega) (by omega) h37
              refine lv_iconst (v := nI 0) hx hb dLe_nextToTell_50 (by decide) ?_
              refine lv_istore (lv' := [(6, .int (nI 0)), (5, .int (nI (M.getD i 0))), (4, .int (nI i)), (3, .int (-1)), (0, .ref oT), (1, .ref h), (2, .int (lz la))]) hx hb dLe_nextToTell_51 hl (by decide) rfl (fun ls hl => ?_)
              refine lv_iload hx hb dLe_nextToTell_53 (lv_at hl 0 rfl) ?_
              refine lv_if_eq (tgt := 76) hx hb dLe_nextToTell_55 (by decide) (fun h55 => ?_) (fun h55 => ?_)
              · skip
                refine lv_iinc (k := 2) (v := nI (i + 1)) (lv' := [(4, .int (nI (i + 1))), (6, .int (nI 0)), (5, .int (nI (M.getD i 0))), (3, .int (-1)), (0, .ref oT), (1, .ref h), (2, .int (lz la))]) hx hb dLe_nextToTell_76 hl rfl (nI_1 _) (by decide) rfl (fun ls hl => ?_)
                refine lv_goto (tgt := 5) hx hb dLe_nextToTell_79 (by decide) ?_
                have en : nxG M va la (i + 1) = none := by rw [nxG, hnx]; exact if_neg (fun q => by omega)
                have eo : (-1) = ov (nxG M va la (i + 1)) := by rw [en]; rfl
                rw [eo] at hl
                exact ih_loop1 (i + 1) _ _ _ (by omega) (by omega) (lv_sub hl [0, 3, 4, 5, 6] rfl) hP hD hS
              · skip
                exact absurd h55 (by decide)
            · skip
              replace h37 := nt_eq (a := M.getD i 0) (b := va) (by omega) (by omega) h37
              refine lv_iload hx hb dLe_nextToTell_40 (lv_at hl 1 rfl) ?_
              refine lv_iload_n hx hb dLe_nextToTell_42 rfl (lv_at hl 5 rfl) ?_
              refine lv_icmp_le (tgt := 50) hx hb dLe_nextToTell_43 (by decide) (fun h43 => ?_) (fun h43 => ?_)
              · skip
                replace h43 := (lz_le (by omega) (by omega)).mp h43
                refine lv_iconst (v := nI 0) hx hb dLe_nextToTell_50 (by decide) ?_
                refine lv_istore (lv' := [(6, .int (nI 0)), (5, .int (nI (M.getD i 0))), (4, .int (nI i)), (3, .int (-1)), (0, .ref oT), (1, .ref h), (2, .int (lz la))]) hx hb dLe_nextToTell_51 hl (by decide) rfl (fun ls hl => ?_)
                refine lv_iload hx hb dLe_nextToTell_53 (lv_at hl 0 rfl) ?_
                refine lv_if_eq (tgt := 76) hx hb dLe_nextToTell_55 (by decide) (fun h55 => ?_) (fun h55 => ?_)
                · skip
                  refine lv_iinc (k := 2) (v := nI (i + 1)) (lv' := [(4, .int (nI (i + 1))), (6, .int (nI 0)), (5, .int (nI (M.getD i 0))), (3, .int (-1)), (0, .ref oT), (1, .ref h), (2, .int (lz la))]) hx hb dLe_nextToTell_76 hl rfl (nI_1 _) (by decide) rfl (fun ls hl => ?_)
                  refine lv_goto (tgt := 5) hx hb dLe_nextToTell_79 (by decide) ?_
                  have en : nxG M va la (i + 1) = none := by rw [nxG, hnx]; exact if_neg (fun q => by omega)
                  have eo : (-1) = ov (nxG M va la (i + 1)) := by rw [en]; rfl
                  rw [eo] at hl
                  exact ih_loop1 (i + 1) _ _ _ (by omega) (by omega) (lv_sub hl [0, 3, 4, 5, 6] rfl) hP hD hS
                · skip
                  exact absurd h55 (by decide)
              · skip
                replace h43 := Nat.le_of_not_lt (fun q => h43 ((lz_le (by omega) (by omega)).mpr q))
                refine lv_iconst (v := nI 1) hx hb dLe_nextToTell_46 (by decide) ?_
                refine lv_goto (tgt := 51) hx hb dLe_nextToTell_47 (by decide) ?_
                refine lv_istore (lv' := [(6, .int (nI 1)), (5, .int (nI (M.getD i 0))), (4, .int (nI i)), (3, .int (-1)), (0, .ref oT), (1, .ref h), (2, .int (lz la))]) hx hb dLe_nextToTell_51 hl (by decide) rfl (fun ls hl => ?_)
                refine lv_iload hx hb dLe_nextToTell_53 (lv_at hl 0 rfl) ?_
                refine lv_if_eq (tgt := 76) hx hb dLe_nextToTell_55 (by decide) (fun h55 => ?_) (fun h55 => ?_)
                · skip
                  exact absurd h55 (by decide)
                · skip
                  refine lv_iload_n hx hb dLe_nextToTell_58 rfl (lv_at hl 3 rfl) ?_
                  refine lv_iconst (v := (-1)) hx hb dLe_nextToTell_59 (by decide) ?_
                  refine lv_icmp_eq (tgt := 73) hx hb dLe_nextToTell_60 (by decide) (fun h60 => ?_) (fun h60 => ?_)
                  · skip
                    refine lv_iload hx hb dLe_nextToTell_73 (lv_at hl 2 rfl) ?_
                    refine lv_istore_n (lv' := [(3, .int (nI i)), (6, .int (nI 1)), (5, .int (nI (M.getD i 0))), (4, .int (nI i)), (0, .ref oT), (1, .ref h), (2, .int (lz la))]) hx hb dLe_nextToTell_75 rfl hl (by decide) rfl (fun ls hl => ?_)
                    refine lv_iinc (k := 3) (v := nI (i + 1)) (lv' := [(4, .int (nI (i + 1))), (3, .int (nI i)), (6, .int (nI 1)), (5, .int (nI (M.getD i 0))), (0, .ref oT), (1, .ref h), (2, .int (lz la))]) hx hb dLe_nextToTell_76 hl rfl (nI_1 _) (by decide) rfl (fun ls hl => ?_)
                    refine lv_goto (tgt := 5) hx hb dLe_nextToTell_79 (by decide) ?_
                    have en : nxG M va la (i + 1) = some i := by rw [nxG, hnx]; exact if_pos (Or.inr ⟨h37, h43⟩)
                    have eo : nI i = ov (nxG M va la (i + 1)) := by rw [en]; rfl
                    rw [eo] at hl
                    exact ih_loop1 (i + 1) _ _ _ (by omega) (by omega) (lv_sub hl [0, 1, 4, 5, 6] rfl) hP hD hS
                  · skip
                    exact absurd h60 (by decide)
        · skip
          replace hl : lv_has ls 7 [(4, .int (nI i)), (3, .int (nI bj)), (0, .ref oT), (1, .ref h), (2, .int (lz la))] := hl
          have hbj := (nx_so _ _ hnx).1
          refine lv_aload_n hx hb dLe_nextToTell_14 rfl (lv_at hl 3 rfl) ?_
          refine lv_iload hx hb dLe_nextToTell_15 (lv_at hl 0 rfl) ?_
          refine ca_i (wr := [(oT, .inr (3, [.int lat, .int (nI va), .int lpl, .int lbi, .int lfi]))]) (va_runV (As := [.int (nI i)]) (rest := []) Xf (k_Row_unitAt l D cA _ h a 120 (M.map nI) f (nI i) hf hc (by omega)) ⟨cb_of 1 hw w_154 w_2 w_218 (by decide +kernel) (by rw [hR]; exact ⟨Nat.le_of_ble_eq_true rfl, Nat.le_of_ble_eq_true rfl⟩), hw _ w_152, hw _ w_153⟩ (pre_V (As := [.int (nI i)]) hP hD hK hn [1, 2] rfl (by decide) 1 0 rfl rfl) rfl rfl hl.1 rfl (lv_room (Nat.le_of_ble_eq_true rfl)) dLe_nextToTell_17 ⟨Nat.zero_le _, Nat.zero_le _⟩) hP hD hS hA [1, 2] [0] rfl rfl (by decide) (by decide) (fun r17 u_ H locs hq_ hP hD hS => ?_)
          obtain rfl : r17 = un (M.map nI) i := hq_.trans (gt_n (by omega) (by omega))
          replace hP : va_P D vwCl [(oT, .inr (3, [.int lat, .int (nI va), .int lpl, .int lbi, .int lfi])), (h, .inr (0, [.ref a, .int (nI ((M.map nI).length))])), (a, .inl (cA, 120, .inl f))] H := hP.sub [0, 1, 2] rfl
          replace hD : va_D A [(oT, .inr (3, [.int lat, .int (nI va), .int lpl, .int lbi, .int lfi])), (h, .inr (0, [.ref a, .int (nI ((M.map nI).length))])), (a, .inl (cA, 120, .inl f))] := hD.sub [0, 1, 2] (by decide) rfl
          refine lv_rei (y := nI (M.getD i 0)) (un_map (by omega)) ?_
          have hvb : M.getD i 0 ≤ 1114111 := getD_b hMb (by omega)
          refine lv_istore (lv' := [(5, .int (nI (M.getD i 0))), (4, .int (nI i)), (3, .int (nI bj)), (0, .ref oT), (1, .ref h), (2, .int (lz la))]) hx hb dLe_nextToTell_20 hl (by decide) rfl (fun ls hl => ?_)
          refine lv_iload hx hb dLe_nextToTell_22 (lv_at hl 0 rfl) ?_
          refine lv_aload_n hx hb dLe_nextToTell_24 rfl (lv_at hl 3 rfl) ?_
          refine va_get (D := D) (ci := 3) (v := .int (nI va)) (C := R_Le) (T := T_Le) (N := 5) hx hb hw in_Le hown hK hP 0 rfl rfl 1 (by decide) (hw _ w_74) (fun _ h9 => h9) rfl dLe_nextToTell_25 ?_
          refine lv_icmp_gt (tgt := 46) hx hb dLe_nextToTell_28 (by decide) (fun h28 => ?_) (fun h28 => ?_)
          · skip
            replace h28 := nt_lt (a := va) (b := M.getD i 0) (by omega) (by omega) h28
            refine lv_iconst (v := nI 1) hx hb dLe_nextToTell_46 (by decide) ?_
            refine lv_goto (tgt := 51) hx hb dLe_nextToTell_47 (by decide) ?_
            refine lv_istore (lv' := [(6, .int (nI 1)), (5, .int (nI (M.getD i 0))), (4, .int (nI i)), (3, .int (nI bj)), (0, .ref oT), (1, .ref h), (2, .int (lz la))]) hx hb dLe_nextToTell_51 hl (by decide) rfl (fun ls hl => ?_)
            refine lv_iload hx hb dLe_nextToTell_53 (lv_at hl 0 rfl) ?_
            refine lv_if_eq (tgt := 76) hx hb dLe_nextToTell_55 (by decide) (fun h55 => ?_) (fun h55 => ?_)
            · skip
              exact absurd h55 (by decide)
            · skip
              refine lv_iload_n hx hb dLe_nextToTell_58 rfl (lv_at hl 3 rfl) ?_
              refine lv_iconst (v := (-1)) hx hb dLe_nextToTell_59 (by decide) ?_
              refine lv_icmp_eq (tgt := 73) hx hb dLe_nextToTell_60 (by decide) (fun h60 => ?_) (fun h60 => ?_)
              · skip
                exact absurd h60 (nI_nm1 (by omega))
              · skip
                refine lv_iload hx hb dLe_nextToTell_63 (lv_at hl 1 rfl) ?_
                refine lv_aload_n hx hb dLe_nextToTell_65 rfl (lv_at hl 5 rfl) ?_
                refine lv_iload_n hx hb dLe_nextToTell_66 rfl (lv_at hl 3 rfl) ?_
                refine ca_i (wr := [(oT, .inr (3, [.int lat, .int (nI va), .int lpl, .int lbi, .int lfi]))]) (va_runV (As := [.int (nI bj)]) (rest := [.int (nI (M.getD i 0))]) Xf (k_Row_unitAt l D cA _ h a 120 (M.map nI) f (nI bj) hf hc (by omega)) ⟨cb_of 1 hw w_154 w_2 w_218 (by decide +kernel) (by rw [hR]; exact ⟨Nat.le_of_ble_eq_true rfl, Nat.le_of_ble_eq_true rfl⟩), hw _ w_152, hw _ w_153⟩ (pre_V (As := [.int (nI bj)]) hP hD hK hn [1, 2] rfl (by decide) 1 0 rfl rfl) rfl rfl hl.1 rfl (lv_room (Nat.le_of_ble_eq_true rfl)) dLe_nextToTell_67 ⟨Nat.zero_le _, Nat.zero_le _⟩) hP hD hS hA [1, 2] [0] rfl rfl (by decide) (by decide) (fun r67 u_ H locs hq_ hP hD hS => ?_)
                obtain rfl : r67 = un (M.map nI) bj := hq_.trans (gt_n (by omega) (by omega))
                replace hP : va_P D vwCl [(oT, .inr (3, [.int lat, .int (nI va), .int lpl, .int lbi, .int lfi])), (h, .inr (0, [.ref a, .int (nI ((M.map nI).length))])), (a, .inl (cA, 120, .inl f))] H := hP.sub [0, 1, 2] rfl
                replace hD : va_D A [(oT, .inr (3, [.int lat, .int (nI va), .int lpl, .int lbi, .int lfi])), (h, .inr (0, [.ref a, .int (nI ((M.map nI).length))])), (a, .inl (cA, 120, .inl f))] := hD.sub [0, 1, 2] (by decide) rfl
                refine lv_rei (y := nI (M.getD bj 0)) (un_map (by omega)) ?_
                have hwb : M.getD bj 0 ≤ 1114111 := getD_b hMb (by omega)
                refine lv_icmp_ge (tgt := 76) hx hb dLe_nextToTell_70 (by decide) (fun h70 => ?_) (fun h70 => ?_)
                · skip
                  replace h70 := nt_le (a := M.getD bj 0) (b := M.getD i 0) (by omega) (by omega) h70
                  refine lv_iinc (k := 2) (v := nI (i + 1)) (lv' := [(4, .int (nI (i + 1))), (6, .int (nI 1)), (5, .int (nI (M.getD i 0))), (3, .int (nI bj)), (0, .ref oT), (1, .ref h), (2, .int (lz la))]) hx hb dLe_nextToTell_76 hl rfl (nI_1 _) (by decide) rfl (fun ls hl => ?_)
                  refine lv_goto (tgt := 5) hx hb dLe_nextToTell_79 (by decide) ?_
                  have en : nxG M va la (i + 1) = some bj := by rw [nxG, hnx]; exact if_neg (fun q => by omega)
                  have eo : nI bj = ov (nxG M va la (i + 1)) := by rw [en]; rfl
                  rw [eo] at hl
                  exact ih_loop1 (i + 1) _ _ _ (by omega) (by omega) (lv_sub hl [0, 3, 4, 5, 6] rfl) hP hD hS
                · skip
                  replace h70 := nt_nle (a := M.getD bj 0) (b := M.getD i 0) (by omega) (by omega) h70
                  refine lv_iload hx hb dLe_nextToTell_73 (lv_at hl 2 rfl) ?_
                  refine lv_istore_n (lv' := [(3, .int (nI i)), (6, .int (nI 1)), (5, .int (nI (M.getD i 0))), (4, .int (nI i)), (0, .ref oT), (1, .ref h), (2, .int (lz la))]) hx hb dLe_nextToTell_75 rfl hl (by decide) rfl (fun ls hl => ?_)
                  refine lv_iinc (k := 3) (v := nI (i + 1)) (lv' := [(4, .int (nI (i + 1))), (3, .int (nI i)), (6, .int (nI 1)), (5, .int (nI (M.getD i 0))), (0, .ref oT), (1, .ref h), (2, .int (lz la))]) hx hb dLe_nextToTell_76 hl rfl (nI_1 _) (by decide) rfl (fun ls hl => ?_)
                  refine lv_goto (tgt := 5) hx hb dLe_nextToTell_79 (by decide) ?_
                  have en : nxG M va la (i + 1) = some i := by rw [nxG, hnx]; exact if_pos ⟨Or.inl h28, h70⟩
                  have eo : nI i = ov (nxG M va la (i + 1)) := by rw [en]; rfl
                  rw [eo] at hl
                  exact ih_loop1 (i + 1) _ _ _ (by omega) (by omega) (lv_sub hl [0, 1, 4, 5, 6] rfl) hP hD hS
          · skip
            replace h28 := nt_nlt (a := va) (b := M.getD i 0) (by omega) (by omega) h28
            refine lv_iload hx hb dLe_nextToTell_31 (lv_at hl 0 rfl) ?_
            refine lv_aload_n hx hb dLe_nextToTell_33 rfl (lv_at hl 3 rfl) ?_
            refine va_get (D := D) (ci := 3) (v := .int (nI va)) (C := R_Le) (T := T_Le) (N := 5) hx hb hw in_Le hown hK hP 0 rfl rfl 1 (by decide) (hw _ w_74) (fun _ h9 => h9) rfl dLe_nextToTell_34 ?_
            refine lv_icmp_ne (tgt := 50) hx hb dLe_nextToTell_37 (by decide) (fun h37 => ?_) (fun h37 => ?_)
            · skip
              replace h37 := nt_ne (a := M.getD i 0) (b := va) (by omega) (by omega) h37
              refine lv_iconst (v := nI 0) hx hb dLe_nextToTell_50 (by decide) ?_
              refine lv_istore (lv' := [(6, .int (nI 0)), (5, .int (nI (M.getD i 0))), (4, .int (nI i)), (3, .int (nI bj)), (0, .ref oT), (1, .ref h), (2, .int (lz la))]) hx hb dLe_nextToTell_51 hl (by decide) rfl (fun ls hl => ?_)
              refine lv_iload hx hb dLe_nextToTell_53 (lv_at hl 0 rfl) ?_
              refine lv_if_eq (tgt := 76) hx hb dLe_nextToTell_55 (by decide) (fun h55 => ?_) (fun h55 => ?_)
              · skip
                refine lv_iinc (k := 2) (v := nI (i + 1)) (lv' := [(4, .int (nI (i + 1))), (6, .int (nI 0)), (5, .int (nI (M.getD i 0))), (3, .int (nI bj)), (0, .ref oT), (1, .ref h), (2, .int (lz la))]) hx hb dLe_nextToTell_76 hl rfl (nI_1 _) (by decide) rfl (fun ls hl => ?_)
                refine lv_goto (tgt := 5) hx hb dLe_nextToTell_79 (by decide) ?_
                have en : nxG M va la (i + 1) = some bj := by rw [nxG, hnx]; exact if_neg (fun q => (fun q => by omega) q.1)
                have eo : nI bj = ov (nxG M va la (i + 1)) := by rw [en]; rfl
                rw [eo] at hl
                exact ih_loop1 (i + 1) _ _ _ (by omega) (by omega) (lv_sub hl [0, 3, 4, 5, 6] rfl) hP hD hS
              · skip
                exact absurd h55 (by decide)
            · skip
              replace h37 := nt_eq (a := M.getD i 0) (b := va) (by omega) (by omega) h37
              refine lv_iload hx hb dLe_nextToTell_40 (lv_at hl 1 rfl) ?_
              refine lv_iload_n hx hb dLe_nextToTell_42 rfl (lv_at hl 5 rfl) ?_
              refine lv_icmp_le (tgt := 50) hx hb dLe_nextToTell_43 (by decide) (fun h43 => ?_) (fun h43 => ?_)
              · skip
                replace h43 := (lz_le (by omega) (by omega)).mp h43
                refine lv_iconst (v := nI 0) hx hb dLe_nextToTell_50 (by decide) ?_
                refine lv_istore (lv' := [(6, .int (nI 0)), (5, .int (nI (M.getD i 0))), (4, .int (nI i)), (3, .int (nI bj)), (0, .ref oT), (1, .ref h), (2, .int (lz la))]) hx hb dLe_nextToTell_51 hl (by decide) rfl (fun ls hl => ?_)
                refine lv_iload hx hb dLe_nextToTell_53 (lv_at hl 0 rfl) ?_
                refine lv_if_eq (tgt := 76) hx hb dLe_nextToTell_55 (by decide) (fun h55 => ?_) (fun h55 => ?_)
                · skip
                  refine lv_iinc (k := 2) (v := nI (i + 1)) (lv' := [(4, .int (nI (i + 1))), (6, .int (nI 0)), (5, .int (nI (M.getD i 0))), (3, .int (nI bj)), (0, .ref oT), (1, .ref h), (2, .int (lz la))]) hx hb dLe_nextToTell_76 hl rfl (nI_1 _) (by decide) rfl (fun ls hl => ?_)
                  refine lv_goto (tgt := 5) hx hb dLe_nextToTell_79 (by decide) ?_
                  have en : nxG M va la (i + 1) = some bj := by rw [nxG, hnx]; exact if_neg (fun q => (fun q => by omega) q.1)
                  have eo : nI bj = ov (nxG M va la (i + 1)) := by rw [en]; rfl
                  rw [eo] at hl
                  exact ih_loop1 (i + 1) _ _ _ (by omega) (by omega) (lv_sub hl [0, 3, 4, 5, 6] rfl) hP hD hS
                · skip
                  exact absurd h55 (by decide)
              · skip
                replace h43 := Nat.le_of_not_lt (fun q => h43 ((lz_le (by omega) (by omega)).mpr q))
                refine lv_iconst (v := nI 1) hx hb dLe_nextToTell_46 (by decide) ?_
                refine lv_goto (tgt := 51) hx hb dLe_nextToTell_47 (by decide) ?_
                refine lv_istore (lv' := [(6, .int (nI 1)), (5, .int (nI (M.getD i 0))), (4, .int (nI i)), (3, .int (nI bj)), (0, .ref oT), (1, .ref h), (2, .int (lz la))]) hx hb dLe_nextToTell_51 hl (by decide) rfl (fun ls hl => ?_)
                refine lv_iload hx hb dLe_nextToTell_53 (lv_at hl 0 rfl) ?_
                refine lv_if_eq (tgt := 76) hx hb dLe_nextToTell_55 (by decide) (fun h55 => ?_) (fun h55 => ?_)
                · skip
                  exact absurd h55 (by decide)
                · skip
                  refine lv_iload_n hx hb dLe_nextToTell_58 rfl (lv_at hl 3 rfl) ?_
                  refine lv_iconst (v := (-1)) hx hb dLe_nextToTell_59 (by decide) ?_
                  refine lv_icmp_eq (tgt := 73) hx hb dLe_nextToTell_60 (by decide) (fun h60 => ?_) (fun h60 => ?_)
                  · skip
                    exact absurd h60 (nI_nm1 (by omega))
                  · skip
                    refine lv_iload hx hb dLe_nextToTell_63 (lv_at hl 1 rfl) ?_
                    refine lv_aload_n hx hb dLe_nextToTell_65 rfl (lv_at hl 5 rfl) ?_
                    refine lv_iload_n hx hb dLe_nextToTell_66 rfl (lv_at hl 3 rfl) ?_
                    refine ca_i (wr := [(oT, .inr (3, [.int lat, .int (nI va), .int lpl, .int lbi, .int lfi]))]) (va_runV (As := [.int (nI bj)]) (rest := [.int (nI (M.getD i 0))]) Xf (k_Row_unitAt l D cA _ h a 120 (M.map nI) f (nI bj) hf hc (by omega)) ⟨cb_of 1 hw w_154 w_2 w_218 (by decide +kernel) (by rw [hR]; exact ⟨Nat.le_of_ble_eq_true rfl, Nat.le_of_ble_eq_true rfl⟩), hw _ w_152, hw _ w_153⟩ (pre_V (As := [.int (nI bj)]) hP hD hK hn [1, 2] rfl (by decide) 1 0 rfl rfl) rfl rfl hl.1 rfl (lv_room (Nat.le_of_ble_eq_true rfl)) dLe_nextToTell_67 ⟨Nat.zero_le _, Nat.zero_le _⟩) hP hD hS hA [1, 2] [0] rfl rfl (by decide) (by decide) (fun r67 u_ H locs hq_ hP hD hS => ?_)
                    obtain rfl : r67 = un (M.map nI) bj := hq_.trans (gt_n (by omega) (by omega))
                    replace hP : va_P D vwCl [(oT, .inr (3, [.int lat, .int (nI va), .int lpl, .int lbi, .int lfi])), (h, .inr (0, [.ref a, .int (nI ((M.map nI).length))])), (a, .inl (cA, 120, .inl f))] H := hP.sub [0, 1, 2] rfl
                    replace hD : va_D A [(oT, .inr (3, [.int lat, .int (nI va), .int lpl, .int lbi, .int lfi])), (h, .inr (0, [.ref a, .int (nI ((M.map nI).length))])), (a, .inl (cA, 120, .inl f))] := hD.sub [0, 1, 2] (by decide) rfl
                    refine lv_rei (y := nI (M.getD bj 0)) (un_map (by omega)) ?_
                    have hwb : M.getD bj 0 ≤ 1114111 := getD_b hMb (by omega)
                    refine lv_icmp_ge (tgt := 76) hx hb dLe_nextToTell_70 (by decide) (fun h70 => ?_) (fun h70 => ?_)
                    · skip
                      replace h70 := nt_le (a := M.getD bj 0) (b := M.getD i 0) (by omega) (by omega) h70
                      refine lv_iinc (k := 2) (v := nI (i + 1)) (lv' := [(4, .int (nI (i + 1))), (6, .int (nI 1)), (5, .int (nI (M.getD i 0))), (3, .int (nI bj)), (0, .ref oT), (1, .ref h), (2, .int (lz la))]) hx hb dLe_nextToTell_76 hl rfl (nI_1 _) (by decide) rfl (fun ls hl => ?_)
                      refine lv_goto (tgt := 5) hx hb dLe_nextToTell_79 (by decide) ?_
                      have en : nxG M va la (i + 1) = some bj := by rw [nxG, hnx]; exact if_neg (fun q => by omega)
                      have eo : nI bj = ov (nxG M va la (i + 1)) := by rw [en]; rfl
                      rw [eo] at hl
                      exact ih_loop1 (i + 1) _ _ _ (by omega) (by omega) (lv_sub hl [0, 3, 4, 5, 6] rfl) hP hD hS
                    · skip
                      replace h70 := nt_nle (a := M.getD bj 0) (b := M.getD i 0) (by omega) (by omega) h70
                      refine lv_iload hx hb dLe_nextToTell_73 (lv_at hl 2 rfl) ?_
                      refine lv_istore_n (lv' := [(3, .int (nI i)), (6, .int (nI 1)), (5, .int (nI (M.getD i 0))), (4, .int (nI i)), (0, .ref oT), (1, .ref h), (2, .int (lz la))]) hx hb dLe_nextToTell_75 rfl hl (by decide) rfl (fun ls hl => ?_)
                      refine lv_iinc (k := 3) (v := nI (i + 1)) (lv' := [(4, .int (nI (i + 1))), (3, .int (nI i)), (6, .int (nI 1)), (5, .int (nI (M.getD i 0))), (0, .ref oT), (1, .ref h), (2, .int (lz la))]) hx hb dLe_nextToTell_76 hl rfl (nI_1 _) (by decide) rfl (fun ls hl => ?_)
                      refine lv_goto (tgt := 5) hx hb dLe_nextToTell_79 (by decide) ?_
                      have en : nxG M va la (i + 1) = some i := by rw [nxG, hnx]; exact if_pos ⟨Or.inr ⟨h37, h43⟩, h70⟩
                      have eo : nI i = ov (nxG M va la (i + 1)) := by rw [en]; rfl
                      rw [eo] at hl
                      exact ih_loop1 (i + 1) _ _ _ (by omega) (by omega) (lv_sub hl [0, 1, 4, 5, 6] rfl) hP hD hS
  exact loop1 _ 0 _ _ _ (Nat.lt_succ_self _) (Nat.zero_le _) (lv_sub hl [0, 1, 2, 3, 4] rfl) hP hD hS
