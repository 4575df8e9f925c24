set_option maxHeartbeats 4000000 in
set_option maxRecDepth 100000 in
theorem k_Le_readNumber (l : Launch) (D : va_G) (cA : ClassId) (sz : Nat) (oT la : Nat) (lva lpl : Int32) (bi : Nat) (lfi : Int32) (h a N : Nat) (I : List Int32) (f : Nat → Int32) (hf : Hd f I) (hc : I.length ≤ N) (hN : N < 2 ^ 20) (hla : la ≤ I.length) (hbi : bi < 2 ^ 20) : KI l D cA y_Le_readNumber c_Le_readNumber 9 .int 2 42 [.ref oT, .ref h] sz [(oT, .inr (3, [.int (nI la), .int lva, .int lpl, .int (nI bi), .int lfi])), (h, .inr (0, [.ref a, .int (nI I.length)])), (a, .inl (cA, N, .inl f))] (S := Nat × Nat) (fun r u => (rnS I bi I.length 1 la 0 1 = (0, u.2, u.1) ∧ r = nI u.2) ∨ (rnS I bi I.length 1 la 0 1 = (-1, u.2, u.1) ∧ r = -1) ∨ (rnS I bi I.length 1 la 0 1 = (-2, u.2, u.1) ∧ r = -2)) (fun u => [(oT, .inr (3, [.int (nI u.1), .int lva, .int lpl, .int (nI bi), .int lfi])), (h, .inr (0, [.ref a, .int (nI I.length)])), (a, .inl (cA, N, .inl f))]) := by
  refine KI.of (by decide) (Nat.le_of_ble_eq_true rfl) ?_
  intro p e s m args below meth c Q R A ls Xf hR hA hS hP hD hK hn hl ret
  have hx := Xf.1
  have hb := Xf.2.1
  have hown : s.vm.findClass "ScalarScribe$Letters" = some m.cls := Xf.2.2.2.1
  have hw := Xf.2.2.2.2
  have hl : lv_has ls 9 [(0, .ref oT), (1, .ref h)] := hl
  refine lv_lconst (v := lN 0) hx hb dLe_readNumber_0 (by decide) ?_
  refine lv_lstore_n (lv' := [(2, .long (lN 0)), (0, .ref oT), (1, .ref h)]) hx hb dLe_readNumber_1 rfl hl (by decide) rfl (fun ls hl => ?_)
  refine lv_lconst (v := lN 1) hx hb dLe_readNumber_2 (by decide) ?_
  refine lv_lstore (lv' := [(4, .long (lN 1)), (2, .long (lN 0)), (0, .ref oT), (1, .ref h)]) hx hb dLe_readNumber_3 hl (by decide) rfl (fun ls hl => ?_)
  refine lv_iconst (v := nI 1) hx hb dLe_readNumber_5 (by decide) ?_
  refine lv_istore (lv' := [(6, .int (nI 1)), (4, .long (lN 1)), (2, .long (lN 0)), (0, .ref oT), (1, .ref h)]) hx hb dLe_readNumber_6 hl (by decide) rfl (fun ls hl => ?_)
  have loop1 : ∀ (n_ : Nat) (k : Nat) (ax : Nat) (sm : Nat) (wt : Nat) (kf : Nat) (ls : Array Slot) (H : Heap) (locs : List Loc), kf < n_ → k + kf = I.length + 1 → 1 ≤ k → ax ≤ I.length → sm ≤ 2147483647 → wt ≤ 2147483647 → rnS I bi kf k ax sm wt = rnS I bi I.length 1 la 0 1 → lv_has ls 9 [(6, .int (nI k)), (2, .long (lN sm)), (4, .long (lN wt)), (0, .ref oT), (1, .ref h)] → va_P D vwCl [(oT, .inr (3, [.int (nI ax), .int lva, .int lpl, .int (nI bi), .int lfi])), (h, .inr (0, [.ref a, .int (nI I.length)])), (a, .inl (cA, N, .inl f))] H → va_D A [(oT, .inr (3, [.int (nI ax), .int lva, .int lpl, .int (nI bi), .int lfi])), (h, .inr (0, [.ref a, .int (nI I.length)])), (a, .inl (cA, N, .inl f))] → va_S A s.heap H locs → W p l e R s m args below meth c H locs 0 0 Q (F0 m 8 ls []) := by
    intro n_
    induction n_ with
    | zero => intro k ax sm wt kf ls H locs hm_; exact absurd hm_ (Nat.not_lt_zero _)
    | succ n_ ih_loop1 =>
      intro k ax sm wt kf ls H locs hm_ hk1 hk2 hax hsm hwt hF hl hP hD hS
      refine lv_iload hx hb dLe_readNumber_8 (lv_at hl 0 rfl) ?_
      refine lv_aload_n hx hb dLe_readNumber_10 rfl (lv_at hl 4 rfl) ?_
      refine va_getN (D := D) (ci := 0) (v := .int (nI I.length)) (C := R_Row) (T := T_Row) (N := 2) hx hb hw in_Row hown hK hP 1 rfl rfl 1 (by decide) (va_Nw.use rfl (hn _ w_27)) (fun _ h9 => h9) rfl dLe_readNumber_11 ?_
      refine lv_icmp_gt (tgt := 115) hx hb dLe_readNumber_14 (by decide) (fun h14 => ?_) (fun h14 => ?_)
      · skip
        replace h14 := nt_lt (a := I.length) (b := k) (by omega) (by omega) h14
        obtain rfl : kf = 0 := by omega
        refine lv_iconst (v := (-1)) hx hb dLe_readNumber_115 (by decide) ?_
        exact ret (ax, sm) dLe_readNumber_116 rfl (Or.inr (Or.inl ⟨by rw [← hF]; rfl, rfl⟩)) hP hD hS
      · skip
        replace h14 := nt_nlt (a := I.length) (b := k) (by omega) (by omega) h14
        obtain ⟨k2, rfl⟩ : ∃ k2, kf = k2 + 1 := ⟨kf - 1, by omega⟩
        refine lv_aload_n hx hb dLe_readNumber_17 rfl (lv_at hl 4 rfl) ?_
        refine lv_aload_n hx hb dLe_readNumber_18 rfl (lv_at hl 3 rfl) ?_
        refine va_get (D := D) (ci := 3) (v := .int (nI ax)) (C := R_Le) (T := T_Le) (N := 5) hx hb hw in_Le hown hK hP 0 rfl rfl 0 (by decide) (hw _ w_73) (fun _ h9 => h9) rfl dLe_readNumber_19 ?_
        refine ca_i (wr := [(oT, .inr (3, [.int (nI ax), .int lva, .int lpl, .int (nI bi), .int lfi]))]) (va_runV (As := [.int (nI ax)]) (rest := []) Xf (k_Row_unitAt l D cA _ h a N I f (nI ax) hf hc (by omega)) ⟨cb_of 1 hw w_154 w_2 w_218 (by decide +kernel) (by rw [hR]; exact ⟨Nat.le_of_ble_eq_true rfl, Nat.le_of_ble_eq_true rfl⟩), hw _ w_152, hw _ w_153⟩ (pre_V (As := [.int (nI ax)]) hP hD hK hn [1, 2] rfl (by decide) 1 0 rfl rfl) rfl rfl hl.1 rfl (lv_room (Nat.le_of_ble_eq_true rfl)) dLe_readNumber_22 ⟨Nat.zero_le _, Nat.zero_le _⟩) hP hD hS hA [1, 2] [0] rfl rfl (by decide) (by decide) (fun r22 u_ H locs hq_ hP hD hS => ?_)
        obtain rfl : r22 = un I ax := hq_.trans (gt_n (by omega) (by omega))
        replace hP : va_P D vwCl [(oT, .inr (3, [.int (nI ax), .int lva, .int lpl, .int (nI bi), .int lfi])), (h, .inr (0, [.ref a, .int (nI I.length)])), (a, .inl (cA, N, .inl f))] H := hP.sub [0, 1, 2] rfl
        replace hD : va_D A [(oT, .inr (3, [.int (nI ax), .int lva, .int lpl, .int (nI bi), .int lfi])), (h, .inr (0, [.ref a, .int (nI I.length)])), (a, .inl (cA, N, .inl f))] := hD.sub [0, 1, 2] (by decide) rfl
        refine ca_i (wr := [(oT, .inr (3, [.int (nI ax), .int lva, .int lpl, .int (nI bi), .int lfi])), (h, .inr (0, [.ref a, .int (nI I.length)])), (a, .inl (cA, N, .inl f))]) (va_runS (As := [.int (un I ax)]) (rest := []) Xf (k_Le_digitOf l D cA _ (un I ax)) ⟨cb_of 1 hw w_226 w_6 w_224 (by decide +kernel) (by rw [hR]; exact ⟨Nat.le_of_ble_eq_true rfl, Nat.le_of_ble_eq_true rfl⟩), hw _ w_225⟩ (pre_S hP hD hK hn [] rfl (by decide)) rfl rfl hl.1 rfl (lv_room (Nat.le_of_ble_eq_true rfl)) dLe_readNumber_25 ⟨Nat.zero_le _, Nat.zero_le _⟩) hP hD hS hA [] [0, 1, 2] rfl rfl (by decide) (by decide) (fun r25 u_ H locs hq_ hP hD hS => ?_)
        rcases hq_ with ⟨dg, hdg, hd35, rfl⟩ | ⟨hdg, rfl⟩
        · skip
          replace hP : va_P D vwCl [(oT, .inr (3, [.int (nI ax), .int lva, .int lpl, .int (nI bi), .int lfi])), (h, .inr (0, [.ref a, .int (nI I.length)])), (a, .inl (cA, N, .inl f))] H := hP.sub [0, 1, 2] rfl
          replace hD : va_D A [(oT, .inr (3, [.int (nI ax), .int lva, .int lpl, .int (nI bi), .int lfi])), (h, .inr (0, [.ref a, .int (nI I.length)])), (a, .inl (cA, N, .inl f))] := hD.sub [0, 1, 2] (by decide) rfl
          have hain := dgo_in hdg
          have hdw : dg * wt ≤ 35 * 2147483647 := Nat.mul_le_mul hd35 hwt
          refine lv_istore (lv' := [(7, .int (nI dg)), (6, .int (nI k)), (2, .long (lN sm)), (4, .long (lN wt)), (0, .ref oT), (1, .ref h)]) hx hb dLe_readNumber_28 hl (by decide) rfl (fun ls hl => ?_)
          refine lv_iload hx hb dLe_readNumber_30 (lv_at hl 0 rfl) ?_
          refine lv_iconst (v := (-1)) hx hb dLe_readNumber_32 (by decide) ?_
          refine lv_icmp_ne (tgt := 38) hx hb dLe_readNumber_33 (by decide) (fun h33 => ?_) (fun h33 => ?_)
          · skip
            refine lv_aload_n hx hb dLe_readNumber_38 rfl (lv_at hl 4 rfl) ?_
            refine lv_dup hx hb dLe_readNumber_39 rfl ?_
            refine va_get (D := D) (ci := 3) (v := .int (nI ax)) (C := R_Le) (T := T_Le) (N := 5) hx hb hw in_Le hown hK hP 0 rfl rfl 0 (by decide) (hw _ w_73) (fun _ h9 => h9) rfl dLe_readNumber_40 ?_
            refine lv_iconst (v := nI 1) hx hb dLe_readNumber_43 (by decide) ?_
            refine lv_iadd hx hb dLe_readNumber_44 ?_
            refine lv_rei (y := nI (ax + 1)) (nI_add _ _) ?_
            refine va_put (D := D) (ci := 3) (v := .int (nI (ax + 1))) (ty := .int) (C := R_Le) (T := T_Le) (N := 5) hx hb hw in_Le ty_Le ty_Le_ok nm_Le hown hK hP hD hS 0 rfl rfl 0 (by decide) (hw _ w_73) (fun _ h9 => h9) rfl (by decide +kernel) rfl rfl (Nat.le_of_ble_eq_true rfl) dLe_readNumber_45 (fun H locs hP hD hS => ?_)
            have hP : va_P D vwCl [(oT, .inr (3, [.int (nI (ax + 1)), .int lva, .int lpl, .int (nI bi), .int lfi])), (h, .inr (0, [.ref a, .int (nI I.length)])), (a, .inl (cA, N, .inl f))] H := hP
            have hD : va_D A [(oT, .inr (3, [.int (nI (ax + 1)), .int lva, .int lpl, .int (nI bi), .int lfi])), (h, .inr (0, [.ref a, .int (nI I.length)])), (a, .inl (cA, N, .inl f))] := hD
            refine lv_lload_n hx hb dLe_readNumber_48 rfl (lv_at hl 2 rfl) ?_
            refine lv_iload hx hb dLe_readNumber_49 (lv_at hl 0 rfl) ?_
            refine lv_i2l (v := lN dg) hx hb dLe_readNumber_51 (nI_l (by omega)) ?_
            refine lv_lload hx hb dLe_readNumber_52 (lv_at hl 3 rfl) ?_
            refine lv_lmul hx hb dLe_readNumber_54 ?_
            refine lv_rel (y := lN (dg * wt)) (lN_mul _ _) ?_
            refine lv_ladd hx hb dLe_readNumber_55 ?_
            refine lv_rel (y := lN (sm + (dg * wt))) (lN_add _ _) ?_
            refine lv_lstore_n (lv' := [(2, .long (lN (sm + (dg * wt)))), (7, .int (nI dg)), (6, .int (nI k)), (4, .long (lN wt)), (0, .ref oT), (1, .ref h)]) hx hb dLe_readNumber_56 rfl hl (by decide) rfl (fun ls hl => ?_)
            refine lv_lload_n hx hb dLe_readNumber_57 rfl (lv_at hl 0 rfl) ?_
            refine lv_ldc2 (v := lN 2147483647) hx hb hown (hw _ w_227) dLe_readNumber_58 ?_
            refine W.lcmp hx hb dLe_readNumber_61 ?_
            refine lv_if_le (tgt := 68) hx hb dLe_readNumber_62 (by decide) (fun h62 => ?_) (fun h62 => ?_)
            · skip
              replace h62 := lc_le (a := sm + (dg * wt)) (b := 2147483647) (by omega) (by omega) h62
              refine lv_aload_n hx hb dLe_readNumber_68 rfl (lv_at hl 4 rfl) ?_
              refine lv_iload hx hb dLe_readNumber_69 (lv_at hl 2 rfl) ?_
              refine ca_i (wr := [(h, .inr (0, [.ref a, .int (nI I.length)])), (a, .inl (cA, N, .inl f))]) (va_runV (As := [.int (nI k)]) (rest := []) Xf (k_Le_thresholdOf l D cA _ oT (nI (ax + 1)) lva lpl bi lfi k (by omega) (by omega)) ⟨cb_of 1 hw w_231 w_6 w_228 (by decide +kernel) (by rw [hR]; exact ⟨Nat.le_of_ble_eq_true rfl, Nat.le_of_ble_eq_true rfl⟩), hw _ w_230, hw _ ws_4⟩ (pre_V (As := [.int (nI k)]) hP hD hK hn [0] rfl (by decide) 0 3 rfl rfl) rfl rfl hl.1 rfl (lv_room (Nat.le_of_ble_eq_true rfl)) dLe_readNumber_71 ⟨Nat.zero_le _, Nat.zero_le _⟩) hP hD hS hA [0] [1, 2] rfl rfl (by decide) (by decide) (fun r71 u_ H locs hq_ hP hD hS => ?_)
              obtain rfl : r71 = nI (thN bi k) := hq_
              have hth := thN_b bi k
              replace hP : va_P D vwCl [(oT, .inr (3, [.int (nI (ax + 1)), .int lva, .int lpl, .int (nI bi), .int lfi])), (h, .inr (0, [.ref a, .int (nI I.length)])), (a, .inl (cA, N, .inl f))] H := hP.sub [2, 0, 1] rfl
              replace hD : va_D A [(oT, .inr (3, [.int (nI (ax + 1)), .int lva, .int lpl, .int (nI bi), .int lfi])), (h, .inr (0, [.ref a, .int (nI I.length)])), (a, .inl (cA, N, .inl f))] := hD.sub [2, 0, 1] (by decide) rfl
              refine lv_istore (lv' := [(8, .int (nI (thN bi k))), (2, .long (lN (sm + (dg * wt)))), (7, .int (nI dg)), (6, .int (nI k)), (4, .long (lN wt)), (0, .ref oT), (1, .ref h)]) hx hb dLe_readNumber_74 hl (by decide) rfl (fun ls hl => ?_)
              refine lv_iload hx hb dLe_readNumber_76 (lv_at hl 2 rfl) ?_
              refine lv_iload hx hb dLe_readNumber_78 (lv_at hl 0 rfl) ?_
              refine lv_icmp_ge (tgt := 86) hx hb dLe_readNumber_80 (by decide) (fun h80 => ?_) (fun h80 => ?_)
              · skip
                replace h80 := nt_le (a := thN bi k) (b := dg) (by omega) (by omega) h80
                refine lv_lload hx hb dLe_readNumber_86 (lv_at hl 4 rfl) ?_
                refine lv_bipush (v := nI 36) hx hb dLe_readNumber_88 (by decide) ?_
                refine lv_iload hx hb dLe_readNumber_90 (lv_at hl 0 rfl) ?_
                refine lv_isub hx hb dLe_readNumber_92 ?_
                refine lv_rei (y := nI (36 - (thN bi k))) (pk_sub (by omega)) ?_
                refine lv_i2l (v := lN (36 - (thN bi k))) hx hb dLe_readNumber_93 (nI_l (by omega)) ?_
                have hwm : wt * (36 - thN bi k) ≤ 2147483647 * 35 := Nat.mul_le_mul hwt (by omega)
                refine lv_lmul hx hb dLe_readNumber_94 ?_
                refine lv_rel (y := lN (wt * (36 - (thN bi k)))) (lN_mul _ _) ?_
                refine lv_lstore (lv' := [(4, .long (lN (wt * (36 - (thN bi k))))), (8, .int (nI (thN bi k))), (2, .long (lN (sm + (dg * wt)))), (7, .int (nI dg)), (6, .int (nI k)), (0, .ref oT), (1, .ref h)]) hx hb dLe_readNumber_95 hl (by decide) rfl (fun ls hl => ?_)
                refine lv_lload hx hb dLe_readNumber_97 (lv_at hl 0 rfl) ?_
                refine lv_ldc2 (v := lN 2147483647) hx hb hown (hw _ w_227) dLe_readNumber_99 ?_
                refine W.lcmp hx hb dLe_readNumber_102 ?_
                refine lv_if_le (tgt := 109) hx hb dLe_readNumber_103 (by decide) (fun h103 => ?_) (fun h103 => ?_)
                · skip
                  replace h103 := lc_le (a := wt * (36 - (thN bi k))) (b := 2147483647) (by omega) (by omega) h103
                  refine lv_iinc (k := 4) (v := nI (k + 1)) (lv' := [(6, .int (nI (k + 1))), (4, .long (lN (wt * (36 - (thN bi k))))), (8, .int (nI (thN bi k))), (2, .long (lN (sm + (dg * wt)))), (7, .int (nI dg)), (0, .ref oT), (1, .ref h)]) hx hb dLe_readNumber_109 hl rfl (nI_1 _) (by decide) rfl (fun ls hl => ?_)
                  refine lv_goto (tgt := 8) hx hb dLe_readNumber_112 (by decide) ?_
                  rw [rn_s hdg, if_neg (by omega), if_neg (by omega), if_neg (by omega)] at hF
                  exact ih_loop1 (k + 1) (ax + 1) (sm + dg * wt) (wt * (36 - thN bi k)) k2 _ _ _ (by omega) (by omega) (by omega) (by omega) (by omega) (by omega) hF (lv_sub hl [0, 3, 1, 5, 6] rfl) hP hD hS
                · skip
                  replace h103 := lc_nle (a := wt * (36 - (thN bi k))) (b := 2147483647) (by omega) (by omega) h103
                  refine lv_bipush (v := (-2)) hx hb dLe_readNumber_106 (by decide) ?_
                  exact ret (ax + 1, sm + dg * wt) dLe_readNumber_108 rfl (Or.inr (Or.inr ⟨by rw [← hF, rn_s hdg, if_neg (by omega), if_neg (by omega), if_pos (by omega)], rfl⟩)) hP hD hS
              · skip
                replace h80 := nt_nle (a := thN bi k) (b := dg) (by omega) (by omega) h80
                refine lv_lload_n hx hb dLe_readNumber_83 rfl (lv_at hl 1 rfl) ?_
                refine lv_l2i (v := nI (sm + (dg * wt))) hx hb dLe_readNumber_84 (lN_i _) ?_
                exact ret (ax + 1, sm + dg * wt) dLe_readNumber_85 rfl (Or.inl ⟨by rw [← hF, rn_s hdg, if_neg (by omega), if_pos (by omega)], rfl⟩) hP hD hS
            · skip
              replace h62 := lc_nle (a := sm + (dg * wt)) (b := 2147483647) (by omega) (by omega) h62
              refine lv_bipush (v := (-2)) hx hb dLe_readNumber_65 (by decide) ?_
              exact ret (ax + 1, sm + dg * wt) dLe_readNumber_67 rfl (Or.inr (Or.inr ⟨by rw [← hF, rn_s hdg, if_pos (by omega)], rfl⟩)) hP hD hS
          · skip
            exact absurd h33 (nI_nm1 (by omega))
        · skip
          replace hP : va_P D vwCl [(oT, .inr (3, [.int (nI ax), .int lva, .int lpl, .int (nI bi), .int lfi])), (h, .inr (0, [.ref a, .int (nI I.length)])), (a, .inl (cA, N, .inl f))] H := hP.sub [0, 1, 2] rfl
          replace hD : va_D A [(oT, .inr (3, [.int (nI ax), .int lva, .int lpl, .int (nI bi), .int lfi])), (h, .inr (0, [.ref a, .int (nI I.length)])), (a, .inl (cA, N, .inl f))] := hD.sub [0, 1, 2] (by decide) rfl
          refine lv_istore (lv' := [(7, .int (-1)), (6, .int (nI k)), (2, .long (lN sm)), (4, .long (lN wt)), (0, .ref oT), (1, .ref h)]) hx hb dLe_readNumber_28 hl (by decide) rfl (fun ls hl => ?_)
          refine lv_iload hx hb dLe_readNumber_30 (lv_at hl 0 rfl) ?_
          refine lv_iconst (v := (-1)) hx hb dLe_readNumber_32 (by decide) ?_
          refine lv_icmp_ne (tgt := 38) hx hb dLe_readNumber_33 (by decide) (fun h33 => ?_) (fun h33 => ?_)
          · skip
            exact absurd h33 (by decide)
          · skip
            refine lv_iconst (v := (-1)) hx hb dLe_readNumber_36 (by decide) ?_
            exact ret (ax, sm) dLe_readNumber_37 rfl (Or.inr (Or.inl ⟨by rw [← hF]; exact rn_no hdg, rfl⟩)) hP hD hS
  exact loop1 _ 1 la 0 1 I.length _ _ _ (Nat.lt_succ_self _) (by omega) (Nat.le_refl _) hla (by omega) (by omega) rfl (lv_sub hl [0, 2, 1, 3, 4] rfl) hP hD hS
theorem lN_ne0 {n : Nat} (h0 : 0 < n) (h : n < 2 ^ 31) : ¬ lN n = 0 := by
  intro q
  have a := lN_toInt h
  rw [q] at a
  have e : (0 : Int64).toInt = 0 := by decide
  rw [e] at a
  omega
set_option maxHeartbeats 4000000 in
set_option maxRecDepth 100000 in
theorem k_Le_putIn (l : Launch) (D : va_G) (cA : ClassId) (sz : Nat) (oT : Nat) (lat : Int32) (va pl bi : Nat) (fb : Bool) (h a N : Nat) (acc : List Nat) (f : Nat → Int32) (d : Nat) (hf : Hd f (acc.map nI)) (hc : (acc.map nI).length ≤ N) (hN : N < 2 ^ 20) (hacc : acc.length < N) (hva : va < 2 ^ 31) (hpl : pl < 2 ^ 31) (hd : d < 2 ^ 31) : KI l D cA y_Le_putIn c_Le_putIn 9 .int 2 48 [.ref oT, .int (nI d), .ref h] sz [(oT, .inr (3, [.int lat, .int (nI va), .int (nI pl), .int (nI bi), .int (bI fb)])), (h, .inr (0, [.ref a, .int (nI ((acc.map nI).length))])), (a, .inl (cA, N, .inl f))] (S := List Nat × (Nat → Int32) × Nat × Nat × Nat × Bool) (fun r u => match u with | (acc2, f2, va2, pl2, bi2, fb2) => ((2147483647 < pl + d ∨ 2147483647 < va + (pl + d) / (acc.length + 1)) ∧ r = -2 ∧ acc2 = acc ∧ va2 = va ∧ pl2 = pl ∧ bi2 = bi ∧ fb2 = fb ∧ Hd f2 (acc2.map nI)) ∨ (¬ (2147483647 < pl + d ∨ 2147483647 < va + (pl + d) / (acc.length + 1)) ∧ ¬ sca (va + (pl + d) / (acc.length + 1)) ∧ r = -4 ∧ acc2 = acc ∧ va2 = va ∧ pl2 = pl ∧ bi2 = bi ∧ fb2 = fb ∧ Hd f2 (acc2.map nI)) ∨ (¬ (2147483647 < pl + d ∨ 2147483647 < va + (pl + d) / (acc.length + 1)) ∧ sca (va + (pl + d) / (acc.length + 1)) ∧ r = 0 ∧ acc2 = acc.insertIdx ((pl + d) % (acc.length + 1)) (va + (pl + d) / (acc.length + 1)) ∧ va2 = va + (pl + d) / (acc.length + 1) ∧ pl2 = (pl + d) % (acc.length + 1) + 1 ∧ bi2 = adN d (acc.length + 1) fb ∧ fb2 = false ∧ Hd f2 (acc2.map nI))) (fun u => match u with | (acc2, f2, va2, pl2, bi2, fb2) => [(oT, .inr (3, [.int lat, .int (nI va2), .int (nI pl2), .int (nI bi2), .int (bI fb2)])), (h, .inr (0, [.ref a, .int (nI ((acc2.map nI).length))])), (a, .inl (cA, N, .inl f2))]) := by
  refine KI.of (by decide) (Nat.le_of_ble_eq_true rfl) ?_
  intro p e s m args below meth c Q R A ls Xf hR hA hS hP hD hK hn hl ret
  have hx := Xf.1
  have hb := Xf.2.1
  have hown : s.vm.findClass "ScalarScribe$Letters" = some m.cls := Xf.2.2.2.1
  have hw := Xf.2.2.2.2
  have hl : lv_has ls 9 [(0, .ref oT), (1, .int (nI d)), (2, .ref h)] := hl
  refine lv_aload_n hx hb dLe_putIn_0 rfl (lv_at hl 2 rfl) ?_
  refine va_getN (D := D) (ci := 0) (v := .int (nI ((acc.map nI).length))) (C := R_Row) (T := T_Row) (N := 2) hx hb hw in_Row hown hK hP 1 rfl rfl 1 (by decide) (va_Nw.use rfl (hn _ w_27)) (fun _ h9 => h9) rfl dLe_putIn_1 ?_
  refine lv_iconst (v := nI 1) hx hb dLe_putIn_4 (by decide) ?_
  refine lv_iadd hx hb dLe_putIn_5 ?_
  refine lv_rei (y := nI (acc.length + 1)) (by rw [nI_add, List.length_map]) ?_
  refine lv_istore_n (lv' := [(3, .int (nI (acc.length + 1))), (0, .ref oT), (1, .int (nI d)), (2, .ref h)]) hx hb dLe_putIn_6 rfl hl (by decide) rfl (fun ls hl => ?_)
  refine lv_aload_n hx hb dLe_putIn_7 rfl (lv_at hl 1 rfl) ?_
  refine va_get (D := D) (ci := 3) (v := .int (nI pl)) (C := R_Le) (T := T_Le) (N := 5) hx hb hw in_Le hown hK hP 0 rfl rfl 2 (by decide) (hw _ w_75) (fun _ h9 => h9) rfl dLe_putIn_8 ?_
  refine lv_i2l (v := lN pl) hx hb dLe_putIn_11 (nI_l (by omega)) ?_
  refine lv_iload_n hx hb dLe_putIn_12 rfl (lv_at hl 2 rfl) ?_
  refine lv_i2l (v := lN d) hx hb dLe_putIn_13 (nI_l (by omega)) ?_
  refine lv_ladd hx hb dLe_putIn_14 ?_
  refine lv_rel (y := lN (pl + d)) (lN_add _ _) ?_
  have hdv := Nat.div_le_self (pl + d) (acc.length + 1)
  have hml : (pl + d) % (acc.length + 1) < acc.length + 1 := Nat.mod_lt _ (Nat.succ_pos _)
  have hlm : (acc.map nI).length = acc.length := List.length_map _
  refine lv_lstore (lv' := [(4, .long (lN (pl + d))), (3, .int (nI (acc.length + 1))), (0, .ref oT), (1, .int (nI d)), (2, .ref h)]) hx hb dLe_putIn_15 hl (by decide) rfl (fun ls hl => ?_)
  refine lv_aload_n hx hb dLe_putIn_17 rfl (lv_at hl 2 rfl) ?_
  refine va_get (D := D) (ci := 3) (v := .int (nI va)) (C := R_Le) (T := T_Le) (N := 5) hx hb hw in_Le hown hK hP 0 rfl rfl 1 (by decide) (hw _ w_74) (fun _ h9 => h9) rfl dLe_putIn_18 ?_
  refine lv_i2l (v := lN va) hx hb dLe_putIn_21 (nI_l (by omega)) ?_
  refine lv_lload hx hb dLe_putIn_22 (lv_at hl 0 rfl) ?_
  refine lv_iload_n hx hb dLe_putIn_24 rfl (lv_at hl 1 rfl) ?_
  refine lv_i2l (v := lN (acc.length + 1)) hx hb dLe_putIn_25 (nI_l (by omega)) ?_
  refine lv_ldiv hx hb dLe_putIn_26 (lN_ne0 (by omega) (by omega)) ?_
  refine lv_rel (y := lN ((pl + d) / (acc.length + 1))) (pk_lDiv (by omega) (by omega) (by omega)) ?_
  refine lv_ladd hx hb dLe_putIn_27 ?_
  refine lv_rel (y := lN (va + ((pl + d) / (acc.length + 1)))) (lN_add _ _) ?_
  refine lv_lstore (lv' := [(6, .long (lN (va + ((pl + d) / (acc.length + 1))))), (4, .long (lN (pl + d))), (3, .int (nI (acc.length + 1))), (0, .ref oT), (1, .int (nI d)), (2, .ref h)]) hx hb dLe_putIn_28 hl (by decide) rfl (fun ls hl => ?_)
  refine lv_lload hx hb dLe_putIn_30 (lv_at hl 1 rfl) ?_
  refine lv_ldc2 (v := lN 2147483647) hx hb hown (hw _ w_227) dLe_putIn_32 ?_
  refine W.lcmp hx hb dLe_putIn_35 ?_
  refine lv_if_gt (tgt := 48) hx hb dLe_putIn_36 (by decide) (fun h36 => ?_) (fun h36 => ?_)
  · skip
    replace h36 := lc_gt (a := pl + d) (b := 2147483647) (by omega) (by omega) h36
    refine lv_bipush (v := (-2)) hx hb dLe_putIn_48 (by decide) ?_
    exact ret (acc, f, va, pl, bi, fb) dLe_putIn_50 rfl (Or.inl ⟨Or.inl h36, rfl, rfl, rfl, rfl, rfl, rfl, hf⟩) hP hD hS
  · skip
    replace h36 := lc_ngt (a := pl + d) (b := 2147483647) (by omega) (by omega) h36
    refine lv_lload hx hb dLe_putIn_39 (lv_at hl 0 rfl) ?_
    refine lv_ldc2 (v := lN 2147483647) hx hb hown (hw _ w_227) dLe_putIn_41 ?_
    refine W.lcmp hx hb dLe_putIn_44 ?_
    refine lv_if_le (tgt := 51) hx hb dLe_putIn_45 (by decide) (fun h45 => ?_) (fun h45 => ?_)
    · skip
      replace h45 := lc_le (a := va + ((pl + d) / (acc.length + 1))) (b := 2147483647) (by omega) (by omega) h45
      refine lv_lload hx hb dLe_putIn_51 (lv_at hl 0 rfl) ?_
      refine lv_l2i (v := nI (va + ((pl + d) / (acc.length + 1)))) hx hb dLe_putIn_53 (lN_i _) ?_
      refine ca_i (wr := [(oT, .inr (3, [.int lat, .int (nI va), .int (nI pl), .int (nI bi), .int (bI fb)])), (h, .inr (0, [.ref a, .int (nI ((acc.map nI).length))])), (a, .inl (cA, N, .inl f))]) (va_runSN (As := [.int (nI (va + ((pl + d) / (acc.length + 1))))]) (rest := []) Xf (k_Sc_isScalar l D cA _ (nI (va + ((pl + d) / (acc.length + 1))))) ⟨cn_of 1 hw hn w_184 w_1 w_238 (by decide +kernel) (by rw [hR]; exact ⟨Nat.le_of_ble_eq_true rfl, Nat.le_of_ble_eq_true rfl⟩), hw _ w_183, trivial⟩ (pre_S hP hD hK hn [] rfl (by decide)) rfl rfl hl.1 rfl (lv_room (Nat.le_of_ble_eq_true rfl)) dLe_putIn_54 ⟨Nat.zero_le _, Nat.zero_le _⟩) hP hD hS hA [] [0, 1, 2] rfl rfl (by decide) (by decide) (fun r54 u_ H locs hq_ hP hD hS => ?_)
      rcases hq_ with ⟨hk54_1, rfl⟩ | ⟨hk54_1, rfl⟩
      · skip
        replace hP : va_P D vwCl [(oT, .inr (3, [.int lat, .int (nI va), .int (nI pl), .int (nI bi), .int (bI fb)])), (h, .inr (0, [.ref a, .int (nI ((acc.map nI).length))])), (a, .inl (cA, N, .inl f))] H := hP.sub [0, 1, 2] rfl
        replace hD : va_D A [(oT, .inr (3, [.int lat, .int (nI va), .int (nI pl), .int (nI bi), .int (bI fb)])), (h, .inr (0, [.ref a, .int (nI ((acc.map nI).length))])), (a, .inl (cA, N, .inl f))] := hD.sub [0, 1, 2] (by decide) rfl
        rw [scI_n (by omega)] at hk54_1
        refine lv_if_ne (tgt := 63) hx hb dLe_putIn_57 (by decide) (fun h57 => ?_) (fun h57 => ?_)
        · skip
          refine lv_lload hx hb dLe_putIn_63 (lv_at hl 1 rfl) ?_
          refine lv_iload_n hx hb dLe_putIn_65 rfl (lv_at hl 2 rfl) ?_
          refine lv_i2l (v := lN (acc.length + 1)) hx hb dLe_putIn_66 (nI_l (by omega)) ?_
          refine lv_lrem hx hb dLe_putIn_67 (lN_ne0 (by omega) (by omega)) ?_
          refine lv_rel (y := lN ((pl + d) % (acc.length + 1))) (pk_lRem (by omega) (by omega) (by omega)) ?_
          refine lv_l2i (v := nI ((pl + d) % (acc.length + 1))) hx hb dLe_putIn_68 (lN_i _) ?_
          refine lv_istore (lv' := [(8, .int (nI ((pl + d) % (acc.length + 1)))), (6, .long (lN (va + ((pl + d) / (acc.length + 1))))), (4, .long (lN (pl + d))), (3, .int (nI (acc.length + 1))), (0, .ref oT), (1, .int (nI d)), (2, .ref h)]) hx hb dLe_putIn_69 hl (by decide) rfl (fun ls hl => ?_)
          refine lv_aload_n hx hb dLe_putIn_71 rfl (lv_at hl 6 rfl) ?_
          refine lv_iload hx hb dLe_putIn_72 (lv_at hl 0 rfl) ?_
          refine lv_lload hx hb dLe_putIn_74 (lv_at hl 1 rfl) ?_
          refine lv_l2i (v := nI (va + ((pl + d) / (acc.length + 1)))) hx hb dLe_putIn_76 (lN_i _) ?_
          refine ca_i (wr := [(oT, .inr (3, [.int lat, .int (nI va), .int (nI pl), .int (nI bi), .int (bI fb)]))]) (va_runV (As := [.int (nI ((pl + d) % (acc.length + 1))), .int (nI (va + ((pl + d) / (acc.length + 1))))]) (rest := []) Xf (k_Row_insert l D cA _ h a N (acc.map nI) f ((pl + d) % (acc.length + 1)) (nI (va + ((pl + d) / (acc.length + 1)))) hf hc (by omega) (by omega)) ⟨cb_of 2 hw w_128 w_2 w_239 (by decide +kernel) (by rw [hR]; exact ⟨Nat.le_of_ble_eq_true rfl, Nat.le_of_ble_eq_true rfl⟩), hw _ w_126, hw _ w_127⟩ (pre_V (As := [.int (nI ((pl + d) % (acc.length + 1))), .int (nI (va + ((pl + d) / (acc.length + 1))))]) hP hD hK hn [1, 2] rfl (by decide) 1 0 rfl rfl) rfl rfl hl.1 rfl (lv_room (Nat.le_of_ble_eq_true rfl)) dLe_putIn_77 ⟨Nat.zero_le _, Nat.zero_le _⟩) hP hD hS hA [1, 2] [0] rfl rfl (by decide) (by decide) (fun r77 u_ H locs hq_ hP hD hS => ?_)
          obtain ⟨L2, f2⟩ := u_
          dsimp only at hq_ hP hD
          rcases hq_ with ⟨hlt_2, rfl, hL_, hf2⟩ | ⟨hlt_2, rfl, hL_, hf2⟩
          · skip
            subst L2
            try simp only [List.length_append, List.length_singleton, List.length_nil, List.length_map, List.length_cons] at hlt_2
            replace hP : va_P D vwCl [(oT, .inr (3, [.int lat, .int (nI va), .int (nI pl), .int (nI bi), .int (bI fb)])), (h, .inr (0, [.ref a, .int (nI (((acc.map nI).insertIdx ((pl + d) % (acc.length + 1)) (nI (va + ((pl + d) / (acc.length + 1))))).length))])), (a, .inl (cA, N, .inl f2))] H := hP.sub [0, 1, 2] rfl
            replace hD : va_D A [(oT, .inr (3, [.int lat, .int (nI va), .int (nI pl), .int (nI bi), .int (bI fb)])), (h, .inr (0, [.ref a, .int (nI (((acc.map nI).insertIdx ((pl + d) % (acc.length + 1)) (nI (va + ((pl + d) / (acc.length + 1))))).length))])), (a, .inl (cA, N, .inl f2))] := hD.sub [0, 1, 2] (by decide) rfl
            rw [map_ins] at hP hD hf2
            refine lv_pop hx hb dLe_putIn_80 rfl ?_
            refine lv_aload_n hx hb dLe_putIn_81 rfl (lv_at hl 4 rfl) ?_
            refine lv_lload hx hb dLe_putIn_82 (lv_at hl 1 rfl) ?_
            refine lv_l2i (v := nI (va + ((pl + d) / (acc.length + 1)))) hx hb dLe_putIn_84 (lN_i _) ?_
            refine lv_iload hx hb dLe_putIn_85 (lv_at hl 0 rfl) ?_
            refine lv_iload_n hx hb dLe_putIn_87 rfl (lv_at hl 5 rfl) ?_
            refine lv_iload_n hx hb dLe_putIn_88 rfl (lv_at hl 3 rfl) ?_
            refine ca_v (wr := [(h, .inr (0, [.ref a, .int (nI (((acc.insertIdx ((pl + d) % (acc.length + 1)) (va + (pl + d) / (acc.length + 1))).map nI).length))])), (a, .inl (cA, N, .inl f2))]) (va_runV (As := [.int (nI (va + ((pl + d) / (acc.length + 1)))), .int (nI ((pl + d) % (acc.length + 1))), .int (nI d), .int (nI (acc.length + 1))]) (rest := []) Xf (k_Le_goBehind l D cA _ oT lat (nI va) (nI pl) (nI bi) fb (va + ((pl + d) / (acc.length + 1))) ((pl + d) % (acc.length + 1)) d (acc.length + 1) (by omega) (by omega) (by omega)) ⟨cb_of 4 hw w_243 w_6 w_240 (by decide +kernel) (by rw [hR]; exact ⟨Nat.le_of_ble_eq_true rfl, Nat.le_of_ble_eq_true rfl⟩), hw _ w_242, hw _ ws_6⟩ (pre_V (As := [.int (nI (va + ((pl + d) / (acc.length + 1)))), .int (nI ((pl + d) % (acc.length + 1))), .int (nI d), .int (nI (acc.length + 1))]) hP hD hK hn [0] rfl (by decide) 0 3 rfl rfl) rfl rfl hl.1 rfl (lv_room (Nat.le_of_ble_eq_true rfl)) dLe_putIn_89 ⟨Nat.zero_le _, Nat.zero_le _⟩) hP hD hS hA [0] [1, 2] rfl rfl (by decide) (by decide) (fun u_ H locs hq_ hP hD hS => ?_)
            replace hP : va_P D vwCl [(oT, .inr (3, [.int lat, .int (nI (va + ((pl + d) / (acc.length + 1)))), .int (nI ((pl + d) % (acc.length + 1) + 1)), .int (nI (adN d (acc.length + 1) fb)), .int (bI false)])), (h, .inr (0, [.ref a, .int (nI (((acc.insertIdx ((pl + d) % (acc.length + 1)) (va + (pl + d) / (acc.length + 1))).map nI).length))])), (a, .inl (cA, N, .inl f2))] H := hP.sub [2, 0, 1] rfl
            replace hD : va_D A [(oT, .inr (3, [.int lat, .int (nI (va + ((pl + d) / (acc.length + 1)))), .int (nI ((pl + d) % (acc.length + 1) + 1)), .int (nI (adN d (acc.length + 1) fb)), .int (bI false)])), (h, .inr (0, [.ref a, .int (nI (((acc.insertIdx ((pl + d) % (acc.length + 1)) (va + (pl + d) / (acc.length + 1))).map nI).length))])), (a, .inl (cA, N, .inl f2))] := hD.sub [2, 0, 1] (by decide) rfl
            refine lv_iconst (v := nI 0) hx hb dLe_putIn_92 (by decide) ?_
            exact ret (acc.insertIdx ((pl + d) % (acc.length + 1)) (va + (pl + d) / (acc.length + 1)), f2, va + (pl + d) / (acc.length + 1), (pl + d) % (acc.length + 1) + 1, adN d (acc.length + 1) fb, false) dLe_putIn_93 rfl (Or.inr (Or.inr ⟨fun q => q.elim (fun q => by omega) (fun q => by omega), hk54_1, rfl, rfl, rfl, rfl, rfl, rfl, hf2⟩)) hP hD hS
          · skip
            subst L2
            try simp only [List.length_append, List.length_singleton, List.length_nil, List.length_map, List.length_cons] at hlt_2
            replace hP : va_P D vwCl [(oT, .inr (3, [.int lat, .int (nI va), .int (nI pl), .int (nI bi), .int (bI fb)])), (h, .inr (0, [.ref a, .int (nI ((acc.map nI).length))])), (a, .inl (cA, N, .inl f2))] H := hP.sub [0, 1, 2] rfl
            replace hD : va_D A [(oT, .inr (3, [.int lat, .int (nI va), .int (nI pl), .int (nI bi), .int (bI fb)])), (h, .inr (0, [.ref a, .int (nI ((acc.map nI).length))])), (a, .inl (cA, N, .inl f2))] := hD.sub [0, 1, 2] (by decide) rfl
            exact absurd hlt_2 (by omega)
        · skip
          exact absurd h57 (by decide)
      · skip
        replace hP : va_P D vwCl [(oT, .inr (3, [.int lat, .int (nI va), .int (nI pl), .int (nI bi), .int (bI fb)])), (h, .inr (0, [.ref a, .int (nI ((acc.map nI).length))])), (a, .inl (cA, N, .inl f))] H := hP.sub [0, 1, 2] rfl
        replace hD : va_D A [(oT, .inr (3, [.int lat, .int (nI va), .int (nI pl), .int (nI bi), .int (bI fb)])), (h, .inr (0, [.ref a, .int (nI ((acc.map nI).length))])), (a, .inl (cA, N, .inl f))] := hD.sub [0, 1, 2] (by decide) rfl
        rw [scI_n (by omega)] at hk54_1
        refine lv_if_ne (tgt := 63) hx hb dLe_putIn_57 (by decide) (fun h57 => ?_) (fun h57 => ?_)
        · skip
          exact absurd h57 (by decide)
        · skip
          refine lv_bipush (v := (-4)) hx hb dLe_putIn_60 (by decide) ?_
          exact ret (acc, f, va, pl, bi, fb) dLe_putIn_62 rfl (Or.inr (Or.inl ⟨fun q => q.elim (fun q => by omega) (fun q => by omega), hk54_1, rfl, rfl, rfl, rfl, rfl, rfl, hf⟩)) hP hD hS
    · skip
      replace h45 := lc_nle (a := va + ((pl + d) / (acc.length + 1))) (b := 2147483647) (by omega) (by omega) h45
      refine lv_bipush (v := (-2)) hx hb dLe_putIn_48 (by decide) ?_
      exact ret (acc, f, va, pl, bi, fb) dLe_putIn_50 rfl (Or.inl ⟨Or.inr h45, rfl, rfl, rfl, rfl, rfl, rfl, hf⟩) hP hD hS
