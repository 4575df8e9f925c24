set_option maxHeartbeats 4000000 in
set_option maxRecDepth 100000 in
theorem k_Le_tell (l : Launch) (D : va_G) (cA : ClassId) (sz : Nat) (oT : Nat) (lat : Int32) (va pl bi : Nat) (fb : Bool) (h a : Nat) (M : List Nat) (f : Nat → Int32) (g b : Nat) (w : List Nat) (fg : Nat → Int32) (ix n : Nat) (hf : Hd f (M.map nI)) (hc : (M.map nI).length ≤ 120) (hg : Hd fg (w.map nI)) (hcg : (w.map nI).length ≤ 400) (hMb : ∀ x ∈ M, x ≤ 1114111) (hix : ix < M.length) (hva : va ≤ M.getD ix 0) (hpl : pl ≤ (M.getD ix 0 - va) * n + leC M (M.getD ix 0) ix) (hn1 : 1 ≤ n) (hn2 : n ≤ 121) (hbi : bi < 2 ^ 20) : KI l D cA y_Le_tell c_Le_tell 9 .boolean 3 70 [.ref oT, .ref h, .int (nI ix), .int (nI n), .ref g] sz [(oT, .inr (3, [.int lat, .int (nI va), .int (nI pl), .int (nI bi), .int (bI fb)])), (h, .inr (0, [.ref a, .int (nI ((M.map nI).length))])), (a, .inl (cA, 120, .inl f)), (g, .inr (0, [.ref b, .int (nI ((w.map nI).length))])), (b, .inl (cA, 400, .inl fg))] (S := List Int32 × (Nat → Int32)) (fun r u => ((w ++ wnum bi ((M.getD ix 0 - va) * n + leC M (M.getD ix 0) ix - pl)).length ≤ 400 ∧ r = 1 ∧ u.1 = (w ++ wnum bi ((M.getD ix 0 - va) * n + leC M (M.getD ix 0) ix - pl)).map nI ∧ Hd u.2 u.1) ∨ (400 < (w ++ wnum bi ((M.getD ix 0 - va) * n + leC M (M.getD ix 0) ix - pl)).length ∧ r = 0 ∧ u.1.length ≤ 400 ∧ Hd u.2 u.1)) (fun u => [(oT, .inr (3, [.int lat, .int (nI (M.getD ix 0)), .int (nI (leC M (M.getD ix 0) ix + 1)), .int (nI (adN ((M.getD ix 0 - va) * n + leC M (M.getD ix 0) ix - pl) n fb)), .int (bI false)])), (h, .inr (0, [.ref a, .int (nI ((M.map nI).length))])), (a, .inl (cA, 120, .inl f)), (g, .inr (0, [.ref b, .int (nI u.1.length)])), (b, .inl (cA, 400, .inl u.2))]) := by
  refine KI.of (by decide) (Nat.le_of_ble_eq_true rfl) ?_
  intro p e s m args below meth c Q R A ls Xf hR hA hS hP hD hK hn hl ret
  have hx := Xf.1
  have hb := Xf.2.1
  have hown : s.vm.findClass "ScalarScribe$Letters" = some m.cls := Xf.2.2.2.1
  have hw := Xf.2.2.2.2
  have hl : lv_has ls 9 [(0, .ref oT), (1, .ref h), (2, .int (nI ix)), (3, .int (nI n)), (4, .ref g)] := hl
  have hcM : M.length ≤ 120 := by rw [List.length_map] at hc; exact hc
  refine lv_aload_n hx hb dLe_tell_0 rfl (lv_at hl 1 rfl) ?_
  refine lv_iload_n hx hb dLe_tell_1 rfl (lv_at hl 2 rfl) ?_
  refine ca_i (wr := [(oT, .inr (3, [.int lat, .int (nI va), .int (nI pl), .int (nI bi), .int (bI fb)])), (g, .inr (0, [.ref b, .int (nI ((w.map nI).length))])), (b, .inl (cA, 400, .inl fg))]) (va_runV (As := [.int (nI ix)]) (rest := []) Xf (k_Row_unitAt l D cA _ h a 120 (M.map nI) f (nI ix) hf hc (by omega)) ⟨cb_of 1 hw w_154 w_2 w_218 (by decide +kernel) (by rw [hR]; exact ⟨Nat.le_of_ble_eq_true rfl, Nat.le_of_ble_eq_true rfl⟩), hw _ w_152, hw _ w_153⟩ (pre_V (As := [.int (nI ix)]) hP hD hK hn [1, 2] rfl (by decide) 1 0 rfl rfl) rfl rfl hl.1 rfl (lv_room (Nat.le_of_ble_eq_true rfl)) dLe_tell_2 ⟨Nat.zero_le _, Nat.zero_le _⟩) hP hD hS hA [1, 2] [0, 3, 4] rfl rfl (by decide) (by decide) (fun r2 u_ H locs hq_ hP hD hS => ?_)
  obtain rfl : r2 = un (M.map nI) ix := hq_.trans (gt_n (by omega) (by omega))
  replace hP : va_P D vwCl [(oT, .inr (3, [.int lat, .int (nI va), .int (nI pl), .int (nI bi), .int (bI fb)])), (h, .inr (0, [.ref a, .int (nI ((M.map nI).length))])), (a, .inl (cA, 120, .inl f)), (g, .inr (0, [.ref b, .int (nI ((w.map nI).length))])), (b, .inl (cA, 400, .inl fg))] H := hP.sub [0, 3, 4, 1, 2] rfl
  replace hD : va_D A [(oT, .inr (3, [.int lat, .int (nI va), .int (nI pl), .int (nI bi), .int (bI fb)])), (h, .inr (0, [.ref a, .int (nI ((M.map nI).length))])), (a, .inl (cA, 120, .inl f)), (g, .inr (0, [.ref b, .int (nI ((w.map nI).length))])), (b, .inl (cA, 400, .inl fg))] := hD.sub [0, 3, 4, 1, 2] (by decide) rfl
  refine lv_rei (y := nI (M.getD ix 0)) (un_map (by omega)) ?_
  have hvb : M.getD ix 0 ≤ 1114111 := getD_b hMb (by omega)
  have hpr : (M.getD ix 0 - va) * n ≤ 1114111 * 121 := Nat.mul_le_mul (by omega) (by omega)
  have hll := leC_le (M := M) (v := M.getD ix 0) ix
  refine lv_istore (lv' := [(5, .int (nI (M.getD ix 0))), (0, .ref oT), (1, .ref h), (2, .int (nI ix)), (3, .int (nI n)), (4, .ref g)]) hx hb dLe_tell_5 hl (by decide) rfl (fun ls hl => ?_)
  refine lv_aload_n hx hb dLe_tell_7 rfl (lv_at hl 2 rfl) ?_
  refine lv_iload_n hx hb dLe_tell_8 rfl (lv_at hl 3 rfl) ?_
  refine ca_i (wr := [(oT, .inr (3, [.int lat, .int (nI va), .int (nI pl), .int (nI bi), .int (bI fb)])), (g, .inr (0, [.ref b, .int (nI ((w.map nI).length))])), (b, .inl (cA, 400, .inl fg))]) (va_runS (As := [.ref h, .int (nI ix)]) (rest := []) Xf (k_Le_toldBefore l D cA _ h a M f ix hf hc hMb (by omega)) ⟨cb_of 2 hw w_314 w_6 w_312 (by decide +kernel) (by rw [hR]; exact ⟨Nat.le_of_ble_eq_true rfl, Nat.le_of_ble_eq_true rfl⟩), hw _ w_313⟩ (pre_S hP hD hK hn [1, 2] rfl (by decide)) rfl rfl hl.1 rfl (lv_room (Nat.le_of_ble_eq_true rfl)) dLe_tell_9 ⟨Nat.zero_le _, Nat.zero_le _⟩) hP hD hS hA [1, 2] [0, 3, 4] rfl rfl (by decide) (by decide) (fun r9 u_ H locs hq_ hP hD hS => ?_)
  obtain rfl : r9 = nI (leC M (M.getD ix 0) ix) := hq_
  replace hP : va_P D vwCl [(oT, .inr (3, [.int lat, .int (nI va), .int (nI pl), .int (nI bi), .int (bI fb)])), (h, .inr (0, [.ref a, .int (nI ((M.map nI).length))])), (a, .inl (cA, 120, .inl f)), (g, .inr (0, [.ref b, .int (nI ((w.map nI).length))])), (b, .inl (cA, 400, .inl fg))] H := hP.sub [0, 3, 4, 1, 2] rfl
  replace hD : va_D A [(oT, .inr (3, [.int lat, .int (nI va), .int (nI pl), .int (nI bi), .int (bI fb)])), (h, .inr (0, [.ref a, .int (nI ((M.map nI).length))])), (a, .inl (cA, 120, .inl f)), (g, .inr (0, [.ref b, .int (nI ((w.map nI).length))])), (b, .inl (cA, 400, .inl fg))] := hD.sub [0, 3, 4, 1, 2] (by decide) rfl
  refine lv_istore (lv' := [(6, .int (nI (leC M (M.getD ix 0) ix))), (5, .int (nI (M.getD ix 0))), (0, .ref oT), (1, .ref h), (2, .int (nI ix)), (3, .int (nI n)), (4, .ref g)]) hx hb dLe_tell_12 hl (by decide) rfl (fun ls hl => ?_)
  refine lv_iload hx hb dLe_tell_14 (lv_at hl 1 rfl) ?_
  refine lv_aload_n hx hb dLe_tell_16 rfl (lv_at hl 2 rfl) ?_
  refine va_get (D := D) (ci := 3) (v := .int (nI va)) (C := R_Le) (T := T_Le) (N := 5) hx hb hw in_Le hown hK hP 0 rfl rfl 1 (by decide) (hw _ w_74) (fun _ h9 => h9) rfl dLe_tell_17 ?_
  refine lv_isub hx hb dLe_tell_20 ?_
  refine lv_rei (y := nI (M.getD ix 0 - va)) (pk_sub (by omega)) ?_
  refine lv_iload_n hx hb dLe_tell_21 rfl (lv_at hl 5 rfl) ?_
  refine lv_imul hx hb dLe_tell_22 ?_
  refine lv_rei (y := nI ((M.getD ix 0 - va) * n)) (pk_mul _ _) ?_
  refine lv_iload hx hb dLe_tell_23 (lv_at hl 0 rfl) ?_
  refine lv_iadd hx hb dLe_tell_25 ?_
  refine lv_rei (y := nI ((M.getD ix 0 - va) * n + (leC M (M.getD ix 0) ix))) (nI_add _ _) ?_
  refine lv_aload_n hx hb dLe_tell_26 rfl (lv_at hl 2 rfl) ?_
  refine va_get (D := D) (ci := 3) (v := .int (nI pl)) (C := R_Le) (T := T_Le) (N := 5) hx hb hw in_Le hown hK hP 0 rfl rfl 2 (by decide) (hw _ w_75) (fun _ h9 => h9) rfl dLe_tell_27 ?_
  refine lv_isub hx hb dLe_tell_30 ?_
  refine lv_rei (y := nI ((M.getD ix 0 - va) * n + (leC M (M.getD ix 0) ix) - pl)) (pk_sub (by omega)) ?_
  refine lv_istore (lv' := [(7, .int (nI ((M.getD ix 0 - va) * n + (leC M (M.getD ix 0) ix) - pl))), (6, .int (nI (leC M (M.getD ix 0) ix))), (5, .int (nI (M.getD ix 0))), (0, .ref oT), (1, .ref h), (2, .int (nI ix)), (3, .int (nI n)), (4, .ref g)]) hx hb dLe_tell_31 hl (by decide) rfl (fun ls hl => ?_)
  refine lv_aload_n hx hb dLe_tell_33 rfl (lv_at hl 3 rfl) ?_
  refine lv_iload hx hb dLe_tell_34 (lv_at hl 0 rfl) ?_
  refine lv_aload hx hb dLe_tell_36 (lv_at hl 7 rfl) ?_
  refine ca_i (wr := [(h, .inr (0, [.ref a, .int (nI ((M.map nI).length))])), (a, .inl (cA, 120, .inl f))]) (va_runV (As := [.int (nI ((M.getD ix 0 - va) * n + (leC M (M.getD ix 0) ix) - pl)), .ref g]) (rest := []) Xf (k_Le_writeNumber l D cA _ oT lat (nI va) (nI pl) bi (bI fb) g b w fg ((M.getD ix 0 - va) * n + (leC M (M.getD ix 0) ix) - pl) hg hcg (by omega) (by omega)) ⟨cb_of 2 hw w_318 w_6 w_315 (by decide +kernel) (by rw [hR]; exact ⟨Nat.le_of_ble_eq_true rfl, Nat.le_of_ble_eq_true rfl⟩), hw _ w_317, hw _ ws_13⟩ (pre_V (As := [.int (nI ((M.getD ix 0 - va) * n + (leC M (M.getD ix 0) ix) - pl)), .ref g]) hP hD hK hn [0, 3, 4] rfl (by decide) 0 3 rfl rfl) rfl rfl hl.1 rfl (lv_room (Nat.le_of_ble_eq_true rfl)) dLe_tell_38 ⟨Nat.zero_le _, Nat.zero_le _⟩) hP hD hS hA [0, 3, 4] [1, 2] rfl rfl (by decide) (by decide) (fun r38 u_ H locs hq_ hP hD hS => ?_)
  obtain ⟨L1, f1⟩ := u_
  dsimp only at hq_ hP hD
  rcases hq_ with ⟨hlt_1, rfl, hL_, hf1⟩ | ⟨hlt_1, rfl, hL_, hf1⟩
  · skip
    subst L1
    replace hP : va_P D vwCl [(oT, .inr (3, [.int lat, .int (nI va), .int (nI pl), .int (nI bi), .int (bI fb)])), (h, .inr (0, [.ref a, .int (nI ((M.map nI).length))])), (a, .inl (cA, 120, .inl f)), (g, .inr (0, [.ref b, .int (nI (((w ++ wnum bi ((M.getD ix 0 - va) * n + (leC M (M.getD ix 0) ix) - pl)).map nI).length))])), (b, .inl (cA, 400, .inl f1))] H := hP.sub [2, 0, 1, 3, 4] rfl
    replace hD : va_D A [(oT, .inr (3, [.int lat, .int (nI va), .int (nI pl), .int (nI bi), .int (bI fb)])), (h, .inr (0, [.ref a, .int (nI ((M.map nI).length))])), (a, .inl (cA, 120, .inl f)), (g, .inr (0, [.ref b, .int (nI (((w ++ wnum bi ((M.getD ix 0 - va) * n + (leC M (M.getD ix 0) ix) - pl)).map nI).length))])), (b, .inl (cA, 400, .inl f1))] := hD.sub [2, 0, 1, 3, 4] (by decide) rfl
    refine lv_istore (lv' := [(8, .int (nI 1)), (7, .int (nI ((M.getD ix 0 - va) * n + (leC M (M.getD ix 0) ix) - pl))), (6, .int (nI (leC M (M.getD ix 0) ix))), (5, .int (nI (M.getD ix 0))), (0, .ref oT), (1, .ref h), (2, .int (nI ix)), (3, .int (nI n)), (4, .ref g)]) hx hb dLe_tell_41 hl (by decide) rfl (fun ls hl => ?_)
    refine lv_aload_n hx hb dLe_tell_43 rfl (lv_at hl 4 rfl) ?_
    refine lv_iload hx hb dLe_tell_44 (lv_at hl 3 rfl) ?_
    refine lv_iload hx hb dLe_tell_46 (lv_at hl 2 rfl) ?_
    refine lv_iload hx hb dLe_tell_48 (lv_at hl 1 rfl) ?_
    refine lv_iload_n hx hb dLe_tell_50 rfl (lv_at hl 7 rfl) ?_
    refine ca_v (wr := [(h, .inr (0, [.ref a, .int (nI ((M.map nI).length))])), (a, .inl (cA, 120, .inl f)), (g, .inr (0, [.ref b, .int (nI (((w ++ wnum bi ((M.getD ix 0 - va) * n + (leC M (M.getD ix 0) ix) - pl)).map nI).length))])), (b, .inl (cA, 400, .inl f1))]) (va_runV (As := [.int (nI (M.getD ix 0)), .int (nI (leC M (M.getD ix 0) ix)), .int (nI ((M.getD ix 0 - va) * n + (leC M (M.getD ix 0) ix) - pl)), .int (nI n)]) (rest := []) Xf (k_Le_goBehind l D cA _ oT lat (nI va) (nI pl) (nI bi) fb (M.getD ix 0) (leC M (M.getD ix 0) ix) ((M.getD ix 0 - va) * n + (leC M (M.getD ix 0) ix) - pl) n (by omega) (by omega) (by omega)) ⟨cb_of 4 hw w_243 w_6 w_240 (by decide +kernel) (by rw [hR]; exact ⟨Nat.le_of_ble_eq_true rfl, Nat.le_of_ble_eq_true rfl⟩), hw _ w_242, hw _ ws_6⟩ (pre_V (As := [.int (nI (M.getD ix 0)), .int (nI (leC M (M.getD ix 0) ix)), .int (nI ((M.getD ix 0 - va) * n + (leC M (M.getD ix 0) ix) - pl)), .int (nI n)]) hP hD hK hn [0] rfl (by decide) 0 3 rfl rfl) rfl rfl hl.1 rfl (lv_room (Nat.le_of_ble_eq_true rfl)) dLe_tell_51 ⟨Nat.zero_le _, Nat.zero_le _⟩) hP hD hS hA [0] [1, 2, 3, 4] rfl rfl (by decide) (by decide) (fun u_ H locs hq_ hP hD hS => ?_)
    replace hP : va_P D vwCl [(oT, .inr (3, [.int lat, .int (nI (M.getD ix 0)), .int (nI (leC M (M.getD ix 0) ix + 1)), .int (nI (adN ((M.getD ix 0 - va) * n + (leC M (M.getD ix 0) ix) - pl) n fb)), .int (bI false)])), (h, .inr (0, [.ref a, .int (nI ((M.map nI).length))])), (a, .inl (cA, 120, .inl f)), (g, .inr (0, [.ref b, .int (nI (((w ++ wnum bi ((M.getD ix 0 - va) * n + (leC M (M.getD ix 0) ix) - pl)).map nI).length))])), (b, .inl (cA, 400, .inl f1))] H := hP.sub [4, 0, 1, 2, 3] rfl
    replace hD : va_D A [(oT, .inr (3, [.int lat, .int (nI (M.getD ix 0)), .int (nI (leC M (M.getD ix 0) ix + 1)), .int (nI (adN ((M.getD ix 0 - va) * n + (leC M (M.getD ix 0) ix) - pl) n fb)), .int (bI false)])), (h, .inr (0, [.ref a, .int (nI ((M.map nI).length))])), (a, .inl (cA, 120, .inl f)), (g, .inr (0, [.ref b, .int (nI (((w ++ wnum bi ((M.getD ix 0 - va) * n + (leC M (M.getD ix 0) ix) - pl)).map nI).length))])), (b, .inl (cA, 400, .inl f1))] := hD.sub [4, 0, 1, 2, 3] (by decide) rfl
    refine lv_iload hx hb dLe_tell_54 (lv_at hl 0 rfl) ?_
    exact ret (((w ++ wnum bi ((M.getD ix 0 - va) * n + (leC M (M.getD ix 0) ix) - pl)).map nI), f1) dLe_tell_56 rfl (Or.inl ⟨hlt_1, rfl, rfl, hf1⟩) hP hD hS
  · skip
    replace hP : va_P D vwCl [(oT, .inr (3, [.int lat, .int (nI va), .int (nI pl), .int (nI bi), .int (bI fb)])), (h, .inr (0, [.ref a, .int (nI ((M.map nI).length))])), (a, .inl (cA, 120, .inl f)), (g, .inr (0, [.ref b, .int (nI L1.length)])), (b, .inl (cA, 400, .inl f1))] H := hP.sub [2, 0, 1, 3, 4] rfl
    replace hD : va_D A [(oT, .inr (3, [.int lat, .int (nI va), .int (nI pl), .int (nI bi), .int (bI fb)])), (h, .inr (0, [.ref a, .int (nI ((M.map nI).length))])), (a, .inl (cA, 120, .inl f)), (g, .inr (0, [.ref b, .int (nI L1.length)])), (b, .inl (cA, 400, .inl f1))] := hD.sub [2, 0, 1, 3, 4] (by decide) rfl
    refine lv_istore (lv' := [(8, .int (nI 0)), (7, .int (nI ((M.getD ix 0 - va) * n + (leC M (M.getD ix 0) ix) - pl))), (6, .int (nI (leC M (M.getD ix 0) ix))), (5, .int (nI (M.getD ix 0))), (0, .ref oT), (1, .ref h), (2, .int (nI ix)), (3, .int (nI n)), (4, .ref g)]) hx hb dLe_tell_41 hl (by decide) rfl (fun ls hl => ?_)
    refine lv_aload_n hx hb dLe_tell_43 rfl (lv_at hl 4 rfl) ?_
    refine lv_iload hx hb dLe_tell_44 (lv_at hl 3 rfl) ?_
    refine lv_iload hx hb dLe_tell_46 (lv_at hl 2 rfl) ?_
    refine lv_iload hx hb dLe_tell_48 (lv_at hl 1 rfl) ?_
    refine lv_iload_n hx hb dLe_tell_50 rfl (lv_at hl 7 rfl) ?_
    refine ca_v (wr := [(h, .inr (0, [.ref a, .int (nI ((M.map nI).length))])), (a, .inl (cA, 120, .inl f)), (g, .inr (0, [.ref b, .int (nI L1.length)])), (b, .inl (cA, 400, .inl f1))]) (va_runV (As := [.int (nI (M.getD ix 0)), .int (nI (leC M (M.getD ix 0) ix)), .int (nI ((M.getD ix 0 - va) * n + (leC M (M.getD ix 0) ix) - pl)), .int (nI n)]) (rest := []) Xf (k_Le_goBehind l D cA _ oT lat (nI va) (nI pl) (nI bi) fb (M.getD ix 0) (leC M (M.getD ix 0) ix) ((M.getD ix 0 - va) * n + (leC M (M.getD ix 0) ix) - pl) n (by omega) (by omega) (by omega)) ⟨cb_of 4 hw w_243 w_6 w_240 (by decide +kernel) (by rw [hR]; exact ⟨Nat.le_of_ble_eq_true rfl, Nat.le_of_ble_eq_true rfl⟩), hw _ w_242, hw _ ws_6⟩ (pre_V (As := [.int (nI (M.getD ix 0)), .int (nI (leC M (M.getD ix 0) ix)), .int (nI ((M.getD ix 0 - va) * n + (leC M (M.getD ix 0) ix) - pl)), .int (nI n)]) hP hD hK hn [0] rfl (by decide) 0 3 rfl rfl) rfl rfl hl.1 rfl (lv_room (Nat.le_of_ble_eq_true rfl)) dLe_tell_51 ⟨Nat.zero_le _, Nat.zero_le _⟩) hP hD hS hA [0] [1, 2, 3, 4] rfl rfl (by decide) (by decide) (fun u_ H locs hq_ hP hD hS => ?_)
    replace hP : va_P D vwCl [(oT, .inr (3, [.int lat, .int (nI (M.getD ix 0)), .int (nI (leC M (M.getD ix 0) ix + 1)), .int (nI (adN ((M.getD ix 0 - va) * n + (leC M (M.getD ix 0) ix) - pl) n fb)), .int (bI false)])), (h, .inr (0, [.ref a, .int (nI ((M.map nI).length))])), (a, .inl (cA, 120, .inl f)), (g, .inr (0, [.ref b, .int (nI L1.length)])), (b, .inl (cA, 400, .inl f1))] H := hP.sub [4, 0, 1, 2, 3] rfl
    replace hD : va_D A [(oT, .inr (3, [.int lat, .int (nI (M.getD ix 0)), .int (nI (leC M (M.getD ix 0) ix + 1)), .int (nI (adN ((M.getD ix 0 - va) * n + (leC M (M.getD ix 0) ix) - pl) n fb)), .int (bI false)])), (h, .inr (0, [.ref a, .int (nI ((M.map nI).length))])), (a, .inl (cA, 120, .inl f)), (g, .inr (0, [.ref b, .int (nI L1.length)])), (b, .inl (cA, 400, .inl f1))] := hD.sub [4, 0, 1, 2, 3] (by decide) rfl
    refine lv_iload hx hb dLe_tell_54 (lv_at hl 0 rfl) ?_
    exact ret (L1, f1) dLe_tell_56 rfl (Or.inr ⟨hlt_1, rfl, hL_, hf1⟩) hP hD hS
set_option maxHeartbeats 4000000 in
set_option maxRecDepth 100000 in
theorem k_Le_writePlain (l : Launch) (D : va_G) (cA : ClassId) (sz : Nat) (h a : Nat) (M : List Nat) (f : Nat → Int32) (g b : Nat) (fg : Nat → Int32) (hf : Hd f (M.map nI)) (hc : (M.map nI).length ≤ 120) (hMb : ∀ x ∈ M, x ≤ 1114111) : KI l D cA y_Le_writePlain c_Le_writePlain 5 .int 2 44 [.ref h, .ref g] sz [(h, .inr (0, [.ref a, .int (nI ((M.map nI).length))])), (a, .inl (cA, 120, .inl f)), (g, .inr (0, [.ref b, .int (nI (([] : List Int32).length))])), (b, .inl (cA, 400, .inl fg))] (S := (Nat → Int32)) (fun r u => r = nI (pln M).length ∧ Hd u ((if (pln M).length = 0 then pln M else pln M ++ [45]).map nI) ∧ (if (pln M).length = 0 then pln M else pln M ++ [45]).length ≤ 400) (fun u => [(h, .inr (0, [.ref a, .int (nI ((M.map nI).length))])), (a, .inl (cA, 120, .inl f)), (g, .inr (0, [.ref b, .int (nI (((if (pln M).length = 0 then pln M else pln M ++ [45]).map nI).length))])), (b, .inl (cA, 400, .inl u))]) := by
  refine KI.of (by decide) (Nat.le_of_ble_eq_true rfl) ?_
  intro p e s m args below meth c Q R A ls Xf hR hA hS hP hD hK hn hl ret
  have hx := Xf.1
  have hb := Xf.2.1
  have hown : s.vm.findClass "ScalarScribe$Letters" = some m.cls := Xf.2.2.2.1
  have hw := Xf.2.2.2.2
  have hl : lv_has ls 5 [(0, .ref h), (1, .ref g)] := hl
  have hcM : M.length ≤ 120 := by rw [List.length_map] at hc; exact hc
  refine lv_iconst (v := nI 0) hx hb dLe_writePlain_0 (by decide) ?_
  refine lv_istore_n (lv' := [(2, .int (nI 0)), (0, .ref h), (1, .ref g)]) hx hb dLe_writePlain_1 rfl hl (by decide) rfl (fun ls hl => ?_)
  refine lv_iconst (v := nI 0) hx hb dLe_writePlain_2 (by decide) ?_
  refine lv_istore_n (lv' := [(3, .int (nI 0)), (2, .int (nI 0)), (0, .ref h), (1, .ref g)]) hx hb dLe_writePlain_3 rfl hl (by decide) rfl (fun ls hl => ?_)
  have loop1 : ∀ (n_ : Nat) (i : Nat) (gY : Nat → Int32) (ls : Array Slot) (H : Heap) (locs : List Loc), M.length - i < n_ → Hd gY ((pln (M.take i)).map nI) → i ≤ M.length → lv_has ls 5 [(3, .int (nI i)), (2, .int (nI ((pln (M.take i)).length))), (0, .ref h), (1, .ref g)] → va_P D vwCl [(h, .inr (0, [.ref a, .int (nI ((M.map nI).length))])), (a, .inl (cA, 120, .inl f)), (g, .inr (0, [.ref b, .int (nI (((pln (M.take i)).map nI).length))])), (b, .inl (cA, 400, .inl gY))] H → va_D A [(h, .inr (0, [.ref a, .int (nI ((M.map nI).length))])), (a, .inl (cA, 120, .inl f)), (g, .inr (0, [.ref b, .int (nI (((pln (M.take i)).map nI).length))])), (b, .inl (cA, 400, .inl gY))] → va_S A s.heap H locs → W p l e R s m args below meth c H locs 0 0 Q (F0 m 4 ls []) := by
    intro n_
    induction n_ with
    | zero => intro i gY ls H locs hm_; exact absurd hm_ (Nat.not_lt_zero _)
    | succ n_ ih_loop1 =>
      intro i gY ls H locs hm_ hgY hi hl hP hD hS
      refine lv_iload_n hx hb dLe_writePlain_4 rfl (lv_at hl 0 rfl) ?_
      refine lv_aload_n hx hb dLe_writePlain_5 rfl (lv_at hl 2 rfl) ?_
      refine va_getN (D := D) (ci := 0) (v := .int (nI ((M.map nI).length))) (C := R_Row) (T := T_Row) (N := 2) hx hb hw in_Row hown hK hP 0 rfl rfl 1 (by decide) (va_Nw.use rfl (hn _ w_27)) (fun _ h9 => h9) rfl dLe_writePlain_6 ?_
      refine lv_icmp_ge (tgt := 43) hx hb dLe_writePlain_9 (by decide) (fun h9 => ?_) (fun h9 => ?_)
      · skip
        replace h9 := nt_le (a := (M.map nI).length) (b := i) (by omega) (by omega) h9
        rw [List.length_map] at h9
        have ei : M.take i = M := List.take_of_length_le (by omega)
        have hpa := pln_all M
        rw [ei] at hP hD hgY hl
        refine lv_iload_n hx hb dLe_writePlain_43 rfl (lv_at hl 1 rfl) ?_
        refine lv_if_le (tgt := 54) hx hb dLe_writePlain_44 (by decide) (fun h44 => ?_) (fun h44 => ?_)
        · skip
          replace h44 := nt_le (a := (pln M).length) (b := 0) (by omega) (by omega) h44
          refine lv_iload_n hx hb dLe_writePlain_54 rfl (lv_at hl 1 rfl) ?_
          have ep : pln M = (if (pln M).length = 0 then pln M else pln M ++ [45]) := by rw [if_pos (by omega)]
          have hP : va_P D vwCl [(h, .inr (0, [.ref a, .int (nI ((M.map nI).length))])), (a, .inl (cA, 120, .inl f)), (g, .inr (0, [.ref b, .int (nI (((if (pln M).length = 0 then pln M else pln M ++ [45]).map nI).length))])), (b, .inl (cA, 400, .inl gY))] H := by rw [← ep]; exact hP
          have hD : va_D A [(h, .inr (0, [.ref a, .int (nI ((M.map nI).length))])), (a, .inl (cA, 120, .inl f)), (g, .inr (0, [.ref b, .int (nI (((if (pln M).length = 0 then pln M else pln M ++ [45]).map nI).length))])), (b, .inl (cA, 400, .inl gY))] := by rw [← ep]; exact hD
          exact ret gY dLe_writePlain_55 rfl ⟨rfl, by rw [← ep]; exact hgY, by rw [← ep]; omega⟩ hP hD hS
        · skip
          replace h44 := nt_nle (a := (pln M).length) (b := 0) (by omega) (by omega) h44
          refine lv_aload_n hx hb dLe_writePlain_47 rfl (lv_at hl 3 rfl) ?_
          refine lv_bipush (v := nI 45) hx hb dLe_writePlain_48 (by decide) ?_
          refine ca_i (wr := [(h, .inr (0, [.ref a, .int (nI ((M.map nI).length))])), (a, .inl (cA, 120, .inl f))]) (va_runV (As := [.int (nI 45)]) (rest := []) Xf (k_Row_add l D cA _ g b 400 ((pln M).map nI) gY (nI 45) hgY (by simp only [List.length_map]; omega) (by omega)) ⟨cb_of 1 hw w_124 w_2 w_219 (by decide +kernel) (by rw [hR]; exact ⟨Nat.le_of_ble_eq_true rfl, Nat.le_of_ble_eq_true rfl⟩), hw _ w_122, hw _ w_123⟩ (pre_V (As := [.int (nI 45)]) hP hD hK hn [2, 3] rfl (by decide) 2 0 rfl rfl) rfl rfl hl.1 rfl (lv_room (Nat.le_of_ble_eq_true rfl)) dLe_writePlain_50 ⟨Nat.zero_le _, Nat.zero_le _⟩) hP hD hS hA [2, 3] [0, 1] rfl rfl (by decide) (by decide) (fun r50 u_ H locs hq_ hP hD hS => ?_)
          obtain ⟨L1, f1⟩ := u_
          dsimp only at hq_ hP hD
          rcases hq_ with ⟨hlt_1, rfl, hL_, hf1⟩ | ⟨hlt_1, rfl, hL_, hf1⟩
          · skip
            subst L1
            try simp only [List.length_append, List.length_singleton, List.length_nil, List.length_map, List.length_cons] at hlt_1
            replace hP : va_P D vwCl [(h, .inr (0, [.ref a, .int (nI ((M.map nI).length))])), (a, .inl (cA, 120, .inl f)), (g, .inr (0, [.ref b, .int (nI ((((pln M).map nI) ++ [nI 45]).length))])), (b, .inl (cA, 400, .inl f1))] H := hP.sub [0, 1, 2, 3] rfl
            replace hD : va_D A [(h, .inr (0, [.ref a, .int (nI ((M.map nI).length))])), (a, .inl (cA, 120, .inl f)), (g, .inr (0, [.ref b, .int (nI ((((pln M).map nI) ++ [nI 45]).length))])), (b, .inl (cA, 400, .inl f1))] := hD.sub [0, 1, 2, 3] (by decide) rfl
            refine lv_pop hx hb dLe_writePlain_53 rfl ?_
            refine lv_iload_n hx hb dLe_writePlain_54 rfl (lv_at hl 1 rfl) ?_
            have ep : pln M ++ [45] = (if (pln M).length = 0 then pln M else pln M ++ [45]) := by rw [if_neg (by omega)]
            rw [map_snoc, ep] at hP hD hf1
            exact ret f1 dLe_writePlain_55 rfl ⟨rfl, hf1, by rw [← ep, List.length_append, List.length_singleton]; omega⟩ hP hD hS
          · skip
            subst L1
            try simp only [List.length_append, List.length_singleton, List.length_nil, List.length_map, List.length_cons] at hlt_1
            replace hP : va_P D vwCl [(h, .inr (0, [.ref a, .int (nI ((M.map nI).length))])), (a, .inl (cA, 120, .inl f)), (g, .inr (0, [.ref b, .int (nI (((pln M).map nI).length))])), (b, .inl (cA, 400, .inl f1))] H := hP.sub [0, 1, 2, 3] rfl
            replace hD : va_D A [(h, .inr (0, [.ref a, .int (nI ((M.map nI).length))])), (a, .inl (cA, 120, .inl f)), (g, .inr (0, [.ref b, .int (nI (((pln M).map nI).length))])), (b, .inl (cA, 400, .inl f1))] := hD.sub [0, 1, 2, 3] (by decide) rfl
            exact absurd hlt_1 (by omega)
      · skip
        replace h9 := nt_nle (a := (M.map nI).length) (b := i) (by omega) (by omega) h9
        rw [List.length_map] at h9
        refine lv_aload_n hx hb dLe_writePlain_12 rfl (lv_at hl 2 rfl) ?_
        refine lv_iload_n hx hb dLe_writePlain_13 rfl (lv_at hl 0 rfl) ?_
        refine ca_i (wr := [(g, .inr (0, [.ref b, .int (nI (((pln (M.take i)).map nI).length))])), (b, .inl (cA, 400, .inl gY))]) (va_runV (As := [.int (nI i)]) (rest := []) Xf (k_Row_unitAt l D cA _ h a 120 (M.map nI) f (nI i) hf hc (by omega)) ⟨cb_of 1 hw w_154 w_2 w_218 (by decide +kernel) (by rw [hR]; exact ⟨Nat.le_of_ble_eq_true rfl, Nat.le_of_ble_eq_true rfl⟩), hw _ w_152, hw _ w_153⟩ (pre_V (As := [.int (nI i)]) hP hD hK hn [0, 1] rfl (by decide) 0 0 rfl rfl) rfl rfl hl.1 rfl (lv_room (Nat.le_of_ble_eq_true rfl)) dLe_writePlain_14 ⟨Nat.zero_le _, Nat.zero_le _⟩) hP hD hS hA [0, 1] [2, 3] rfl rfl (by decide) (by decide) (fun r14 u_ H locs hq_ hP hD hS => ?_)
        obtain rfl : r14 = un (M.map nI) i := hq_.trans (gt_n (by omega) (by omega))
        replace hP : va_P D vwCl [(h, .inr (0, [.ref a, .int (nI ((M.map nI).length))])), (a, .inl (cA, 120, .inl f)), (g, .inr (0, [.ref b, .int (nI (((pln (M.take i)).map nI).length))])), (b, .inl (cA, 400, .inl gY))] H := hP.sub [2, 3, 0, 1] rfl
        replace hD : va_D A [(h, .inr (0, [.ref a, .int (nI ((M.map nI).length))])), (a, .inl (cA, 120, .inl f)), (g, .inr (0, [.ref b, .int (nI (((pln (M.take i)).map nI).length))])), (b, .inl (cA, 400, .inl gY))] := hD.sub [2, 3, 0, 1] (by decide) rfl
        refine lv_rei (y := nI (M.getD i 0)) (un_map (by omega)) ?_
        have hvb : M.getD i 0 ≤ 1114111 := getD_b hMb (by omega)
        refine lv_istore (lv' := [(4, .int (nI (M.getD i 0))), (3, .int (nI i)), (2, .int (nI ((pln (M.take i)).length))), (0, .ref h), (1, .ref g)]) hx hb dLe_writePlain_17 hl (by decide) rfl (fun ls hl => ?_)
        refine lv_iload hx hb dLe_writePlain_19 (lv_at hl 0 rfl) ?_
        refine lv_sipush (v := nI 128) hx hb dLe_writePlain_21 (by decide) ?_
        refine lv_icmp_ge (tgt := 37) hx hb dLe_writePlain_24 (by decide) (fun h24 => ?_) (fun h24 => ?_)
        · skip
          replace h24 := nt_le (a := 128) (b := M.getD i 0) (by omega) (by omega) h24
          refine lv_iinc (k := 1) (v := nI (i + 1)) (lv' := [(3, .int (nI (i + 1))), (4, .int (nI (M.getD i 0))), (2, .int (nI ((pln (M.take i)).length))), (0, .ref h), (1, .ref g)]) hx hb dLe_writePlain_37 hl rfl (nI_1 _) (by decide) rfl (fun ls hl => ?_)
          refine lv_goto (tgt := 4) hx hb dLe_writePlain_40 (by decide) ?_
          have ep : pln (M.take i) = pln (M.take (i + 1)) := by rw [pln_s h9, if_neg (by omega)]
          rw [ep] at hP hD hgY hl
          exact ih_loop1 (i + 1) gY _ _ _ (by omega) hgY (by omega) (lv_sub hl [0, 2, 3, 4] rfl) hP hD hS
        · skip
          replace h24 := nt_nle (a := 128) (b := M.getD i 0) (by omega) (by omega) h24
          refine lv_aload_n hx hb dLe_writePlain_27 rfl (lv_at hl 4 rfl) ?_
          refine lv_iload hx hb dLe_writePlain_28 (lv_at hl 0 rfl) ?_
          refine ca_i (wr := [(h, .inr (0, [.ref a, .int (nI ((M.map nI).length))])), (a, .inl (cA, 120, .inl f))]) (va_runV (As := [.int (nI (M.getD i 0))]) (rest := []) Xf (k_Row_add l D cA _ g b 400 ((pln (M.take i)).map nI) gY (nI (M.getD i 0)) hgY (by have := pln_len (M := M) (i := i); simp only [List.length_map]; omega) (by omega)) ⟨cb_of 1 hw w_124 w_2 w_219 (by decide +kernel) (by rw [hR]; exact ⟨Nat.le_of_ble_eq_true rfl, Nat.le_of_ble_eq_true rfl⟩), hw _ w_122, hw _ w_123⟩ (pre_V (As := [.int (nI (M.getD i 0))]) hP hD hK hn [2, 3] rfl (by decide) 2 0 rfl rfl) rfl rfl hl.1 rfl (lv_room (Nat.le_of_ble_eq_true rfl)) dLe_writePlain_30 ⟨Nat.zero_le _, Nat.zero_le _⟩) hP hD hS hA [2, 3] [0, 1] rfl rfl (by decide) (by decide) (fun r30 u_ H locs hq_ hP hD hS => ?_)
          obtain ⟨L2, f2⟩ := u_
          dsimp only at hq_ hP hD
          rcases hq_ with ⟨hlt_2, rfl, hL_, hf2⟩ | ⟨hlt_2, rfl, hL_, hf2⟩
          · skip
            subst L2
            try simp only [List.length_append, List.length_singleton, List.length_nil, List.length_map, List.length_cons] at hlt_2
            replace hP : va_P D vwCl [(h, .inr (0, [.ref a, .int (nI ((M.map nI).length))])), (a, .inl (cA, 120, .inl f)), (g, .inr (0, [.ref b, .int (nI ((((pln (M.take i)).map nI) ++ [nI (M.getD i 0)]).length))])), (b, .inl (cA, 400, .inl f2))] H := hP.sub [0, 1, 2, 3] rfl
            replace hD : va_D A [(h, .inr (0, [.ref a, .int (nI ((M.map nI).length))])), (a, .inl (cA, 120, .inl f)), (g, .inr (0, [.ref b, .int (nI ((((pln (M.take i)).map nI) ++ [nI (M.getD i 0)]).length))])), (b, .inl (cA, 400, .inl f2))] := hD.sub [0, 1, 2, 3] (by decide) rfl
            refine lv_pop hx hb dLe_writePlain_33 rfl ?_
            refine lv_iinc (k := 2) (v := nI ((pln (M.take i)).length + 1)) (lv' := [(2, .int (nI ((pln (M.take i)).length + 1))), (4, .int (nI (M.getD i 0))), (3, .int (nI i)), (0, .ref h), (1, .ref g)]) hx hb dLe_writePlain_34 hl rfl (nI_1 _) (by decide) rfl (fun ls hl => ?_)
            refine lv_iinc (k := 2) (v := nI (i + 1)) (lv' := [(3, .int (nI (i + 1))), (2, .int (nI ((pln (M.take i)).length + 1))), (4, .int (nI (M.getD i 0))), (0, .ref h), (1, .ref g)]) hx hb dLe_writePlain_37 hl rfl (nI_1 _) (by decide) rfl (fun ls hl => ?_)
            refine lv_goto (tgt := 4) hx hb dLe_writePlain_40 (by decide) ?_
            have ep : pln (M.take (i + 1)) = pln (M.take i) ++ [M.getD i 0] := by rw [pln_s h9, if_pos h24]
            have el : (pln (M.take i)).length + 1 = (pln (M.take (i + 1))).length := by rw [ep, List.length_append, List.length_singleton]
            rw [map_snoc, ← ep] at hP hD hf2
            rw [el] at hl
            exact ih_loop1 (i + 1) f2 _ _ _ (by omega) hf2 (by omega) (lv_sub hl [0, 1, 3, 4] rfl) hP hD hS
          · skip
            subst L2
            try simp only [List.length_append, List.length_singleton, List.length_nil, List.length_map, List.length_cons] at hlt_2
            replace hP : va_P D vwCl [(h, .inr (0, [.ref a, .int (nI ((M.map nI).length))])), (a, .inl (cA, 120, .inl f)), (g, .inr (0, [.ref b, .int (nI (((pln (M.take i)).map nI).length))])), (b, .inl (cA, 400, .inl f2))] H := hP.sub [0, 1, 2, 3] rfl
            replace hD : va_D A [(h, .inr (0, [.ref a, .int (nI ((M.map nI).length))])), (a, .inl (cA, 120, .inl f)), (g, .inr (0, [.ref b, .int (nI (((pln (M.take i)).map nI).length))])), (b, .inl (cA, 400, .inl f2))] := hD.sub [0, 1, 2, 3] (by decide) rfl
            exact absurd hlt_2 (by have := pln_len (M := M) (i := i); omega)
  exact loop1 _ 0 fg _ _ _ (Nat.lt_succ_self _) (Hd_nil _) (Nat.zero_le _) (lv_sub hl [0, 1, 2, 3] rfl) hP hD hS
set_option maxHeartbeats 4000000 in
set_option maxRecDepth 100000 in
theorem k_Le_writeAll (l : Launch) (D : va_G) (cA : ClassId) (sz : Nat) (oT : Nat) (lat lva lpl lbi lfi : Int32) (h a : Nat) (M : List Nat) (f : Nat → Int32) (g b : Nat) (fg : Nat → Int32) (hf : Hd f (M.map nI)) (hc : (M.map nI).length ≤ 120) (hMb : ∀ x ∈ M, x ≤ 1114111) : KI l D cA y_Le_writeAll c_Le_writeAll 5 .boolean 4 98 [.ref oT, .ref h, .ref g] sz [(oT, .inr (3, [.int lat, .int lva, .int lpl, .int lbi, .int lfi])), (h, .inr (0, [.ref a, .int (nI ((M.map nI).length))])), (a, .inl (cA, 120, .inl f)), (g, .inr (0, [.ref b, .int (nI (([] : List Int32).length))])), (b, .inl (cA, 400, .inl fg))] (S := List Int32 × (Nat → Int32) × Int32 × Int32 × Int32 × Int32) (fun r u => match u with | (Y2, fY2, lva2, lpl2, lbi2, lfi2) => ((wlS M).length ≤ 400 ∧ r = 1 ∧ Y2 = (wlS M).map nI ∧ Hd fY2 Y2) ∨ (400 < (wlS M).length ∧ r = 0 ∧ Y2.length ≤ 400 ∧ Hd fY2 Y2)) (fun u => match u with | (Y2, fY2, lva2, lpl2, lbi2, lfi2) => [(oT, .inr (3, [.int lat, .int lva2, .int lpl2, .int lbi2, .int lfi2])), (h, .inr (0, [.ref a, .int (nI ((M.map nI).length))])), (a, .inl (cA, 120, .inl f)), (g, .inr (0, [.ref b, .int (nI Y2.length)])), (b, .inl (cA, 400, .inl fY2))]) := by
  refine KI.of (by decide) (Nat.le_of_ble_eq_true rfl) ?_
  intro p e s m args below meth c Q R A ls Xf hR hA hS hP hD hK hn hl ret
  have hx := Xf.1
  have hb := Xf.2.1
  have hown : s.vm.findClass "ScalarScribe$Letters" = some m.cls := Xf.2.2.2.1
  have hw := Xf.2.2.2.2
  have hl : lv_has ls 5 [(0, .ref oT), (1, .ref h), (2, .ref g)] := hl
  have hcM : M.length ≤ 120 := by rw [List.length_map] at hc; exact hc
  refine lv_aload_n hx hb dLe_writeAll_0 rfl (lv_at hl 0 rfl) ?_
  refine ca_v (wr := [(h, .inr (0, [.ref a, .int (nI ((M.map nI).length))])), (a, .inl (cA, 120, .inl f)), (g, .inr (0, [.ref b, .int (nI (([] : List Int32).length))])), (b, .inl (cA, 400, .inl fg))]) (va_runV (As := []) (rest := []) Xf (k_Le_begin l D cA _ oT lat lva lpl lbi lfi) ⟨cb_of 0 hw w_213 w_6 w_210 (by decide +kernel) (by rw [hR]; exact ⟨Nat.le_of_ble_eq_true rfl, Nat.le_of_ble_eq_true rfl⟩), hw _ w_212, hw _ ws_2⟩ (pre_V (As := []) hP hD hK hn [0] rfl (by decide) 0 3 rfl rfl) rfl rfl hl.1 rfl (lv_room (Nat.le_of_ble_eq_true rfl)) dLe_writeAll_1 ⟨Nat.zero_le _, Nat.zero_le _⟩) hP hD hS hA [0] [1, 2, 3, 4] rfl rfl (by decide) (by decide) (fun u_ H locs hq_ hP hD hS => ?_)
  replace hP : va_P D vwCl [(oT, .inr (3, [.int lat, .int (nI 128), .int (nI 0), .int (nI 72), .int (bI true)])), (h, .inr (0, [.ref a, .int (nI ((M.map nI).length))])), (a, .inl (cA, 120, .inl f)), (g, .inr (0, [.ref b, .int (nI (([] : List Int32).length))])), (b, .inl (cA, 400, .inl fg))] H := hP.sub [4, 0, 1, 2, 3] rfl
  replace hD : va_D A [(oT, .inr (3, [.int lat, .int (nI 128), .int (nI 0), .int (nI 72), .int (bI true)])), (h, .inr (0, [.ref a, .int (nI ((M.map nI).length))])), (a, .inl (cA, 120, .inl f)), (g, .inr (0, [.ref b, .int (nI (([] : List Int32).length))])), (b, .inl (cA, 400, .inl fg))] := hD.sub [4, 0, 1, 2, 3] (by decide) rfl
  refine lv_iconst (v := (-1)) hx hb dLe_writeAll_4 (by decide) ?_
  refine lv_istore_n (lv' := [(3, .int (-1)), (0, .ref oT), (1, .ref h), (2, .ref g)]) hx hb dLe_writeAll_5 rfl hl (by decide) rfl (fun ls hl => ?_)
  refine lv_aload_n hx hb dLe_writeAll_6 rfl (lv_at hl 2 rfl) ?_
  refine lv_aload_n hx hb dLe_writeAll_7 rfl (lv_at hl 3 rfl) ?_
  refine ca_i (wr := [(oT, .inr (3, [.int lat, .int (nI 128), .int (nI 0), .int (nI 72), .int (bI true)]))]) (va_runS (As := [.ref h, .ref g]) (rest := []) Xf (k_Le_writePlain l D cA _ h a M f g b fg hf hc hMb) ⟨cb_of 2 hw w_303 w_6 w_301 (by decide +kernel) (by rw [hR]; exact ⟨Nat.le_of_ble_eq_true rfl, Nat.le_of_ble_eq_true rfl⟩), hw _ w_302⟩ (pre_S hP hD hK hn [1, 2, 3, 4] rfl (by decide)) rfl rfl hl.1 rfl (lv_room (Nat.le_of_ble_eq_true rfl)) dLe_writeAll_8 ⟨Nat.zero_le _, Nat.zero_le _⟩) hP hD hS hA [1, 2, 3, 4] [0] rfl rfl (by decide) (by decide) (fun r8 u_ H locs hq_ hP hD hS => ?_)
  obtain ⟨rfl, hf1, hlt_1⟩ := hq_
  replace hP : va_P D vwCl [(oT, .inr (3, [.int lat, .int (nI 128), .int (nI 0), .int (nI 72), .int (bI true)])), (h, .inr (0, [.ref a, .int (nI ((M.map nI).length))])), (a, .inl (cA, 120, .inl f)), (g, .inr (0, [.ref b, .int (nI (((if (pln M).length = 0 then pln M else pln M ++ [45]).map nI).length))])), (b, .inl (cA, 400, .inl u_))] H := hP.sub [0, 1, 2, 3, 4] rfl
  replace hD : va_D A [(oT, .inr (3, [.int lat, .int (nI 128), .int (nI 0), .int (nI 72), .int (bI true)])), (h, .inr (0, [.ref a, .int (nI ((M.map nI).length))])), (a, .inl (cA, 120, .inl f)), (g, .inr (0, [.ref b, .int (nI (((if (pln M).length = 0 then pln M else pln M ++ [45]).map nI).length))])), (b, .inl (cA, 400, .inl u_))] := hD.sub [0, 1, 2, 3, 4] (by decide) rfl
  refine lv_istore (lv' := [(4, .int (nI ((pln M).length))), (3, .int (-1)), (0, .ref oT), (1, .ref h), (2, .ref g)]) hx hb dLe_writeAll_11 hl (by decide) rfl (fun ls hl => ?_)
  have loop1 : ∀ (n_ : Nat) (told : Nat) (va : Nat) (pl : Nat) (bi : Nat) (la : Nat) (fb : Bool) (W1 : List Nat) (gY : Nat → Int32) (kf : Nat) (ls : Array Slot) (H : Heap) (locs : List Loc), kf < n_ → tinv M va pl told la → told + kf = M.length → va ≤ 1114111 → bi ≤ 252 → Hd gY (W1.map nI) → (W1.map nI).length ≤ 400 → tlS M kf va pl bi told la fb W1 = wlS M → lv_has ls 5 [(4, .int (nI told)), (3, .int (lz la)), (0, .ref oT), (1, .ref h), (2, .ref g)] → va_P D vwCl [(oT, .inr (3, [.int lat, .int (nI va), .int (nI pl), .int (nI bi), .int (bI fb)])), (h, .inr (0, [.ref a, .int (nI ((M.map nI).length))])), (a, .inl (cA, 120, .inl f)), (g, .inr (0, [.ref b, .int (nI ((W1.map nI).length))])), (b, .inl (cA, 400, .inl gY))] H → va_D A [(oT, .inr (3, [.int lat, .int (nI va), .int (nI pl), .int (nI bi), .int (bI fb)])), (h, .inr (0, [.ref a, .int (nI ((M.map nI).length))])), (a, .inl (cA, 120, .inl f)), (g, .inr (0, [.ref b, .int (nI ((W1.map nI).length))])), (b, .inl (cA, 400, .inl gY))] → va_S A s.heap H locs → W p l e R s m args below meth c H locs 0 0 Q (F0 m 13 ls []) := by
    intro n_
    induction n_ with
    | zero => intro told va pl bi la fb W1 gY kf ls H locs hm_; exact absurd hm_ (Nat.not_lt_zero _)
    | succ n_ ih_loop1 =>
      intro told va pl bi la fb W1 gY kf ls H locs hm_ hti htk hva hbi hgY hY4 hF hl hP hD hS
      refine lv_iload hx hb dLe_writeAll_13 (lv_at hl 0 rfl) ?_
      refine lv_aload_n hx hb dLe_writeAll_15 rfl (lv_at hl 3 rfl) ?_
      refine va_getN (D := D) (ci := 0) (v := .int (nI ((M.map nI).length))) (C := R_Row) (T := T_Row) (N := 2) hx hb hw in_Row hown hK hP 1 rfl rfl 1 (by decide) (va_Nw.use rfl (hn _ w_27)) (fun _ h9 => h9) rfl dLe_writeAll_16 ?_
      refine lv_icmp_ge (tgt := 51) hx hb dLe_writeAll_19 (by decide) (fun h19 => ?_) (fun h19 => ?_)
      · skip
        replace h19 := nt_le (a := (M.map nI).length) (b := told) (by omega) (by omega) h19
        rw [List.length_map] at h19
        refine lv_iconst (v := nI 1) hx hb dLe_writeAll_51 (by decide) ?_
        have hz : W1 = wlS M := by rw [← hF, show kf = 0 by omega]; rfl
        rw [hz] at hP hD hgY hY4
        exact ret ((wlS M).map nI, gY, nI va, nI pl, nI bi, bI fb) dLe_writeAll_52 rfl (Or.inl ⟨by rw [List.length_map] at hY4; exact hY4, rfl, rfl, hgY⟩) hP hD hS
      · skip
        replace h19 := nt_nle (a := (M.map nI).length) (b := told) (by omega) (by omega) h19
        rw [List.length_map] at h19
        refine lv_aload_n hx hb dLe_writeAll_22 rfl (lv_at hl 2 rfl) ?_
        refine lv_aload_n hx hb dLe_writeAll_23 rfl (lv_at hl 3 rfl) ?_
        refine lv_iload_n hx hb dLe_writeAll_24 rfl (lv_at hl 1 rfl) ?_
        have hlaM := hti.2.2
        refine ca_i (wr := [(g, .inr (0, [.ref b, .int (nI ((W1.map nI).length))])), (b, .inl (cA, 400, .inl gY))]) (va_runV (As := [.ref h, .int (lz la)]) (rest := []) Xf (k_Le_nextToTell l D cA _ oT lat va (nI pl) (nI bi) (bI fb) h a M f la hf hc hMb (by omega) (by omega)) ⟨cb_of 2 hw w_307 w_6 w_304 (by decide +kernel) (by rw [hR]; exact ⟨Nat.le_of_ble_eq_true rfl, Nat.le_of_ble_eq_true rfl⟩), hw _ w_306, hw _ ws_11⟩ (pre_V (As := [.ref h, .int (lz la)]) hP hD hK hn [0, 1, 2] rfl (by decide) 0 3 rfl rfl) rfl rfl hl.1 rfl (lv_room (Nat.le_of_ble_eq_true rfl)) dLe_writeAll_25 ⟨Nat.zero_le _, Nat.zero_le _⟩) hP hD hS hA [0, 1, 2] [3, 4] rfl rfl (by decide) (by decide) (fun r25 u_ H locs hq_ hP hD hS => ?_)
        obtain rfl : r25 = ov (nxG M va la M.length) := hq_
        replace hP : va_P D vwCl [(oT, .inr (3, [.int lat, .int (nI va), .int (nI pl), .int (nI bi), .int (bI fb)])), (h, .inr (0, [.ref a, .int (nI ((M.map nI).length))])), (a, .inl (cA, 120, .inl f)), (g, .inr (0, [.ref b, .int (nI ((W1.map nI).length))])), (b, .inl (cA, 400, .inl gY))] H := hP.sub [2, 3, 4, 0, 1] rfl
        replace hD : va_D A [(oT, .inr (3, [.int lat, .int (nI va), .int (nI pl), .int (nI bi), .int (bI fb)])), (h, .inr (0, [.ref a, .int (nI ((M.map nI).length))])), (a, .inl (cA, 120, .inl f)), (g, .inr (0, [.ref b, .int (nI ((W1.map nI).length))])), (b, .inl (cA, 400, .inl gY))] := hD.sub [2, 3, 4, 0, 1] (by decide) rfl
        have hlaM := hti.2.2
        obtain ⟨ix, hnx, hix, hva2, hpl2, hti2⟩ := tinv_nx hti (by omega)
        refine lv_rei (y := nI ix) (by rw [hnx]; rfl) ?_
        refine lv_istore_n (lv' := [(3, .int (nI ix)), (4, .int (nI told)), (0, .ref oT), (1, .ref h), (2, .ref g)]) hx hb dLe_writeAll_28 rfl hl (by decide) rfl (fun ls hl => ?_)
        refine lv_aload_n hx hb dLe_writeAll_29 rfl (lv_at hl 2 rfl) ?_
        refine lv_aload_n hx hb dLe_writeAll_30 rfl (lv_at hl 3 rfl) ?_
        refine lv_iload_n hx hb dLe_writeAll_31 rfl (lv_at hl 0 rfl) ?_
        refine lv_iload hx hb dLe_writeAll_32 (lv_at hl 1 rfl) ?_
        refine lv_iconst (v := nI 1) hx hb dLe_writeAll_34 (by decide) ?_
        refine lv_iadd hx hb dLe_writeAll_35 ?_
        refine lv_rei (y := nI (told + 1)) (nI_add _ _) ?_
        refine lv_aload_n hx hb dLe_writeAll_36 rfl (lv_at hl 4 rfl) ?_
        refine ca_i (wr := []) (va_runV (As := [.ref h, .int (nI ix), .int (nI (told + 1)), .ref g]) (rest := []) Xf (k_Le_tell l D cA _ oT lat va pl bi fb h a M f g b W1 gY ix (told + 1) hf hc hgY hY4 hMb hix hva2 hpl2 (by omega) (by omega) (by omega)) ⟨cb_of 4 hw w_311 w_6 w_308 (by decide +kernel) (by rw [hR]; exact ⟨Nat.le_of_ble_eq_true rfl, Nat.le_of_ble_eq_true rfl⟩), hw _ w_310, hw _ ws_12⟩ (pre_V (As := [.ref h, .int (nI ix), .int (nI (told + 1)), .ref g]) hP hD hK hn [0, 1, 2, 3, 4] rfl (by decide) 0 3 rfl rfl) rfl rfl hl.1 rfl (lv_room (Nat.le_of_ble_eq_true rfl)) dLe_writeAll_37 ⟨Nat.zero_le _, Nat.zero_le _⟩) hP hD hS hA [0, 1, 2, 3, 4] [] rfl rfl (by decide) (by decide) (fun r37 u_ H locs hq_ hP hD hS => ?_)
        obtain ⟨L2, f2⟩ := u_
        dsimp only at hq_ hP hD
        rcases hq_ with ⟨hlt_2, rfl, hL_, hf2⟩ | ⟨hlt_2, rfl, hL_, hf2⟩
        · skip
          subst L2
          replace hP : va_P D vwCl [(oT, .inr (3, [.int lat, .int (nI (M.getD ix 0)), .int (nI (leC M (M.getD ix 0) ix + 1)), .int (nI (adN ((M.getD ix 0 - va) * (told + 1) + leC M (M.getD ix 0) ix - pl) (told + 1) fb)), .int (bI false)])), (h, .inr (0, [.ref a, .int (nI ((M.map nI).length))])), (a, .inl (cA, 120, .inl f)), (g, .inr (0, [.ref b, .int (nI (((W1 ++ wnum bi ((M.getD ix 0 - va) * (told + 1) + leC M (M.getD ix 0) ix - pl)).map nI).length))])), (b, .inl (cA, 400, .inl f2))] H := hP.sub [0, 1, 2, 3, 4] rfl
          replace hD : va_D A [(oT, .inr (3, [.int lat, .int (nI (M.getD ix 0)), .int (nI (leC M (M.getD ix 0) ix + 1)), .int (nI (adN ((M.getD ix 0 - va) * (told + 1) + leC M (M.getD ix 0) ix - pl) (told + 1) fb)), .int (bI false)])), (h, .inr (0, [.ref a, .int (nI ((M.map nI).length))])), (a, .inl (cA, 120, .inl f)), (g, .inr (0, [.ref b, .int (nI (((W1 ++ wnum bi ((M.getD ix 0 - va) * (told + 1) + leC M (M.getD ix 0) ix - pl)).map nI).length))])), (b, .inl (cA, 400, .inl f2))] := hD.sub [0, 1, 2, 3, 4] (by decide) rfl
          refine lv_if_ne (tgt := 45) hx hb dLe_writeAll_40 (by decide) (fun h40 => ?_) (fun h40 => ?_)
          · skip
            refine lv_iinc (k := 1) (v := nI (told + 1)) (lv' := [(4, .int (nI (told + 1))), (3, .int (nI ix)), (0, .ref oT), (1, .ref h), (2, .ref g)]) hx hb dLe_writeAll_45 hl rfl (nI_1 _) (by decide) rfl (fun ls hl => ?_)
            refine lv_goto (tgt := 13) hx hb dLe_writeAll_48 (by decide) ?_
            rw [lz_s ix] at hl
            obtain ⟨k2, rfl⟩ : ∃ k2, kf = k2 + 1 := ⟨kf - 1, by omega⟩
            rw [tl_s hnx] at hF
            have hvb : M.getD ix 0 ≤ 1114111 := getD_b hMb hix
            have hpr : (M.getD ix 0 - va) * (told + 1) ≤ 1114111 * 121 := Nat.mul_le_mul (by omega) (by omega)
            have hll := leC_le (M := M) (v := M.getD ix 0) ix
            have hab := adN_b (d := num M va pl told ix) (n := told + 1) (fb := fb) (show (M.getD ix 0 - va) * (told + 1) + leC M (M.getD ix 0) ix - pl < 2 ^ 31 by omega)
            exact ih_loop1 (told + 1) (M.getD ix 0) (leC M (M.getD ix 0) ix + 1) (adN ((M.getD ix 0 - va) * (told + 1) + leC M (M.getD ix 0) ix - pl) (told + 1) fb) (ix + 1) false (W1 ++ wnum bi (num M va pl told ix)) f2 k2 _ _ _ (by omega) hti2 (by omega) (by omega) (by omega) hf2 (by rw [List.length_map]; exact hlt_2) hF (lv_sub hl [0, 1, 2, 3, 4] rfl) hP hD hS
          · skip
            exact absurd h40 (by decide)
        · skip
          replace hP : va_P D vwCl [(oT, .inr (3, [.int lat, .int (nI (M.getD ix 0)), .int (nI (leC M (M.getD ix 0) ix + 1)), .int (nI (adN ((M.getD ix 0 - va) * (told + 1) + leC M (M.getD ix 0) ix - pl) (told + 1) fb)), .int (bI false)])), (h, .inr (0, [.ref a, .int (nI ((M.map nI).length))])), (a, .inl (cA, 120, .inl f)), (g, .inr (0, [.ref b, .int (nI L2.length)])), (b, .inl (cA, 400, .inl f2))] H := hP.sub [0, 1, 2, 3, 4] rfl
          replace hD : va_D A [(oT, .inr (3, [.int lat, .int (nI (M.getD ix 0)), .int (nI (leC M (M.getD ix 0) ix + 1)), .int (nI (adN ((M.getD ix 0 - va) * (told + 1) + leC M (M.getD ix 0) ix - pl) (told + 1) fb)), .int (bI false)])), (h, .inr (0, [.ref a, .int (nI ((M.map nI).length))])), (a, .inl (cA, 120, .inl f)), (g, .inr (0, [.ref b, .int (nI L2.length)])), (b, .inl (cA, 400, .inl f2))] := hD.sub [0, 1, 2, 3, 4] (by decide) rfl
          refine lv_if_ne (tgt := 45) hx hb dLe_writeAll_40 (by decide) (fun h40 => ?_) (fun h40 => ?_)
          · skip
            exact absurd h40 (by decide)
          · skip
            refine lv_iconst (v := nI 0) hx hb dLe_writeAll_43 (by decide) ?_
            obtain ⟨k2, rfl⟩ : ∃ k2, kf = k2 + 1 := ⟨kf - 1, by omega⟩
            rw [tl_s hnx] at hF
            have hbg : 400 < (wlS M).length := by rw [← hF]; exact Nat.lt_of_lt_of_le hlt_2 (tl_le _ _ _ _ _ _ _ _)
            exact ret (L2, f2, nI (M.getD ix 0), nI (leC M (M.getD ix 0) ix + 1), nI (adN ((M.getD ix 0 - va) * (told + 1) + leC M (M.getD ix 0) ix - pl) (told + 1) fb), bI false) dLe_writeAll_44 rfl (Or.inr ⟨hbg, rfl, hL_, hf2⟩) hP hD hS
  exact loop1 _ ((pln M).length) 128 0 72 0 true (if (pln M).length = 0 then pln M else pln M ++ [45]) u_ (M.length - (pln M).length) _ _ _ (Nat.lt_succ_self _) (tinv_0 M) (by have := pln_all M; omega) (by omega) (by omega) hf1 (by simp only [List.length_map]; exact hlt_1) rfl (lv_sub hl [0, 1, 2, 3, 4] rfl) hP hD hS
set_option maxHeartbeats 4000000 in
set_option maxRecDepth 100000 in
theorem k_Sc_toLetters (l : Launch) (D : va_G) (cA : ClassId) (sz : Nat) (o oI aI oL aL oO aO oK aK oX aX oY aY o8 o6 oT : Nat) (I O K X Y : List Int32) (M : List Nat) (fI fL fO fK fX fY : Nat → Int32) (s8 t8 s6 t6 lat lva lpl lbi lfi : Int32) (hfI : Hd fI I) (hcI : I.length ≤ 120) (hfL : Hd fL (M.map nI)) (hcL : (M.map nI).length ≤ 120) (hfO : Hd fO O) (hcO : O.length ≤ 400) (hfK : Hd fK K) (hcK : K.length ≤ 120) (hfX : Hd fX X) (hcX : X.length ≤ 120) (hfY : Hd fY Y) (hcY : Y.length ≤ 400) (hMb : ∀ x ∈ M, x ≤ 1114111) : KI l D cA y_Sc_toLetters c_Sc_toLetters 1 .int 5 122 [.ref o] sz [(o, .inr (4, [.ref oI, .ref oL, .ref oO, .ref oK, .ref oX, .ref oY, .ref o8, .ref o6, .ref oT])), (oI, .inr (0, [.ref aI, .int (nI I.length)])), (aI, .inl (cA, 120, .inl fI)), (oL, .inr (0, [.ref aL, .int (nI ((M.map nI).length))])), (aL, .inl (cA, 120, .inl fL)), (oO, .inr (0, [.ref aO, .int (nI O.length)])), (aO, .inl (cA, 400, .inl fO)), (oK, .inr (0, [.ref aK, .int (nI K.length)])), (aK, .inl (cA, 120, .inl fK)), (oX, .inr (0, [.ref aX, .int (nI X.length)])), (aX, .inl (cA, 120, .inl fX)), (oY, .inr (0, [.ref aY, .int (nI Y.length)])), (aY, .inl (cA, 400, .inl fY)), (o8, .inr (1, [.int s8, .int t8])), (o6, .inr (2, [.int s6, .int t6])), (oT, .inr (3, [.int lat, .int lva, .int lpl, .int lbi, .int lfi]))] (S := List Int32 × (Nat → Int32) × List Int32 × (Nat → Int32) × Int32 × Int32 × Int32 × Int32) (fun r u => match u with | (O2, fO2, Y2, fY2, lva2, lpl2, lbi2, lfi2) => r = (spX (wlS M) O).1 ∧ O2 = (spX (wlS M) O).2 ∧ Hd fO2 O2 ∧ O2.length ≤ 400 ∧ Hd fY2 Y2 ∧ Y2.length ≤ 400) (fun u => match u with | (O2, fO2, Y2, fY2, lva2, lpl2, lbi2, lfi2) => [(o, .inr (4, [.ref oI, .ref oL, .ref oO, .ref oK, .ref oX, .ref oY, .ref o8, .ref o6, .ref oT])), (oI, .inr (0, [.ref aI, .int (nI I.length)])), (aI, .inl (cA, 120, .inl fI)), (oL, .inr (0, [.ref aL, .int (nI ((M.map nI).length))])), (aL, .inl (cA, 120, .inl fL)), (oO, .inr (0, [.ref aO, .int (nI O2.length)])), (aO, .inl (cA, 400, .inl fO2)), (oK, .inr (0, [.ref aK, .int (nI K.length)])), (aK, .inl (cA, 120, .inl fK)), (oX, .inr (0, [.ref aX, .int (nI X.length)])), (aX, .inl (cA, 120, .inl fX)), (oY, .inr (0, [.ref aY, .int (nI Y2.length)])), (aY, .inl (cA, 400, .inl fY2)), (o8, .inr (1, [.int s8, .int t8])), (o6, .inr (2, [.int s6, .int t6])), (oT, .inr (3, [.int lat, .int lva2, .int lpl2, .int lbi2, .int lfi2]))]) := by
  refine KI.of (by decide) (Nat.le_of_ble_eq_true rfl) ?_
  intro p e s m args below meth c Q R A ls Xf hR hA hS hP hD hK hn hl ret
  have hx := Xf.1
  have hb := Xf.2.1
  have hown : s.vm.findClass "ScalarScribe" = some m.cls := Xf.2.2.2.1
  have hw := Xf.2.2.2.2
  have hl : lv_has ls 1 [(0, .ref o)] := hl
  refine lv_aload_n hx hb dSc_toLetters_0 rfl (lv_at hl 0 rfl) ?_
  refine va_get (D := D) (ci := 4) (v := .ref oY) (C := R_Sc) (T := T_Sc) (N := 9) hx hb hw in_Sc hown hK hP 0 rfl rfl 5 (by decide) (hw _ w_94) (fun _ h9 => h9) rfl dSc_toLetters_1 ?_
  refine ca_v (wr := [(o, .inr (4, [.ref oI, .ref oL, .ref oO, .ref oK, .ref oX, .ref oY, .ref o8, .ref o6, .ref oT])), (oI, .inr (0, [.ref aI, .int (nI I.length)])), (aI, .inl (cA, 120, .inl fI)), (oL, .inr (0, [.ref aL, .int (nI ((M.map nI).length))])), (aL, .inl (cA, 120, .inl fL)), (oO, .inr (0, [.ref aO, .int (nI O.length)])), (aO, .inl (cA, 400, .inl fO)), (oK, .inr (0, [.ref aK, .int (nI K.length)])), (aK, .inl (cA, 120, .inl fK)), (oX, .inr (0, [.ref aX, .int (nI X.length)])), (aX, .inl (cA, 120, .inl fX)), (o8, .inr (1, [.int s8, .int t8])), (o6, .inr (2, [.int s6, .int t6])), (oT, .inr (3, [.int lat, .int lva, .int lpl, .int lbi, .int lfi]))]) (va_runV (As := []) (rest := []) Xf (k_Row_clear l D cA _ oY aY 400 Y fY) ⟨cb_of 0 hw w_136 w_2 w_133 (by decide +kernel) (by rw [hR]; exact ⟨Nat.le_of_ble_eq_true rfl, Nat.le_of_ble_eq_true rfl⟩), hw _ w_134, hw _ w_135⟩ (pre_V (As := []) hP hD hK hn [11, 12] rfl (by decide) 11 0 rfl rfl) rfl rfl hl.1 rfl (lv_room (Nat.le_of_ble_eq_true rfl)) dSc_toLetters_4 ⟨Nat.zero_le _, Nat.zero_le _⟩) hP hD hS hA [11, 12] [0, 1, 2, 3, 4, 5, 6, 7, 8, 9, 10, 13, 14, 15] rfl rfl (by decide) (by decide) (fun u_ H locs hq_ hP hD hS => ?_)
  replace hP : va_P D vwCl [(o, .inr (4, [.ref oI, .ref oL, .ref oO, .ref oK, .ref oX, .ref oY, .ref o8, .ref o6, .ref oT])), (oI, .inr (0, [.ref aI, .int (nI I.length)])), (aI, .inl (cA, 120, .inl fI)), (oL, .inr (0, [.ref aL, .int (nI ((M.map nI).length))])), (aL, .inl (cA, 120, .inl fL)), (oO, .inr (0, [.ref aO, .int (nI O.length)])), (aO, .inl (cA, 400, .inl fO)), (oK, .inr (0, [.ref aK, .int (nI K.length)])), (aK, .inl (cA, 120, .inl fK)), (oX, .inr (0, [.ref aX, .int (nI X.length)])), (aX, .inl (cA, 120, .inl fX)), (oY, .inr (0, [.ref aY, .int (nI (([] : List Int32).length))])), (aY, .inl (cA, 400, .inl fY)), (o8, .inr (1, [.int s8, .int t8])), (o6, .inr (2, [.int s6, .int t6])), (oT, .inr (3, [.int lat, .int lva, .int lpl, .int lbi, .int lfi]))] H := hP.sub [0, 1, 2, 3, 4, 5, 6, 7, 8, 9, 10, 14, 15, 11, 12, 13] rfl
  replace hD : va_D A [(o, .inr (4, [.ref oI, .ref oL, .ref oO, .ref oK, .ref oX, .ref oY, .ref o8, .ref o6, .ref oT])), (oI, .inr (0, [.ref aI, .int (nI I.length)])), (aI, .inl (cA, 120, .inl fI)), (oL, .inr (0, [.ref aL, .int (nI ((M.map nI).length))])), (aL, .inl (cA, 120, .inl fL)), (oO, .inr (0, [.ref aO, .int (nI O.length)])), (aO, .inl (cA, 400, .inl fO)), (oK, .inr (0, [.ref aK, .int (nI K.length)])), (aK, .inl (cA, 120, .inl fK)), (oX, .inr (0, [.ref aX, .int (nI X.length)])), (aX, .inl (cA, 120, .inl fX)), (oY, .inr (0, [.ref aY, .int (nI (([] : List Int32).length))])), (aY, .inl (cA, 400, .inl fY)), (o8, .inr (1, [.int s8, .int t8])), (o6, .inr (2, [.int s6, .int t6])), (oT, .inr (3, [.int lat, .int lva, .int lpl, .int lbi, .int lfi]))] := hD.sub [0, 1, 2, 3, 4, 5, 6, 7, 8, 9, 10, 14, 15, 11, 12, 13] (by decide) rfl
  refine lv_aload_n hx hb dSc_toLetters_7 rfl (lv_at hl 0 rfl) ?_
  refine va_get (D := D) (ci := 4) (v := .ref oT) (C := R_Sc) (T := T_Sc) (N := 9) hx hb hw in_Sc hown hK hP 0 rfl rfl 8 (by decide) (hw _ w_97) (fun _ h9 => h9) rfl dSc_toLetters_8 ?_
  refine lv_aload_n hx hb dSc_toLetters_11 rfl (lv_at hl 0 rfl) ?_
  refine va_get (D := D) (ci := 4) (v := .ref oL) (C := R_Sc) (T := T_Sc) (N := 9) hx hb hw in_Sc hown hK hP 0 rfl rfl 1 (by decide) (hw _ w_90) (fun _ h9 => h9) rfl dSc_toLetters_12 ?_
  refine lv_aload_n hx hb dSc_toLetters_15 rfl (lv_at hl 0 rfl) ?_
  refine va_get (D := D) (ci := 4) (v := .ref oY) (C := R_Sc) (T := T_Sc) (N := 9) hx hb hw in_Sc hown hK hP 0 rfl rfl 5 (by decide) (hw _ w_94) (fun _ h9 => h9) rfl dSc_toLetters_16 ?_
  refine ca_i (wr := [(o, .inr (4, [.ref oI, .ref oL, .ref oO, .ref oK, .ref oX, .ref oY, .ref o8, .ref o6, .ref oT])), (oI, .inr (0, [.ref aI, .int (nI I.length)])), (aI, .inl (cA, 120, .inl fI)), (oO, .inr (0, [.ref aO, .int (nI O.length)])), (aO, .inl (cA, 400, .inl fO)), (oK, .inr (0, [.ref aK, .int (nI K.length)])), (aK, .inl (cA, 120, .inl fK)), (oX, .inr (0, [.ref aX, .int (nI X.length)])), (aX, .inl (cA, 120, .inl fX)), (o8, .inr (1, [.int s8, .int t8])), (o6, .inr (2, [.int s6, .int t6]))]) (va_runV (As := [.ref oL, .ref oY]) (rest := []) Xf (k_Le_writeAll l D cA _ oT lat lva lpl lbi lfi oL aL M fL oY aY fY hfL hcL hMb) ⟨cb_of 2 hw w_300 w_6 w_297 (by decide +kernel) (by rw [hR]; exact ⟨Nat.le_of_ble_eq_true rfl, Nat.le_of_ble_eq_true rfl⟩), hw _ w_298, hw _ w_299⟩ (pre_V (As := [.ref oL, .ref oY]) hP hD hK hn [15, 3, 4, 11, 12] rfl (by decide) 15 3 rfl rfl) rfl rfl hl.1 rfl (lv_room (Nat.le_of_ble_eq_true rfl)) dSc_toLetters_19 ⟨Nat.zero_le _, Nat.zero_le _⟩) hP hD hS hA [15, 3, 4, 11, 12] [0, 1, 2, 5, 6, 7, 8, 9, 10, 13, 14] rfl rfl (by decide) (by decide) (fun r19 u_ H locs hq_ hP hD hS => ?_)
  obtain ⟨L1, f1, lva_1, lpl_1, lbi_1, lfi_1⟩ := u_
  dsimp only at hq_ hP hD
  rcases hq_ with ⟨hlt_1, rfl, hL_, hf1⟩ | ⟨hlt_1, rfl, hL_, hf1⟩
  · skip
    subst L1
    replace hP : va_P D vwCl [(o, .inr (4, [.ref oI, .ref oL, .ref oO, .ref oK, .ref oX, .ref oY, .ref o8, .ref o6, .ref oT])), (oI, .inr (0, [.ref aI, .int (nI I.length)])), (aI, .inl (cA, 120, .inl fI)), (oL, .inr (0, [.ref aL, .int (nI ((M.map nI).length))])), (aL, .inl (cA, 120, .inl fL)), (oO, .inr (0, [.ref aO, .int (nI O.length)])), (aO, .inl (cA, 400, .inl fO)), (oK, .inr (0, [.ref aK, .int (nI K.length)])), (aK, .inl (cA, 120, .inl fK)), (oX, .inr (0, [.ref aX, .int (nI X.length)])), (aX, .inl (cA, 120, .inl fX)), (oY, .inr (0, [.ref aY, .int (nI (((wlS M).map nI).length))])), (aY, .inl (cA, 400, .inl f1)), (o8, .inr (1, [.int s8, .int t8])), (o6, .inr (2, [.int s6, .int t6])), (oT, .inr (3, [.int lat, .int lva_1, .int lpl_1, .int lbi_1, .int lfi_1]))] H := hP.sub [0, 1, 2, 12, 13, 3, 4, 5, 6, 7, 8, 14, 15, 9, 10, 11] rfl
    replace hD : va_D A [(o, .inr (4, [.ref oI, .ref oL, .ref oO, .ref oK, .ref oX, .ref oY, .ref o8, .ref o6, .ref oT])), (oI, .inr (0, [.ref aI, .int (nI I.length)])), (aI, .inl (cA, 120, .inl fI)), (oL, .inr (0, [.ref aL, .int (nI ((M.map nI).length))])), (aL, .inl (cA, 120, .inl fL)), (oO, .inr (0, [.ref aO, .int (nI O.length)])), (aO, .inl (cA, 400, .inl fO)), (oK, .inr (0, [.ref aK, .int (nI K.length)])), (aK, .inl (cA, 120, .inl fK)), (oX, .inr (0, [.ref aX, .int (nI X.length)])), (aX, .inl (cA, 120, .inl fX)), (oY, .inr (0, [.ref aY, .int (nI (((wlS M).map nI).length))])), (aY, .inl (cA, 400, .inl f1)), (o8, .inr (1, [.int s8, .int t8])), (o6, .inr (2, [.int s6, .int t6])), (oT, .inr (3, [.int lat, .int lva_1, .int lpl_1, .int lbi_1, .int lfi_1]))] := hD.sub [0, 1, 2, 12, 13, 3, 4, 5, 6, 7, 8, 14, 15, 9, 10, 11] (by decide) rfl
    refine lv_if_eq (tgt := 32) hx hb dSc_toLetters_22 (by decide) (fun h22 => ?_) (fun h22 => ?_)
    · skip
      exact absurd h22 (by decide)
    · skip
      refine lv_aload_n hx hb dSc_toLetters_25 rfl (lv_at hl 0 rfl) ?_
      refine ca_i (wr := []) (va_runV (As := []) (rest := []) Xf (k_Sc_takeNewOutput l D cA _ o oI aI oL aL oO aO oK aK oX aX oY aY o8 o6 oT I (M.map nI) O K X ((wlS M).map nI) fI fL fO fK fX f1 s8 t8 s6 t6 lat lva_1 lpl_1 lbi_1 lfi_1 hfI hcI hfL hcL hfO hcO hfK hcK hfX hcX hf1 (by simp only [List.length_map]; exact hlt_1)) ⟨cb_of 0 hw w_288 w_1 w_285 (by decide +kernel) (by rw [hR]; exact ⟨Nat.le_of_ble_eq_true rfl, Nat.le_of_ble_eq_true rfl⟩), hw _ w_287, hw _ ws_10⟩ (pre_V (As := []) hP hD hK hn [0, 1, 2, 3, 4, 5, 6, 7, 8, 9, 10, 11, 12, 13, 14, 15] rfl (by decide) 0 4 rfl rfl) rfl rfl hl.1 rfl (lv_room (Nat.le_of_ble_eq_true rfl)) dSc_toLetters_26 ⟨Nat.zero_le _, Nat.zero_le _⟩) hP hD hS hA [0, 1, 2, 3, 4, 5, 6, 7, 8, 9, 10, 11, 12, 13, 14, 15] [] rfl rfl (by decide) (by decide) (fun r26 u_ H locs hq_ hP hD hS => ?_)
      obtain ⟨O2, fO2⟩ := u_
      dsimp only at hq_ hP hD
      obtain ⟨rfl, hO_, hfO2⟩ := hq_
      subst O2
      replace hP : va_P D vwCl [(o, .inr (4, [.ref oI, .ref oL, .ref oO, .ref oK, .ref oX, .ref oY, .ref o8, .ref o6, .ref oT])), (oI, .inr (0, [.ref aI, .int (nI I.length)])), (aI, .inl (cA, 120, .inl fI)), (oL, .inr (0, [.ref aL, .int (nI ((M.map nI).length))])), (aL, .inl (cA, 120, .inl fL)), (oO, .inr (0, [.ref aO, .int (nI (((wlS M).map nI).length))])), (aO, .inl (cA, 400, .inl fO2)), (oK, .inr (0, [.ref aK, .int (nI K.length)])), (aK, .inl (cA, 120, .inl fK)), (oX, .inr (0, [.ref aX, .int (nI X.length)])), (aX, .inl (cA, 120, .inl fX)), (oY, .inr (0, [.ref aY, .int (nI (((wlS M).map nI).length))])), (aY, .inl (cA, 400, .inl f1)), (o8, .inr (1, [.int s8, .int t8])), (o6, .inr (2, [.int s6, .int t6])), (oT, .inr (3, [.int lat, .int lva_1, .int lpl_1, .int lbi_1, .int lfi_1]))] H := hP.sub [0, 1, 2, 3, 4, 5, 6, 7, 8, 9, 10, 11, 12, 13, 14, 15] rfl
      replace hD : va_D A [(o, .inr (4, [.ref oI, .ref oL, .ref oO, .ref oK, .ref oX, .ref oY, .ref o8, .ref o6, .ref oT])), (oI, .inr (0, [.ref aI, .int (nI I.length)])), (aI, .inl (cA, 120, .inl fI)), (oL, .inr (0, [.ref aL, .int (nI ((M.map nI).length))])), (aL, .inl (cA, 120, .inl fL)), (oO, .inr (0, [.ref aO, .int (nI (((wlS M).map nI).length))])), (aO, .inl (cA, 400, .inl fO2)), (oK, .inr (0, [.ref aK, .int (nI K.length)])), (aK, .inl (cA, 120, .inl fK)), (oX, .inr (0, [.ref aX, .int (nI X.length)])), (aX, .inl (cA, 120, .inl fX)), (oY, .inr (0, [.ref aY, .int (nI (((wlS M).map nI).length))])), (aY, .inl (cA, 400, .inl f1)), (o8, .inr (1, [.int s8, .int t8])), (o6, .inr (2, [.int s6, .int t6])), (oT, .inr (3, [.int lat, .int lva_1, .int lpl_1, .int lbi_1, .int lfi_1]))] := hD.sub [0, 1, 2, 3, 4, 5, 6, 7, 8, 9, 10, 11, 12, 13, 14, 15] (by decide) rfl
      refine lv_goto (tgt := 33) hx hb dSc_toLetters_29 (by decide) ?_
      exact ret (((wlS M).map nI), fO2, ((wlS M).map nI), f1, lva_1, lpl_1, lbi_1, lfi_1) dSc_toLetters_33 rfl ⟨by unfold spX; rw [if_pos hlt_1, List.length_map], by unfold spX; rw [if_pos hlt_1], hfO2, by rw [List.length_map]; exact hlt_1, hf1, by rw [List.length_map]; exact hlt_1⟩ hP hD hS
  · skip
    replace hP : va_P D vwCl [(o, .inr (4, [.ref oI, .ref oL, .ref oO, .ref oK, .ref oX, .ref oY, .ref o8, .ref o6, .ref oT])), (oI, .inr (0, [.ref aI, .int (nI I.length)])), (aI, .inl (cA, 120, .inl fI)), (oL, .inr (0, [.ref aL, .int (nI ((M.map nI).length))])), (aL, .inl (cA, 120, .inl fL)), (oO, .inr (0, [.ref aO, .int (nI O.length)])), (aO, .inl (cA, 400, .inl fO)), (oK, .inr (0, [.ref aK, .int (nI K.length)])), (aK, .inl (cA, 120, .inl fK)), (oX, .inr (0, [.ref aX, .int (nI X.length)])), (aX, .inl (cA, 120, .inl fX)), (oY, .inr (0, [.ref aY, .int (nI L1.length)])), (aY, .inl (cA, 400, .inl f1)), (o8, .inr (1, [.int s8, .int t8])), (o6, .inr (2, [.int s6, .int t6])), (oT, .inr (3, [.int lat, .int lva_1, .int lpl_1, .int lbi_1, .int lfi_1]))] H := hP.sub [0, 1, 2, 12, 13, 3, 4, 5, 6, 7, 8, 14, 15, 9, 10, 11] rfl
    replace hD : va_D A [(o, .inr (4, [.ref oI, .ref oL, .ref oO, .ref oK, .ref oX, .ref oY, .ref o8, .ref o6, .ref oT])), (oI, .inr (0, [.ref aI, .int (nI I.length)])), (aI, .inl (cA, 120, .inl fI)), (oL, .inr (0, [.ref aL, .int (nI ((M.map nI).length))])), (aL, .inl (cA, 120, .inl fL)), (oO, .inr (0, [.ref aO, .int (nI O.length)])), (aO, .inl (cA, 400, .inl fO)), (oK, .inr (0, [.ref aK, .int (nI K.length)])), (aK, .inl (cA, 120, .inl fK)), (oX, .inr (0, [.ref aX, .int (nI X.length)])), (aX, .inl (cA, 120, .inl fX)), (oY, .inr (0, [.ref aY, .int (nI L1.length)])), (aY, .inl (cA, 400, .inl f1)), (o8, .inr (1, [.int s8, .int t8])), (o6, .inr (2, [.int s6, .int t6])), (oT, .inr (3, [.int lat, .int lva_1, .int lpl_1, .int lbi_1, .int lfi_1]))] := hD.sub [0, 1, 2, 12, 13, 3, 4, 5, 6, 7, 8, 14, 15, 9, 10, 11] (by decide) rfl
    refine lv_if_eq (tgt := 32) hx hb dSc_toLetters_22 (by decide) (fun h22 => ?_) (fun h22 => ?_)
    · skip
      refine lv_iconst (v := (-1)) hx hb dSc_toLetters_32 (by decide) ?_
      have hng : ¬ (wlS M).length ≤ 400 := by omega
      exact ret (O, fO, L1, f1, lva_1, lpl_1, lbi_1, lfi_1) dSc_toLetters_33 rfl ⟨by unfold spX; rw [if_neg hng], by unfold spX; rw [if_neg hng], hfO, hcO, hf1, hL_⟩ hP hD hS
    · skip
      exact absurd h22 (by decide)
