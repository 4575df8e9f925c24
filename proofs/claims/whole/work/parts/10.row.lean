set_option maxHeartbeats 4000000 in
set_option maxRecDepth 100000 in
theorem k_Row_clear (l : Launch) (D : va_G) (cA : ClassId) (sz : Nat) (h a N : Nat) (L : List Int32) (f : Nat → Int32)  : KV l D cA y_Row_clear c_Row_clear 1 0 0 [.ref h] sz [(h, .inr (0, [.ref a, .int (nI L.length)])), (a, .inl (cA, N, .inl f))] (S := Unit) (fun _ => True) (fun _ => [(h, .inr (0, [.ref a, .int (nI (([] : List Int32).length))])), (a, .inl (cA, N, .inl f))]) := by
  refine KV.of (by decide) (Nat.le_of_ble_eq_true rfl) ?_
  intro p e s m args below meth c Q R A ls Xf hR hA hS hP hD hK hn hl ret
  have hx := Xf.1
  have hb := Xf.2.1
  have hown : s.vm.findClass "ScalarScribe$Row" = some m.cls := Xf.2.2.2.1
  have hw := Xf.2.2.2.2
  have hl : lv_has ls 1 [(0, .ref h)] := hl
  refine lv_aload_n hx hb dRow_clear_0 rfl (lv_at hl 0 rfl) ?_
  refine lv_iconst (v := nI 0) hx hb dRow_clear_1 (by decide) ?_
  refine va_put (D := D) (ci := 0) (v := .int (nI 0)) (ty := .int) (C := R_Row) (T := T_Row) (N := 2) hx hb hw in_Row ty_Row ty_Row_ok nm_Row hown hK hP hD hS 0 rfl rfl 1 (by decide) (hw _ w_25) (fun _ h9 => h9) rfl (by decide +kernel) rfl rfl (Nat.le_of_ble_eq_true rfl) dRow_clear_2 (fun H locs hP hD hS => ?_)
  have hP : va_P D vwCl [(h, .inr (0, [.ref a, .int (nI 0)])), (a, .inl (cA, N, .inl f))] H := hP
  have hD : va_D A [(h, .inr (0, [.ref a, .int (nI 0)])), (a, .inl (cA, N, .inl f))] := hD
  exact ret () dRow_clear_5 trivial hP hD hS
set_option maxHeartbeats 4000000 in
set_option maxRecDepth 100000 in
theorem k_Row_unitAt (l : Launch) (D : va_G) (cA : ClassId) (sz : Nat) (h a N : Nat) (L : List Int32) (f : Nat → Int32) (i : Int32) (hf : Hd f L) (hc : L.length ≤ N) (hN : N < 2 ^ 31) : KI l D cA y_Row_unitAt c_Row_unitAt 2 .int 0 0 [.ref h, .int i] sz [(h, .inr (0, [.ref a, .int (nI L.length)])), (a, .inl (cA, N, .inl f))] (S := Unit) (fun r _ => r = gt L i) (fun _ => [(h, .inr (0, [.ref a, .int (nI L.length)])), (a, .inl (cA, N, .inl f))]) := by
  refine KI.of (by decide) (Nat.le_of_ble_eq_true rfl) ?_
  intro p e s m args below meth c Q R A ls Xf hR hA hS hP hD hK hn hl ret
  have hx := Xf.1
  have hb := Xf.2.1
  have hown : s.vm.findClass "ScalarScribe$Row" = some m.cls := Xf.2.2.2.1
  have hw := Xf.2.2.2.2
  have hl : lv_has ls 2 [(0, .ref h), (1, .int i)] := hl
  refine lv_iload_n hx hb dRow_unitAt_0 rfl (lv_at hl 1 rfl) ?_
  refine lv_if_lt (tgt := 21) hx hb dRow_unitAt_1 (by decide) (fun h1 => ?_) (fun h1 => ?_)
  · skip
    refine lv_iconst (v := (-1)) hx hb dRow_unitAt_21 (by decide) ?_
    exact ret () dRow_unitAt_22 rfl (gt_lo h1) hP hD hS
  · skip
    refine lv_iload_n hx hb dRow_unitAt_4 rfl (lv_at hl 1 rfl) ?_
    refine lv_aload_n hx hb dRow_unitAt_5 rfl (lv_at hl 0 rfl) ?_
    refine va_get (D := D) (ci := 0) (v := .int (nI L.length)) (C := R_Row) (T := T_Row) (N := 2) hx hb hw in_Row hown hK hP 0 rfl rfl 1 (by decide) (hw _ w_25) (fun _ h9 => h9) rfl dRow_unitAt_6 ?_
    refine lv_icmp_ge (tgt := 21) hx hb dRow_unitAt_9 (by decide) (fun h9 => ?_) (fun h9 => ?_)
    · skip
      refine lv_iconst (v := (-1)) hx hb dRow_unitAt_21 (by decide) ?_
      exact ret () dRow_unitAt_22 rfl (gt_hi h9) hP hD hS
    · skip
      refine lv_aload_n hx hb dRow_unitAt_12 rfl (lv_at hl 0 rfl) ?_
      refine va_get (D := D) (ci := 0) (v := .ref a) (C := R_Row) (T := T_Row) (N := 2) hx hb hw in_Row hown hK hP 0 rfl rfl 0 (by decide) (hw _ w_24) (fun _ h9 => h9) rfl dRow_unitAt_13 ?_
      refine lv_iload_n hx hb dRow_unitAt_16 rfl (lv_at hl 1 rfl) ?_
      refine va_iald hx hb hK hP 1 0 rfl rfl (gt_vin hc hN h1 h9) dRow_unitAt_17 ?_
      refine lv_goto (tgt := 22) hx hb dRow_unitAt_18 (by decide) ?_
      exact ret () dRow_unitAt_22 rfl (gt_in hf (by omega) h1 h9) hP hD hS
set_option maxHeartbeats 4000000 in
set_option maxRecDepth 100000 in
theorem k_Row_insert (l : Launch) (D : va_G) (cA : ClassId) (sz : Nat) (h a N : Nat) (L : List Int32) (f : Nat → Int32) (j : Nat) (x : Int32) (hf : Hd f L) (hc : L.length ≤ N) (hN : N < 2 ^ 31) (hj : j ≤ L.length) : KI l D cA y_Row_insert c_Row_insert 4 .boolean 0 0 [.ref h, .int (nI j), .int x] sz [(h, .inr (0, [.ref a, .int (nI L.length)])), (a, .inl (cA, N, .inl f))] (S := List Int32 × (Nat → Int32)) (fun r u => (L.length < N ∧ r = 1 ∧ u.1 = L.insertIdx j x ∧ Hd u.2 u.1) ∨ (N ≤ L.length ∧ r = 0 ∧ u.1 = L ∧ Hd u.2 u.1)) (fun u => [(h, .inr (0, [.ref a, .int (nI u.1.length)])), (a, .inl (cA, N, .inl u.2))]) := by
  refine KI.of (by decide) (Nat.le_of_ble_eq_true rfl) ?_
  intro p e s m args below meth c Q R A ls Xf hR hA hS hP hD hK hn hl ret
  have hx := Xf.1
  have hb := Xf.2.1
  have hown : s.vm.findClass "ScalarScribe$Row" = some m.cls := Xf.2.2.2.1
  have hw := Xf.2.2.2.2
  have hl : lv_has ls 4 [(0, .ref h), (1, .int (nI j)), (2, .int x)] := hl
  refine lv_aload_n hx hb dRow_insert_0 rfl (lv_at hl 0 rfl) ?_
  refine va_get (D := D) (ci := 0) (v := .int (nI L.length)) (C := R_Row) (T := T_Row) (N := 2) hx hb hw in_Row hown hK hP 0 rfl rfl 1 (by decide) (hw _ w_25) (fun _ h9 => h9) rfl dRow_insert_1 ?_
  refine lv_aload_n hx hb dRow_insert_4 rfl (lv_at hl 0 rfl) ?_
  refine va_get (D := D) (ci := 0) (v := .ref a) (C := R_Row) (T := T_Row) (N := 2) hx hb hw in_Row hown hK hP 0 rfl rfl 0 (by decide) (hw _ w_24) (fun _ h9 => h9) rfl dRow_insert_5 ?_
  refine va_alen hx hb hK hP 1 0 rfl rfl (v := nI N) rfl dRow_insert_8 ?_
  refine lv_icmp_ge (tgt := 24) hx hb dRow_insert_9 (by decide) (fun h9 => ?_) (fun h9 => ?_)
  · skip
    replace h9 := nt_le (a := N) (b := L.length) (by omega) (by omega) h9
    refine lv_iconst (v := nI 0) hx hb dRow_insert_24 (by decide) ?_
    exact ret (L, f) dRow_insert_25 rfl (Or.inr ⟨h9, rfl, rfl, hf⟩) hP hD hS
  · skip
    replace h9 := nt_nle (a := N) (b := L.length) (by omega) (by omega) h9
    refine lv_iload_n hx hb dRow_insert_12 rfl (lv_at hl 1 rfl) ?_
    refine lv_if_lt (tgt := 24) hx hb dRow_insert_13 (by decide) (fun h13 => ?_) (fun h13 => ?_)
    · skip
      exact absurd h13 (nI_pos (by omega))
    · skip
      refine lv_iload_n hx hb dRow_insert_16 rfl (lv_at hl 1 rfl) ?_
      refine lv_aload_n hx hb dRow_insert_17 rfl (lv_at hl 0 rfl) ?_
      refine va_get (D := D) (ci := 0) (v := .int (nI L.length)) (C := R_Row) (T := T_Row) (N := 2) hx hb hw in_Row hown hK hP 0 rfl rfl 1 (by decide) (hw _ w_25) (fun _ h9 => h9) rfl dRow_insert_18 ?_
      refine lv_icmp_le (tgt := 26) hx hb dRow_insert_21 (by decide) (fun h21 => ?_) (fun h21 => ?_)
      · skip
        refine lv_aload_n hx hb dRow_insert_26 rfl (lv_at hl 0 rfl) ?_
        refine va_get (D := D) (ci := 0) (v := .int (nI L.length)) (C := R_Row) (T := T_Row) (N := 2) hx hb hw in_Row hown hK hP 0 rfl rfl 1 (by decide) (hw _ w_25) (fun _ h9 => h9) rfl dRow_insert_27 ?_
        refine lv_istore_n (lv' := [(3, .int (nI L.length)), (0, .ref h), (1, .int (nI j)), (2, .int x)]) hx hb dRow_insert_30 rfl hl (by decide) rfl (fun ls hl => ?_)
        have hP : va_P D vwCl [(h, .inr (0, [.ref a, .int (nI L.length)])), (a, .inl (cA, N, .inl (sh f L.length L.length)))] s.heap := by rw [sh_0]; exact hP
        have hD : va_D A [(h, .inr (0, [.ref a, .int (nI L.length)])), (a, .inl (cA, N, .inl (sh f L.length L.length)))] := by rw [sh_0]; exact hD
        have loop1 : ∀ (n_ : Nat) (i : Nat) (ls : Array Slot) (H : Heap) (locs : List Loc), i < n_ → j ≤ i → i ≤ L.length → lv_has ls 4 [(3, .int (nI i)), (0, .ref h), (1, .int (nI j)), (2, .int x)] → va_P D vwCl [(h, .inr (0, [.ref a, .int (nI L.length)])), (a, .inl (cA, N, .inl (sh f i L.length)))] H → va_D A [(h, .inr (0, [.ref a, .int (nI L.length)])), (a, .inl (cA, N, .inl (sh f i L.length)))] → va_S A s.heap H locs → W p l e R s m args below meth c H locs 0 0 Q (F0 m 31 ls []) := by
          intro n_
          induction n_ with
          | zero => intro i ls H locs hm_; exact absurd hm_ (Nat.not_lt_zero _)
          | succ n_ ih_loop1 =>
            intro i ls H locs hm_ h1 h2 hl hP hD hS
            refine lv_iload_n hx hb dRow_insert_31 rfl (lv_at hl 0 rfl) ?_
            refine lv_iload_n hx hb dRow_insert_32 rfl (lv_at hl 2 rfl) ?_
            refine lv_icmp_le (tgt := 56) hx hb dRow_insert_33 (by decide) (fun h33 => ?_) (fun h33 => ?_)
            · skip
              replace h33 := nt_le (a := i) (b := j) (by omega) (by omega) h33
              obtain rfl : i = j := by omega
              refine lv_aload_n hx hb dRow_insert_56 rfl (lv_at hl 1 rfl) ?_
              refine va_get (D := D) (ci := 0) (v := .ref a) (C := R_Row) (T := T_Row) (N := 2) hx hb hw in_Row hown hK hP 0 rfl rfl 0 (by decide) (hw _ w_24) (fun _ h9 => h9) rfl dRow_insert_57 ?_
              refine lv_iload_n hx hb dRow_insert_60 rfl (lv_at hl 2 rfl) ?_
              refine lv_iload_n hx hb dRow_insert_61 rfl (lv_at hl 3 rfl) ?_
              refine va_iast hx hb hK hP hD hS 1 0 rfl rfl (vp_in_nI (by omega) (by omega)) dRow_insert_62 (fun H locs hP hD hS => ?_)
              rw [nI_clamp (by omega)] at hP hD
              have hP : va_P D vwCl [(h, .inr (0, [.ref a, .int (nI L.length)])), (a, .inl (cA, N, .inl (upd (sh f i L.length) i x)))] H := hP
              have hD : va_D A [(h, .inr (0, [.ref a, .int (nI L.length)])), (a, .inl (cA, N, .inl (upd (sh f i L.length) i x)))] := hD
              refine lv_aload_n hx hb dRow_insert_63 rfl (lv_at hl 1 rfl) ?_
              refine lv_dup hx hb dRow_insert_64 rfl ?_
              refine va_get (D := D) (ci := 0) (v := .int (nI L.length)) (C := R_Row) (T := T_Row) (N := 2) hx hb hw in_Row hown hK hP 0 rfl rfl 1 (by decide) (hw _ w_25) (fun _ h9 => h9) rfl dRow_insert_65 ?_
              refine lv_iconst (v := nI 1) hx hb dRow_insert_68 (by decide) ?_
              refine lv_iadd hx hb dRow_insert_69 ?_
              refine lv_rei (y := nI (L.length + 1)) (nI_1 _) ?_
              refine va_put (D := D) (ci := 0) (v := .int (nI (L.length + 1))) (ty := .int) (C := R_Row) (T := T_Row) (N := 2) hx hb hw in_Row ty_Row ty_Row_ok nm_Row hown hK hP hD hS 0 rfl rfl 1 (by decide) (hw _ w_25) (fun _ h9 => h9) rfl (by decide +kernel) rfl rfl (Nat.le_of_ble_eq_true rfl) dRow_insert_70 (fun H locs hP hD hS => ?_)
              have hP : va_P D vwCl [(h, .inr (0, [.ref a, .int (nI (L.length + 1))])), (a, .inl (cA, N, .inl (upd (sh f i L.length) i x)))] H := hP
              have hD : va_D A [(h, .inr (0, [.ref a, .int (nI (L.length + 1))])), (a, .inl (cA, N, .inl (upd (sh f i L.length) i x)))] := hD
              refine lv_iconst (v := nI 1) hx hb dRow_insert_73 (by decide) ?_
              have e_ : (L.insertIdx i x).length = L.length + 1 := List.length_insertIdx_of_le_length hj _
              rw [← e_] at hP hD
              exact ret (L.insertIdx i x, upd (sh f i L.length) i x) dRow_insert_74 rfl (Or.inl ⟨h9, rfl, rfl, Hd_ins hf hj⟩) hP hD hS
            · skip
              replace h33 := nt_nle (a := i) (b := j) (by omega) (by omega) h33
              obtain ⟨i, rfl⟩ : ∃ k, i = k + 1 := ⟨i - 1, by omega⟩
              refine lv_aload_n hx hb dRow_insert_36 rfl (lv_at hl 1 rfl) ?_
              refine va_get (D := D) (ci := 0) (v := .ref a) (C := R_Row) (T := T_Row) (N := 2) hx hb hw in_Row hown hK hP 0 rfl rfl 0 (by decide) (hw _ w_24) (fun _ h9 => h9) rfl dRow_insert_37 ?_
              refine lv_iload_n hx hb dRow_insert_40 rfl (lv_at hl 0 rfl) ?_
              refine lv_aload_n hx hb dRow_insert_41 rfl (lv_at hl 1 rfl) ?_
              refine va_get (D := D) (ci := 0) (v := .ref a) (C := R_Row) (T := T_Row) (N := 2) hx hb hw in_Row hown hK hP 0 rfl rfl 0 (by decide) (hw _ w_24) (fun _ h9 => h9) rfl dRow_insert_42 ?_
              refine lv_iload_n hx hb dRow_insert_45 rfl (lv_at hl 0 rfl) ?_
              refine lv_iconst (v := nI 1) hx hb dRow_insert_46 (by decide) ?_
              refine lv_isub hx hb dRow_insert_47 ?_
              refine lv_rei (y := nI i) (nI_pred _) ?_
              refine va_iald hx hb hK hP 1 0 rfl rfl (vp_in_nI (by omega) (by omega)) dRow_insert_48 ?_
              refine lv_rei (y := (sh f (i + 1) L.length) i) (by rw [nI_clamp (by omega)]) ?_
              refine va_iast hx hb hK hP hD hS 1 0 rfl rfl (vp_in_nI (by omega) (by omega)) dRow_insert_49 (fun H locs hP hD hS => ?_)
              rw [nI_clamp (by omega)] at hP hD
              have hP : va_P D vwCl [(h, .inr (0, [.ref a, .int (nI L.length)])), (a, .inl (cA, N, .inl (upd (sh f (i + 1) L.length) (i + 1) ((sh f (i + 1) L.length) i))))] H := hP
              have hD : va_D A [(h, .inr (0, [.ref a, .int (nI L.length)])), (a, .inl (cA, N, .inl (upd (sh f (i + 1) L.length) (i + 1) ((sh f (i + 1) L.length) i))))] := hD
              rw [sh_s (by omega)] at hP hD
              refine lv_iinc (k := 0) (v := nI i) (lv' := [(3, .int (nI i)), (0, .ref h), (1, .int (nI j)), (2, .int x)]) hx hb dRow_insert_50 hl rfl (pk_m1 _) (by decide) rfl (fun ls hl => ?_)
              refine lv_goto (tgt := 31) hx hb dRow_insert_53 (by decide) ?_
              exact ih_loop1 i _ _ _ (by omega) (by omega) (by omega) (lv_sub hl [0, 1, 2, 3] rfl) hP hD hS
        exact loop1 _ L.length _ _ _ (Nat.lt_succ_self _) hj (Nat.le_refl _) (lv_sub hl [0, 1, 2, 3] rfl) hP hD hS
      · skip
        exact absurd ((nI_leI (by omega) (by omega)).mpr hj) h21
set_option maxHeartbeats 4000000 in
set_option maxRecDepth 100000 in
theorem k_Row_add (l : Launch) (D : va_G) (cA : ClassId) (sz : Nat) (h a N : Nat) (L : List Int32) (f : Nat → Int32) (x : Int32) (hf : Hd f L) (hc : L.length ≤ N) (hN : N < 2 ^ 31) : KI l D cA y_Row_add c_Row_add 2 .boolean 1 23 [.ref h, .int x] sz [(h, .inr (0, [.ref a, .int (nI L.length)])), (a, .inl (cA, N, .inl f))] (S := List Int32 × (Nat → Int32)) (fun r u => (L.length < N ∧ r = 1 ∧ u.1 = L ++ [x] ∧ Hd u.2 u.1) ∨ (N ≤ L.length ∧ r = 0 ∧ u.1 = L ∧ Hd u.2 u.1)) (fun u => [(h, .inr (0, [.ref a, .int (nI u.1.length)])), (a, .inl (cA, N, .inl u.2))]) := by
  refine KI.of (by decide) (Nat.le_of_ble_eq_true rfl) ?_
  intro p e s m args below meth c Q R A ls Xf hR hA hS hP hD hK hn hl ret
  have hx := Xf.1
  have hb := Xf.2.1
  have hown : s.vm.findClass "ScalarScribe$Row" = some m.cls := Xf.2.2.2.1
  have hw := Xf.2.2.2.2
  have hl : lv_has ls 2 [(0, .ref h), (1, .int x)] := hl
  refine lv_aload_n hx hb dRow_add_0 rfl (lv_at hl 0 rfl) ?_
  refine lv_aload_n hx hb dRow_add_1 rfl (lv_at hl 0 rfl) ?_
  refine va_get (D := D) (ci := 0) (v := .int (nI L.length)) (C := R_Row) (T := T_Row) (N := 2) hx hb hw in_Row hown hK hP 0 rfl rfl 1 (by decide) (hw _ w_25) (fun _ h9 => h9) rfl dRow_add_2 ?_
  refine lv_iload_n hx hb dRow_add_5 rfl (lv_at hl 1 rfl) ?_
  refine ca_i (wr := []) (va_runV (As := [.int (nI L.length), .int x]) (rest := []) Xf (k_Row_insert l D cA _ h a N L f L.length x hf hc hN (by omega)) ⟨cb_of 2 hw w_128 w_2 w_125 (by decide +kernel) (by rw [hR]; exact ⟨Nat.le_of_ble_eq_true rfl, Nat.le_of_ble_eq_true rfl⟩), hw _ w_126, hw _ w_127⟩ (pre_V (As := [.int (nI L.length), .int x]) hP hD hK hn [0, 1] rfl (by decide) 0 0 rfl rfl) rfl rfl hl.1 rfl (lv_room (Nat.le_of_ble_eq_true rfl)) dRow_add_6 ⟨Nat.zero_le _, Nat.zero_le _⟩) hP hD hS hA [0, 1] [] rfl rfl (by decide) (by decide) (fun r6 u_ H locs hq_ hP hD hS => ?_)
  obtain ⟨L1, f1⟩ := u_
  dsimp only at hq_ hP hD
  rcases hq_ with ⟨hlt_1, rfl, hL_, hf1⟩ | ⟨hlt_1, rfl, hL_, hf1⟩
  · skip
    subst L1
    try simp only [List.length_append, List.length_singleton, List.length_nil, List.length_map, List.length_cons] at hlt_1
    replace hP : va_P D vwCl [(h, .inr (0, [.ref a, .int (nI ((L.insertIdx L.length x).length))])), (a, .inl (cA, N, .inl f1))] H := hP.sub [0, 1] rfl
    replace hD : va_D A [(h, .inr (0, [.ref a, .int (nI ((L.insertIdx L.length x).length))])), (a, .inl (cA, N, .inl f1))] := hD.sub [0, 1] (by decide) rfl
    exact ret (L ++ [x], f1) dRow_add_9 rfl (Or.inl ⟨hlt_1, rfl, rfl, by rw [← ins_end]; exact hf1⟩) (by rw [← ins_end]; exact hP) (by rw [← ins_end]; exact hD) hS
  · skip
    subst L1
    try simp only [List.length_append, List.length_singleton, List.length_nil, List.length_map, List.length_cons] at hlt_1
    replace hP : va_P D vwCl [(h, .inr (0, [.ref a, .int (nI L.length)])), (a, .inl (cA, N, .inl f1))] H := hP.sub [0, 1] rfl
    replace hD : va_D A [(h, .inr (0, [.ref a, .int (nI L.length)])), (a, .inl (cA, N, .inl f1))] := hD.sub [0, 1] (by decide) rfl
    exact ret (L, f1) dRow_add_9 rfl (Or.inr ⟨hlt_1, rfl, rfl, hf1⟩) hP hD hS
set_option maxHeartbeats 4000000 in
set_option maxRecDepth 100000 in
theorem k_Row_become (l : Launch) (D : va_G) (cA : ClassId) (sz : Nat) (h a N : Nat) (L : List Int32) (f : Nat → Int32) (g b M : Nat) (K : List Int32) (q : Nat → Int32) (hf : Hd f L) (hc : L.length ≤ N) (hN : N < 2 ^ 31) (hq : Hd q K) (hcK : K.length ≤ M) (hM : M < 2 ^ 31) : KI l D cA y_Row_become c_Row_become 2 .boolean 1 26 [.ref h, .ref g] sz [(h, .inr (0, [.ref a, .int (nI L.length)])), (a, .inl (cA, N, .inl f)), (g, .inr (0, [.ref b, .int (nI K.length)])), (b, .inl (cA, M, .inl q))] (S := List Int32 × (Nat → Int32)) (fun r u => (K.length ≤ N ∧ r = 1 ∧ u.1 = K ∧ Hd u.2 u.1) ∨ (N < K.length ∧ r = 0 ∧ u.1 = L ∧ Hd u.2 u.1)) (fun u => [(h, .inr (0, [.ref a, .int (nI u.1.length)])), (a, .inl (cA, N, .inl u.2)), (g, .inr (0, [.ref b, .int (nI K.length)])), (b, .inl (cA, M, .inl q))]) := by
  refine KI.of (by decide) (Nat.le_of_ble_eq_true rfl) ?_
  intro p e s m args below meth c Q R A ls Xf hR hA hS hP hD hK hn hl ret
  have hx := Xf.1
  have hb := Xf.2.1
  have hown : s.vm.findClass "ScalarScribe$Row" = some m.cls := Xf.2.2.2.1
  have hw := Xf.2.2.2.2
  have hl : lv_has ls 2 [(0, .ref h), (1, .ref g)] := hl
  refine lv_aload_n hx hb dRow_become_0 rfl (lv_at hl 1 rfl) ?_
  refine va_get (D := D) (ci := 0) (v := .int (nI K.length)) (C := R_Row) (T := T_Row) (N := 2) hx hb hw in_Row hown hK hP 2 rfl rfl 1 (by decide) (hw _ w_25) (fun _ h9 => h9) rfl dRow_become_1 ?_
  refine lv_aload_n hx hb dRow_become_4 rfl (lv_at hl 0 rfl) ?_
  refine va_get (D := D) (ci := 0) (v := .ref a) (C := R_Row) (T := T_Row) (N := 2) hx hb hw in_Row hown hK hP 0 rfl rfl 0 (by decide) (hw _ w_24) (fun _ h9 => h9) rfl dRow_become_5 ?_
  refine va_alen hx hb hK hP 1 0 rfl rfl (v := nI N) rfl dRow_become_8 ?_
  refine lv_icmp_le (tgt := 14) hx hb dRow_become_9 (by decide) (fun h9 => ?_) (fun h9 => ?_)
  · skip
    replace h9 := nt_le (a := K.length) (b := N) (by omega) (by omega) h9
    refine lv_aload_n hx hb dRow_become_14 rfl (lv_at hl 1 rfl) ?_
    refine va_get (D := D) (ci := 0) (v := .ref b) (C := R_Row) (T := T_Row) (N := 2) hx hb hw in_Row hown hK hP 2 rfl rfl 0 (by decide) (hw _ w_24) (fun _ h9 => h9) rfl dRow_become_15 ?_
    refine lv_iconst (v := nI 0) hx hb dRow_become_18 (by decide) ?_
    refine lv_aload_n hx hb dRow_become_19 rfl (lv_at hl 0 rfl) ?_
    refine va_get (D := D) (ci := 0) (v := .ref a) (C := R_Row) (T := T_Row) (N := 2) hx hb hw in_Row hown hK hP 0 rfl rfl 0 (by decide) (hw _ w_24) (fun _ h9 => h9) rfl dRow_become_20 ?_
    refine lv_iconst (v := nI 0) hx hb dRow_become_23 (by decide) ?_
    refine lv_aload_n hx hb dRow_become_24 rfl (lv_at hl 1 rfl) ?_
    refine va_get (D := D) (ci := 0) (v := .int (nI K.length)) (C := R_Row) (T := T_Row) (N := 2) hx hb hw in_Row hown hK hP 2 rfl rfl 1 (by decide) (hw _ w_25) (fun _ h9 => h9) rfl dRow_become_25 ?_
    refine va_copyi hx hb (Xf.2.2.1.trans hl.1.symm) hown (hw _ w_195) (hw _ w_197) (hw _ w_196) (hw _ w_9) hK hP hD hS 3 1 0 0 rfl rfl rfl rfl rfl (nI_pos (by omega)) (nI_pos (by omega)) (nI_pos (by omega)) (by rw [nI_clamp (by omega), nI_clamp (by omega)]; omega) (by rw [nI_clamp (by omega), nI_clamp (by omega)]; omega) (fun i _ => rfl) (by rw [hR]; exact Nat.le_of_ble_eq_true rfl) (by rw [hR]; exact Nat.le_of_ble_eq_true rfl) dRow_become_28 (fun H locs hP hD hS => ?_)
    rw [nI_clamp (by omega), nI_clamp (by omega)] at hP hD
    have hP : va_P D vwCl [(h, .inr (0, [.ref a, .int (nI L.length)])), (a, .inl (cA, N, .inl (va_cpy q f 0 0 K.length))), (g, .inr (0, [.ref b, .int (nI K.length)])), (b, .inl (cA, M, .inl q))] H := hP
    have hD : va_D A [(h, .inr (0, [.ref a, .int (nI L.length)])), (a, .inl (cA, N, .inl (va_cpy q f 0 0 K.length))), (g, .inr (0, [.ref b, .int (nI K.length)])), (b, .inl (cA, M, .inl q))] := hD
    refine lv_aload_n hx hb dRow_become_31 rfl (lv_at hl 0 rfl) ?_
    refine lv_aload_n hx hb dRow_become_32 rfl (lv_at hl 1 rfl) ?_
    refine va_get (D := D) (ci := 0) (v := .int (nI K.length)) (C := R_Row) (T := T_Row) (N := 2) hx hb hw in_Row hown hK hP 2 rfl rfl 1 (by decide) (hw _ w_25) (fun _ h9 => h9) rfl dRow_become_33 ?_
    refine va_put (D := D) (ci := 0) (v := .int (nI K.length)) (ty := .int) (C := R_Row) (T := T_Row) (N := 2) hx hb hw in_Row ty_Row ty_Row_ok nm_Row hown hK hP hD hS 0 rfl rfl 1 (by decide) (hw _ w_25) (fun _ h9 => h9) rfl (by decide +kernel) rfl rfl (Nat.le_of_ble_eq_true rfl) dRow_become_36 (fun H locs hP hD hS => ?_)
    have hP : va_P D vwCl [(h, .inr (0, [.ref a, .int (nI K.length)])), (a, .inl (cA, N, .inl (va_cpy q f 0 0 K.length))), (g, .inr (0, [.ref b, .int (nI K.length)])), (b, .inl (cA, M, .inl q))] H := hP
    have hD : va_D A [(h, .inr (0, [.ref a, .int (nI K.length)])), (a, .inl (cA, N, .inl (va_cpy q f 0 0 K.length))), (g, .inr (0, [.ref b, .int (nI K.length)])), (b, .inl (cA, M, .inl q))] := hD
    refine lv_iconst (v := nI 1) hx hb dRow_become_39 (by decide) ?_
    exact ret (K, va_cpy q f 0 0 K.length) dRow_become_40 rfl (Or.inl ⟨h9, rfl, rfl, Hd_cpy hq⟩) hP hD hS
  · skip
    replace h9 := nt_nle (a := K.length) (b := N) (by omega) (by omega) h9
    refine lv_iconst (v := nI 0) hx hb dRow_become_12 (by decide) ?_
    exact ret (L, f) dRow_become_13 rfl (Or.inr ⟨h9, rfl, rfl, hf⟩) hP hD hS
