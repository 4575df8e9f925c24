theorem getD_s {M : List Nat} {i : Nat} (h : ∀ x ∈ M, sca x) (hi : i < M.length) : sca (M.getD i 0) := by
  rw [List.getD_eq_getElem?_getD, List.getElem?_eq_getElem hi]
  exact h _ (List.getElem_mem hi)
set_option maxHeartbeats 4000000 in
set_option maxRecDepth 100000 in
theorem k_Mo_take (l : Launch) (D : va_G) (cA : ClassId) (sz : Nat) (mo xI xL xO xK xR xW : Nat) (I L O K : List Int32) (gI gL gO gK gR gW : Nat → Int32) ( wr at_ : Int32) (nu vl pc_ : Int64) (bs tk gd : Int32) (acc : List Int32) (hfI : Hd gI I) (hcI : I.length ≤ 120) (hfL : Hd gL L) (hcL : L.length ≤ 120) (hfO : Hd gO O) (hcO : O.length ≤ 400) (hfK : Hd gK K) (hcK : K.length ≤ 120) (hfR : Hd gR acc) (hcA : acc.length ≤ 120) : KI l D cA y_Mo_take c_Mo_take 2 .int 0 0 [.ref mo] sz [(mo, .inr (5, [.int (nI I.length), .ref xI, .int (nI L.length), .ref xL, .int (nI O.length), .ref xO, .int (nI K.length), .ref xK, .int (nI acc.length), .ref xR, .int wr, .ref xW, .int at_, .long nu, .long vl, .long pc_, .int bs, .int tk, .int gd])), (xI, .inl (cA, 120, .inl gI)), (xL, .inl (cA, 120, .inl gL)), (xO, .inl (cA, 400, .inl gO)), (xK, .inl (cA, 120, .inl gK)), (xR, .inl (cA, 121, .inl gR)), (xW, .inl (cA, 1000, .inl gW))] (S := (Nat → Int32)) (fun r gL2 => r = nI acc.length ∧ Hd gL2 acc) (fun gL2 => [(mo, .inr (5, [.int (nI I.length), .ref xI, .int (nI acc.length), .ref xL, .int (nI O.length), .ref xO, .int (nI K.length), .ref xK, .int (nI acc.length), .ref xR, .int wr, .ref xW, .int at_, .long nu, .long vl, .long pc_, .int bs, .int tk, .int gd])), (xI, .inl (cA, 120, .inl gI)), (xL, .inl (cA, 120, .inl gL2)), (xO, .inl (cA, 400, .inl gO)), (xK, .inl (cA, 120, .inl gK)), (xR, .inl (cA, 121, .inl gR)), (xW, .inl (cA, 1000, .inl gW))]) := by
  refine KI.of (by decide) (Nat.le_of_ble_eq_true rfl) ?_
  intro p e s m args below meth c Q R A ls Xf hR hA hS hP hD hK hn hl ret
  have hx := Xf.1
  have hb := Xf.2.1
  have hown : s.vm.findClass "ScalarScribeModel" = some m.cls := Xf.2.2.2.1
  have hw := Xf.2.2.2.2
  have hl : lv_has ls 2 [(0, .ref mo)] := hl
  refine lv_aload_n hx hb dMo_take_0 rfl (lv_at hl 0 rfl) ?_
  refine lv_aload_n hx hb dMo_take_1 rfl (lv_at hl 0 rfl) ?_
  refine va_get (D := D) (ci := 5) (v := .int (nI acc.length)) (C := R_Mo) (T := T_Mo) (N := 19) hx hb hw in_Mo hown hK hP 0 rfl rfl 8 (by decide) (hw _ w_372) (fun _ h9 => h9) rfl dMo_take_2 ?_
  refine va_put (D := D) (ci := 5) (v := .int (nI acc.length)) (ty := .int) (C := R_Mo) (T := T_Mo) (N := 19) hx hb hw in_Mo ty_Mo ty_Mo_ok nm_Mo hown hK hP hD hS 0 rfl rfl 2 (by decide) (hw _ w_366) (fun _ h9 => h9) rfl (by decide +kernel) rfl rfl (Nat.le_of_ble_eq_true rfl) dMo_take_5 (fun H locs hP hD hS => ?_)
  have hP : va_P D vwCl [(mo, .inr (5, [.int (nI I.length), .ref xI, .int (nI acc.length), .ref xL, .int (nI O.length), .ref xO, .int (nI K.length), .ref xK, .int (nI acc.length), .ref xR, .int wr, .ref xW, .int at_, .long nu, .long vl, .long pc_, .int bs, .int tk, .int gd])), (xI, .inl (cA, 120, .inl gI)), (xL, .inl (cA, 120, .inl gL)), (xO, .inl (cA, 400, .inl gO)), (xK, .inl (cA, 120, .inl gK)), (xR, .inl (cA, 121, .inl gR)), (xW, .inl (cA, 1000, .inl gW))] H := hP
  have hD : va_D A [(mo, .inr (5, [.int (nI I.length), .ref xI, .int (nI acc.length), .ref xL, .int (nI O.length), .ref xO, .int (nI K.length), .ref xK, .int (nI acc.length), .ref xR, .int wr, .ref xW, .int at_, .long nu, .long vl, .long pc_, .int bs, .int tk, .int gd])), (xI, .inl (cA, 120, .inl gI)), (xL, .inl (cA, 120, .inl gL)), (xO, .inl (cA, 400, .inl gO)), (xK, .inl (cA, 120, .inl gK)), (xR, .inl (cA, 121, .inl gR)), (xW, .inl (cA, 1000, .inl gW))] := hD
  refine lv_iconst (v := nI 0) hx hb dMo_take_8 (by decide) ?_
  refine lv_istore_n (lv' := [(1, .int (nI 0)), (0, .ref mo)]) hx hb dMo_take_9 rfl hl (by decide) rfl (fun ls hl => ?_)
  replace hP : va_P D vwCl [(mo, .inr (5, [.int (nI I.length), .ref xI, .int (nI acc.length), .ref xL, .int (nI O.length), .ref xO, .int (nI K.length), .ref xK, .int (nI acc.length), .ref xR, .int wr, .ref xW, .int at_, .long nu, .long vl, .long pc_, .int bs, .int tk, .int gd])), (xI, .inl (cA, 120, .inl gI)), (xL, .inl (cA, 120, .inl (va_cpy gR gL 0 0 0))), (xO, .inl (cA, 400, .inl gO)), (xK, .inl (cA, 120, .inl gK)), (xR, .inl (cA, 121, .inl gR)), (xW, .inl (cA, 1000, .inl gW))] H := by rw [cpy_0]; exact hP
  replace hD : va_D A [(mo, .inr (5, [.int (nI I.length), .ref xI, .int (nI acc.length), .ref xL, .int (nI O.length), .ref xO, .int (nI K.length), .ref xK, .int (nI acc.length), .ref xR, .int wr, .ref xW, .int at_, .long nu, .long vl, .long pc_, .int bs, .int tk, .int gd])), (xI, .inl (cA, 120, .inl gI)), (xL, .inl (cA, 120, .inl (va_cpy gR gL 0 0 0))), (xO, .inl (cA, 400, .inl gO)), (xK, .inl (cA, 120, .inl gK)), (xR, .inl (cA, 121, .inl gR)), (xW, .inl (cA, 1000, .inl gW))] := by rw [cpy_0]; exact hD
  have loopc : ∀ (n_ : Nat) (i : Nat) (ls : Array Slot) (H : Heap) (locs : List Loc), acc.length - i < n_ → i ≤ acc.length → lv_has ls 2 [(1, .int (nI i)), (0, .ref mo)] → va_P D vwCl [(mo, .inr (5, [.int (nI I.length), .ref xI, .int (nI acc.length), .ref xL, .int (nI O.length), .ref xO, .int (nI K.length), .ref xK, .int (nI acc.length), .ref xR, .int wr, .ref xW, .int at_, .long nu, .long vl, .long pc_, .int bs, .int tk, .int gd])), (xI, .inl (cA, 120, .inl gI)), (xL, .inl (cA, 120, .inl (va_cpy gR gL 0 0 i))), (xO, .inl (cA, 400, .inl gO)), (xK, .inl (cA, 120, .inl gK)), (xR, .inl (cA, 121, .inl gR)), (xW, .inl (cA, 1000, .inl gW))] H → va_D A [(mo, .inr (5, [.int (nI I.length), .ref xI, .int (nI acc.length), .ref xL, .int (nI O.length), .ref xO, .int (nI K.length), .ref xK, .int (nI acc.length), .ref xR, .int wr, .ref xW, .int at_, .long nu, .long vl, .long pc_, .int bs, .int tk, .int gd])), (xI, .inl (cA, 120, .inl gI)), (xL, .inl (cA, 120, .inl (va_cpy gR gL 0 0 i))), (xO, .inl (cA, 400, .inl gO)), (xK, .inl (cA, 120, .inl gK)), (xR, .inl (cA, 121, .inl gR)), (xW, .inl (cA, 1000, .inl gW))] → va_S A s.heap H locs → W p l e R s m args below meth c H locs 0 0 Q (F0 m 10 ls []) := by
    intro n_
    induction n_ with
    | zero => intro i ls H locs hm_; exact absurd hm_ (Nat.not_lt_zero _)
    | succ n_ ih_loopc =>
      intro i ls H locs hm_ hi hl hP hD hS
      refine lv_iload_n hx hb dMo_take_10 rfl (lv_at hl 0 rfl) ?_
      refine lv_aload_n hx hb dMo_take_11 rfl (lv_at hl 1 rfl) ?_
      refine va_get (D := D) (ci := 5) (v := .int (nI acc.length)) (C := R_Mo) (T := T_Mo) (N := 19) hx hb hw in_Mo hown hK hP 0 rfl rfl 8 (by decide) (hw _ w_372) (fun _ h9 => h9) rfl dMo_take_12 ?_
      refine lv_icmp_ge (tgt := 36) hx hb dMo_take_15 (by decide) (fun h15 => ?_) (fun h15 => ?_)
      · skip
        replace h15 := nt_le (a := acc.length) (b := i) (by omega) (by omega) h15
        refine lv_aload_n hx hb dMo_take_36 rfl (lv_at hl 1 rfl) ?_
        refine va_get (D := D) (ci := 5) (v := .int (nI acc.length)) (C := R_Mo) (T := T_Mo) (N := 19) hx hb hw in_Mo hown hK hP 0 rfl rfl 8 (by decide) (hw _ w_372) (fun _ h9 => h9) rfl dMo_take_37 ?_
        obtain rfl : i = acc.length := by omega
        exact ret (va_cpy gR gL 0 0 acc.length) dMo_take_40 rfl ⟨rfl, Hd_cpy hfR⟩ hP hD hS
      · skip
        replace h15 := nt_nle (a := acc.length) (b := i) (by omega) (by omega) h15
        refine lv_aload_n hx hb dMo_take_18 rfl (lv_at hl 1 rfl) ?_
        refine va_get (D := D) (ci := 5) (v := .ref xL) (C := R_Mo) (T := T_Mo) (N := 19) hx hb hw in_Mo hown hK hP 0 rfl rfl 3 (by decide) (hw _ w_367) (fun _ h9 => h9) rfl dMo_take_19 ?_
        refine lv_iload_n hx hb dMo_take_22 rfl (lv_at hl 0 rfl) ?_
        refine lv_aload_n hx hb dMo_take_23 rfl (lv_at hl 1 rfl) ?_
        refine va_get (D := D) (ci := 5) (v := .ref xR) (C := R_Mo) (T := T_Mo) (N := 19) hx hb hw in_Mo hown hK hP 0 rfl rfl 9 (by decide) (hw _ w_373) (fun _ h9 => h9) rfl dMo_take_24 ?_
        refine lv_iload_n hx hb dMo_take_27 rfl (lv_at hl 0 rfl) ?_
        refine va_iald hx hb hK hP 5 0 rfl rfl (vp_in_nI (by omega) (by omega)) dMo_take_28 ?_
        refine lv_rei (y := gR i) (by rw [nI_clamp (by omega)]) ?_
        refine va_iast hx hb hK hP hD hS 2 0 rfl rfl (vp_in_nI (by omega) (by omega)) dMo_take_29 (fun H locs hP hD hS => ?_)
        rw [nI_clamp (by omega)] at hP hD
        have hP : va_P D vwCl [(mo, .inr (5, [.int (nI I.length), .ref xI, .int (nI acc.length), .ref xL, .int (nI O.length), .ref xO, .int (nI K.length), .ref xK, .int (nI acc.length), .ref xR, .int wr, .ref xW, .int at_, .long nu, .long vl, .long pc_, .int bs, .int tk, .int gd])), (xI, .inl (cA, 120, .inl gI)), (xL, .inl (cA, 120, .inl (upd (va_cpy gR gL 0 0 i) i (gR i)))), (xO, .inl (cA, 400, .inl gO)), (xK, .inl (cA, 120, .inl gK)), (xR, .inl (cA, 121, .inl gR)), (xW, .inl (cA, 1000, .inl gW))] H := hP
        have hD : va_D A [(mo, .inr (5, [.int (nI I.length), .ref xI, .int (nI acc.length), .ref xL, .int (nI O.length), .ref xO, .int (nI K.length), .ref xK, .int (nI acc.length), .ref xR, .int wr, .ref xW, .int at_, .long nu, .long vl, .long pc_, .int bs, .int tk, .int gd])), (xI, .inl (cA, 120, .inl gI)), (xL, .inl (cA, 120, .inl (upd (va_cpy gR gL 0 0 i) i (gR i)))), (xO, .inl (cA, 400, .inl gO)), (xK, .inl (cA, 120, .inl gK)), (xR, .inl (cA, 121, .inl gR)), (xW, .inl (cA, 1000, .inl gW))] := hD
        rw [cpy_s] at hP hD
        refine lv_iinc (k := 0) (v := nI (i + 1)) (lv' := [(1, .int (nI (i + 1))), (0, .ref mo)]) hx hb dMo_take_30 hl rfl (nI_1 _) (by decide) rfl (fun ls hl => ?_)
        refine lv_goto (tgt := 10) hx hb dMo_take_33 (by decide) ?_
        exact ih_loopc (i + 1) _ _ _ (by omega) (by omega) (lv_sub hl [0, 1] rfl) hP hD hS
  exact loopc _ 0 _ _ _ (Nat.lt_succ_self _) (Nat.zero_le _) (lv_sub hl [0, 1] rfl) hP hD hS
set_option maxHeartbeats 4000000 in
set_option maxRecDepth 100000 in
theorem k_Mo_keep (l : Launch) (D : va_G) (cA : ClassId) (sz : Nat) (mo xI xL xO xK xR xW : Nat) (I L O K : List Int32) (gI gL gO gK gR gW : Nat → Int32) (md wr at_ : Int32) (nu vl pc_ : Int64) (bs tk gd : Int32)  (hfI : Hd gI I) (hcI : I.length ≤ 120) (hfL : Hd gL L) (hcL : L.length ≤ 120) (hfO : Hd gO O) (hcO : O.length ≤ 400) (hfK : Hd gK K) (hcK : K.length ≤ 120)  : KV l D cA y_Mo_keep c_Mo_keep 2 0 0 [.ref mo] sz [(mo, .inr (5, [.int (nI I.length), .ref xI, .int (nI L.length), .ref xL, .int (nI O.length), .ref xO, .int (nI K.length), .ref xK, .int md, .ref xR, .int wr, .ref xW, .int at_, .long nu, .long vl, .long pc_, .int bs, .int tk, .int gd])), (xI, .inl (cA, 120, .inl gI)), (xL, .inl (cA, 120, .inl gL)), (xO, .inl (cA, 400, .inl gO)), (xK, .inl (cA, 120, .inl gK)), (xR, .inl (cA, 121, .inl gR)), (xW, .inl (cA, 1000, .inl gW))] (S := (Nat → Int32)) (fun gK2 => Hd gK2 L) (fun gK2 => [(mo, .inr (5, [.int (nI I.length), .ref xI, .int (nI L.length), .ref xL, .int (nI O.length), .ref xO, .int (nI L.length), .ref xK, .int md, .ref xR, .int wr, .ref xW, .int at_, .long nu, .long vl, .long pc_, .int bs, .int tk, .int gd])), (xI, .inl (cA, 120, .inl gI)), (xL, .inl (cA, 120, .inl gL)), (xO, .inl (cA, 400, .inl gO)), (xK, .inl (cA, 120, .inl gK2)), (xR, .inl (cA, 121, .inl gR)), (xW, .inl (cA, 1000, .inl gW))]) := by
  refine KV.of (by decide) (Nat.le_of_ble_eq_true rfl) ?_
  intro p e s m args below meth c Q R A ls Xf hR hA hS hP hD hK hn hl ret
  have hx := Xf.1
  have hb := Xf.2.1
  have hown : s.vm.findClass "ScalarScribeModel" = some m.cls := Xf.2.2.2.1
  have hw := Xf.2.2.2.2
  have hl : lv_has ls 2 [(0, .ref mo)] := hl
  refine lv_aload_n hx hb dMo_keep_0 rfl (lv_at hl 0 rfl) ?_
  refine lv_aload_n hx hb dMo_keep_1 rfl (lv_at hl 0 rfl) ?_
  refine va_get (D := D) (ci := 5) (v := .int (nI L.length)) (C := R_Mo) (T := T_Mo) (N := 19) hx hb hw in_Mo hown hK hP 0 rfl rfl 2 (by decide) (hw _ w_366) (fun _ h9 => h9) rfl dMo_keep_2 ?_
  refine va_put (D := D) (ci := 5) (v := .int (nI L.length)) (ty := .int) (C := R_Mo) (T := T_Mo) (N := 19) hx hb hw in_Mo ty_Mo ty_Mo_ok nm_Mo hown hK hP hD hS 0 rfl rfl 6 (by decide) (hw _ w_370) (fun _ h9 => h9) rfl (by decide +kernel) rfl rfl (Nat.le_of_ble_eq_true rfl) dMo_keep_5 (fun H locs hP hD hS => ?_)
  have hP : va_P D vwCl [(mo, .inr (5, [.int (nI I.length), .ref xI, .int (nI L.length), .ref xL, .int (nI O.length), .ref xO, .int (nI L.length), .ref xK, .int md, .ref xR, .int wr, .ref xW, .int at_, .long nu, .long vl, .long pc_, .int bs, .int tk, .int gd])), (xI, .inl (cA, 120, .inl gI)), (xL, .inl (cA, 120, .inl gL)), (xO, .inl (cA, 400, .inl gO)), (xK, .inl (cA, 120, .inl gK)), (xR, .inl (cA, 121, .inl gR)), (xW, .inl (cA, 1000, .inl gW))] H := hP
  have hD : va_D A [(mo, .inr (5, [.int (nI I.length), .ref xI, .int (nI L.length), .ref xL, .int (nI O.length), .ref xO, .int (nI L.length), .ref xK, .int md, .ref xR, .int wr, .ref xW, .int at_, .long nu, .long vl, .long pc_, .int bs, .int tk, .int gd])), (xI, .inl (cA, 120, .inl gI)), (xL, .inl (cA, 120, .inl gL)), (xO, .inl (cA, 400, .inl gO)), (xK, .inl (cA, 120, .inl gK)), (xR, .inl (cA, 121, .inl gR)), (xW, .inl (cA, 1000, .inl gW))] := hD
  refine lv_iconst (v := nI 0) hx hb dMo_keep_8 (by decide) ?_
  refine lv_istore_n (lv' := [(1, .int (nI 0)), (0, .ref mo)]) hx hb dMo_keep_9 rfl hl (by decide) rfl (fun ls hl => ?_)
  replace hP : va_P D vwCl [(mo, .inr (5, [.int (nI I.length), .ref xI, .int (nI L.length), .ref xL, .int (nI O.length), .ref xO, .int (nI L.length), .ref xK, .int md, .ref xR, .int wr, .ref xW, .int at_, .long nu, .long vl, .long pc_, .int bs, .int tk, .int gd])), (xI, .inl (cA, 120, .inl gI)), (xL, .inl (cA, 120, .inl gL)), (xO, .inl (cA, 400, .inl gO)), (xK, .inl (cA, 120, .inl (va_cpy gL gK 0 0 0))), (xR, .inl (cA, 121, .inl gR)), (xW, .inl (cA, 1000, .inl gW))] H := by rw [cpy_0]; exact hP
  replace hD : va_D A [(mo, .inr (5, [.int (nI I.length), .ref xI, .int (nI L.length), .ref xL, .int (nI O.length), .ref xO, .int (nI L.length), .ref xK, .int md, .ref xR, .int wr, .ref xW, .int at_, .long nu, .long vl, .long pc_, .int bs, .int tk, .int gd])), (xI, .inl (cA, 120, .inl gI)), (xL, .inl (cA, 120, .inl gL)), (xO, .inl (cA, 400, .inl gO)), (xK, .inl (cA, 120, .inl (va_cpy gL gK 0 0 0))), (xR, .inl (cA, 121, .inl gR)), (xW, .inl (cA, 1000, .inl gW))] := by rw [cpy_0]; exact hD
  have loopc : ∀ (n_ : Nat) (i : Nat) (ls : Array Slot) (H : Heap) (locs : List Loc), L.length - i < n_ → i ≤ L.length → lv_has ls 2 [(1, .int (nI i)), (0, .ref mo)] → va_P D vwCl [(mo, .inr (5, [.int (nI I.length), .ref xI, .int (nI L.length), .ref xL, .int (nI O.length), .ref xO, .int (nI L.length), .ref xK, .int md, .ref xR, .int wr, .ref xW, .int at_, .long nu, .long vl, .long pc_, .int bs, .int tk, .int gd])), (xI, .inl (cA, 120, .inl gI)), (xL, .inl (cA, 120, .inl gL)), (xO, .inl (cA, 400, .inl gO)), (xK, .inl (cA, 120, .inl (va_cpy gL gK 0 0 i))), (xR, .inl (cA, 121, .inl gR)), (xW, .inl (cA, 1000, .inl gW))] H → va_D A [(mo, .inr (5, [.int (nI I.length), .ref xI, .int (nI L.length), .ref xL, .int (nI O.length), .ref xO, .int (nI L.length), .ref xK, .int md, .ref xR, .int wr, .ref xW, .int at_, .long nu, .long vl, .long pc_, .int bs, .int tk, .int gd])), (xI, .inl (cA, 120, .inl gI)), (xL, .inl (cA, 120, .inl gL)), (xO, .inl (cA, 400, .inl gO)), (xK, .inl (cA, 120, .inl (va_cpy gL gK 0 0 i))), (xR, .inl (cA, 121, .inl gR)), (xW, .inl (cA, 1000, .inl gW))] → va_S A s.heap H locs → W p l e R s m args below meth c H locs 0 0 Q (F0 m 10 ls []) := by
    intro n_
    induction n_ with
    | zero => intro i ls H locs hm_; exact absurd hm_ (Nat.not_lt_zero _)
    | succ n_ ih_loopc =>
      intro i ls H locs hm_ hi hl hP hD hS
      refine lv_iload_n hx hb dMo_keep_10 rfl (lv_at hl 0 rfl) ?_
      refine lv_aload_n hx hb dMo_keep_11 rfl (lv_at hl 1 rfl) ?_
      refine va_get (D := D) (ci := 5) (v := .int (nI L.length)) (C := R_Mo) (T := T_Mo) (N := 19) hx hb hw in_Mo hown hK hP 0 rfl rfl 2 (by decide) (hw _ w_366) (fun _ h9 => h9) rfl dMo_keep_12 ?_
      refine lv_icmp_ge (tgt := 36) hx hb dMo_keep_15 (by decide) (fun h15 => ?_) (fun h15 => ?_)
      · skip
        replace h15 := nt_le (a := L.length) (b := i) (by omega) (by omega) h15
        obtain rfl : i = L.length := by omega
        exact ret (va_cpy gL gK 0 0 L.length) dMo_keep_36 (Hd_cpy hfL) hP hD hS
      · skip
        replace h15 := nt_nle (a := L.length) (b := i) (by omega) (by omega) h15
        refine lv_aload_n hx hb dMo_keep_18 rfl (lv_at hl 1 rfl) ?_
        refine va_get (D := D) (ci := 5) (v := .ref xK) (C := R_Mo) (T := T_Mo) (N := 19) hx hb hw in_Mo hown hK hP 0 rfl rfl 7 (by decide) (hw _ w_371) (fun _ h9 => h9) rfl dMo_keep_19 ?_
        refine lv_iload_n hx hb dMo_keep_22 rfl (lv_at hl 0 rfl) ?_
        refine lv_aload_n hx hb dMo_keep_23 rfl (lv_at hl 1 rfl) ?_
        refine va_get (D := D) (ci := 5) (v := .ref xL) (C := R_Mo) (T := T_Mo) (N := 19) hx hb hw in_Mo hown hK hP 0 rfl rfl 3 (by decide) (hw _ w_367) (fun _ h9 => h9) rfl dMo_keep_24 ?_
        refine lv_iload_n hx hb dMo_keep_27 rfl (lv_at hl 0 rfl) ?_
        refine va_iald hx hb hK hP 2 0 rfl rfl (vp_in_nI (by omega) (by omega)) dMo_keep_28 ?_
        refine lv_rei (y := gL i) (by rw [nI_clamp (by omega)]) ?_
        refine va_iast hx hb hK hP hD hS 4 0 rfl rfl (vp_in_nI (by omega) (by omega)) dMo_keep_29 (fun H locs hP hD hS => ?_)
        rw [nI_clamp (by omega)] at hP hD
        have hP : va_P D vwCl [(mo, .inr (5, [.int (nI I.length), .ref xI, .int (nI L.length), .ref xL, .int (nI O.length), .ref xO, .int (nI L.length), .ref xK, .int md, .ref xR, .int wr, .ref xW, .int at_, .long nu, .long vl, .long pc_, .int bs, .int tk, .int gd])), (xI, .inl (cA, 120, .inl gI)), (xL, .inl (cA, 120, .inl gL)), (xO, .inl (cA, 400, .inl gO)), (xK, .inl (cA, 120, .inl (upd (va_cpy gL gK 0 0 i) i (gL i)))), (xR, .inl (cA, 121, .inl gR)), (xW, .inl (cA, 1000, .inl gW))] H := hP
        have hD : va_D A [(mo, .inr (5, [.int (nI I.length), .ref xI, .int (nI L.length), .ref xL, .int (nI O.length), .ref xO, .int (nI L.length), .ref xK, .int md, .ref xR, .int wr, .ref xW, .int at_, .long nu, .long vl, .long pc_, .int bs, .int tk, .int gd])), (xI, .inl (cA, 120, .inl gI)), (xL, .inl (cA, 120, .inl gL)), (xO, .inl (cA, 400, .inl gO)), (xK, .inl (cA, 120, .inl (upd (va_cpy gL gK 0 0 i) i (gL i)))), (xR, .inl (cA, 121, .inl gR)), (xW, .inl (cA, 1000, .inl gW))] := hD
        rw [cpy_s] at hP hD
        refine lv_iinc (k := 0) (v := nI (i + 1)) (lv' := [(1, .int (nI (i + 1))), (0, .ref mo)]) hx hb dMo_keep_30 hl rfl (nI_1 _) (by decide) rfl (fun ls hl => ?_)
        refine lv_goto (tgt := 10) hx hb dMo_keep_33 (by decide) ?_
        exact ih_loopc (i + 1) _ _ _ (by omega) (by omega) (lv_sub hl [0, 1] rfl) hP hD hS
  exact loopc _ 0 _ _ _ (Nat.lt_succ_self _) (Nat.zero_le _) (lv_sub hl [0, 1] rfl) hP hD hS
set_option maxHeartbeats 4000000 in
set_option maxRecDepth 100000 in
theorem k_Mo_turn (l : Launch) (D : va_G) (cA : ClassId) (sz : Nat) (mo xI xL xO xK xR xW : Nat) (I L O K : List Int32) (gI gL gO gK gR gW : Nat → Int32) (md wr at_ : Int32) (nu vl pc_ : Int64) (bs tk gd : Int32)  (hfI : Hd gI I) (hcI : I.length ≤ 120) (hfL : Hd gL L) (hcL : L.length ≤ 120) (hfO : Hd gO O) (hcO : O.length ≤ 400) (hfK : Hd gK K) (hcK : K.length ≤ 120)  : KI l D cA y_Mo_turn c_Mo_turn 2 .int 0 0 [.ref mo] sz [(mo, .inr (5, [.int (nI I.length), .ref xI, .int (nI L.length), .ref xL, .int (nI O.length), .ref xO, .int (nI K.length), .ref xK, .int md, .ref xR, .int wr, .ref xW, .int at_, .long nu, .long vl, .long pc_, .int bs, .int tk, .int gd])), (xI, .inl (cA, 120, .inl gI)), (xL, .inl (cA, 120, .inl gL)), (xO, .inl (cA, 400, .inl gO)), (xK, .inl (cA, 120, .inl gK)), (xR, .inl (cA, 121, .inl gR)), (xW, .inl (cA, 1000, .inl gW))] (S := List Int32 × (Nat → Int32)) (fun r u => match u with | (I2, gI2) => (O.length ≤ 120 ∧ r = nI O.length ∧ I2 = O ∧ Hd gI2 I2) ∨ (120 < O.length ∧ r = -1 ∧ I2 = I ∧ Hd gI2 I2)) (fun u => match u with | (I2, gI2) => [(mo, .inr (5, [.int (nI I2.length), .ref xI, .int (nI L.length), .ref xL, .int (nI O.length), .ref xO, .int (nI K.length), .ref xK, .int md, .ref xR, .int wr, .ref xW, .int at_, .long nu, .long vl, .long pc_, .int bs, .int tk, .int gd])), (xI, .inl (cA, 120, .inl gI2)), (xL, .inl (cA, 120, .inl gL)), (xO, .inl (cA, 400, .inl gO)), (xK, .inl (cA, 120, .inl gK)), (xR, .inl (cA, 121, .inl gR)), (xW, .inl (cA, 1000, .inl gW))]) := by
  refine KI.of (by decide) (Nat.le_of_ble_eq_true rfl) ?_
  intro p e s m args below meth c Q R A ls Xf hR hA hS hP hD hK hn hl ret
  have hx := Xf.1
  have hb := Xf.2.1
  have hown : s.vm.findClass "ScalarScribeModel" = some m.cls := Xf.2.2.2.1
  have hw := Xf.2.2.2.2
  have hl : lv_has ls 2 [(0, .ref mo)] := hl
  refine lv_aload_n hx hb dMo_turn_0 rfl (lv_at hl 0 rfl) ?_
  refine va_get (D := D) (ci := 5) (v := .int (nI O.length)) (C := R_Mo) (T := T_Mo) (N := 19) hx hb hw in_Mo hown hK hP 0 rfl rfl 4 (by decide) (hw _ w_368) (fun _ h9 => h9) rfl dMo_turn_1 ?_
  refine lv_bipush (v := nI 120) hx hb dMo_turn_4 (by decide) ?_
  refine lv_icmp_le (tgt := 11) hx hb dMo_turn_6 (by decide) (fun h6 => ?_) (fun h6 => ?_)
  · skip
    replace h6 := nt_le (a := O.length) (b := 120) (by omega) (by omega) h6
    refine lv_aload_n hx hb dMo_turn_11 rfl (lv_at hl 0 rfl) ?_
    refine lv_aload_n hx hb dMo_turn_12 rfl (lv_at hl 0 rfl) ?_
    refine va_get (D := D) (ci := 5) (v := .int (nI O.length)) (C := R_Mo) (T := T_Mo) (N := 19) hx hb hw in_Mo hown hK hP 0 rfl rfl 4 (by decide) (hw _ w_368) (fun _ h9 => h9) rfl dMo_turn_13 ?_
    refine va_put (D := D) (ci := 5) (v := .int (nI O.length)) (ty := .int) (C := R_Mo) (T := T_Mo) (N := 19) hx hb hw in_Mo ty_Mo ty_Mo_ok nm_Mo hown hK hP hD hS 0 rfl rfl 0 (by decide) (hw _ w_364) (fun _ h9 => h9) rfl (by decide +kernel) rfl rfl (Nat.le_of_ble_eq_true rfl) dMo_turn_16 (fun H locs hP hD hS => ?_)
    have hP : va_P D vwCl [(mo, .inr (5, [.int (nI O.length), .ref xI, .int (nI L.length), .ref xL, .int (nI O.length), .ref xO, .int (nI K.length), .ref xK, .int md, .ref xR, .int wr, .ref xW, .int at_, .long nu, .long vl, .long pc_, .int bs, .int tk, .int gd])), (xI, .inl (cA, 120, .inl gI)), (xL, .inl (cA, 120, .inl gL)), (xO, .inl (cA, 400, .inl gO)), (xK, .inl (cA, 120, .inl gK)), (xR, .inl (cA, 121, .inl gR)), (xW, .inl (cA, 1000, .inl gW))] H := hP
    have hD : va_D A [(mo, .inr (5, [.int (nI O.length), .ref xI, .int (nI L.length), .ref xL, .int (nI O.length), .ref xO, .int (nI K.length), .ref xK, .int md, .ref xR, .int wr, .ref xW, .int at_, .long nu, .long vl, .long pc_, .int bs, .int tk, .int gd])), (xI, .inl (cA, 120, .inl gI)), (xL, .inl (cA, 120, .inl gL)), (xO, .inl (cA, 400, .inl gO)), (xK, .inl (cA, 120, .inl gK)), (xR, .inl (cA, 121, .inl gR)), (xW, .inl (cA, 1000, .inl gW))] := hD
    refine lv_iconst (v := nI 0) hx hb dMo_turn_19 (by decide) ?_
    refine lv_istore_n (lv' := [(1, .int (nI 0)), (0, .ref mo)]) hx hb dMo_turn_20 rfl hl (by decide) rfl (fun ls hl => ?_)
    replace hP : va_P D vwCl [(mo, .inr (5, [.int (nI O.length), .ref xI, .int (nI L.length), .ref xL, .int (nI O.length), .ref xO, .int (nI K.length), .ref xK, .int md, .ref xR, .int wr, .ref xW, .int at_, .long nu, .long vl, .long pc_, .int bs, .int tk, .int gd])), (xI, .inl (cA, 120, .inl (va_cpy gO gI 0 0 0))), (xL, .inl (cA, 120, .inl gL)), (xO, .inl (cA, 400, .inl gO)), (xK, .inl (cA, 120, .inl gK)), (xR, .inl (cA, 121, .inl gR)), (xW, .inl (cA, 1000, .inl gW))] H := by rw [cpy_0]; exact hP
    replace hD : va_D A [(mo, .inr (5, [.int (nI O.length), .ref xI, .int (nI L.length), .ref xL, .int (nI O.length), .ref xO, .int (nI K.length), .ref xK, .int md, .ref xR, .int wr, .ref xW, .int at_, .long nu, .long vl, .long pc_, .int bs, .int tk, .int gd])), (xI, .inl (cA, 120, .inl (va_cpy gO gI 0 0 0))), (xL, .inl (cA, 120, .inl gL)), (xO, .inl (cA, 400, .inl gO)), (xK, .inl (cA, 120, .inl gK)), (xR, .inl (cA, 121, .inl gR)), (xW, .inl (cA, 1000, .inl gW))] := by rw [cpy_0]; exact hD
    have loopc : ∀ (n_ : Nat) (i : Nat) (ls : Array Slot) (H : Heap) (locs : List Loc), O.length - i < n_ → i ≤ O.length → lv_has ls 2 [(1, .int (nI i)), (0, .ref mo)] → va_P D vwCl [(mo, .inr (5, [.int (nI O.length), .ref xI, .int (nI L.length), .ref xL, .int (nI O.length), .ref xO, .int (nI K.length), .ref xK, .int md, .ref xR, .int wr, .ref xW, .int at_, .long nu, .long vl, .long pc_, .int bs, .int tk, .int gd])), (xI, .inl (cA, 120, .inl (va_cpy gO gI 0 0 i))), (xL, .inl (cA, 120, .inl gL)), (xO, .inl (cA, 400, .inl gO)), (xK, .inl (cA, 120, .inl gK)), (xR, .inl (cA, 121, .inl gR)), (xW, .inl (cA, 1000, .inl gW))] H → va_D A [(mo, .inr (5, [.int (nI O.length), .ref xI, .int (nI L.length), .ref xL, .int (nI O.length), .ref xO, .int (nI K.length), .ref xK, .int md, .ref xR, .int wr, .ref xW, .int at_, .long nu, .long vl, .long pc_, .int bs, .int tk, .int gd])), (xI, .inl (cA, 120, .inl (va_cpy gO gI 0 0 i))), (xL, .inl (cA, 120, .inl gL)), (xO, .inl (cA, 400, .inl gO)), (xK, .inl (cA, 120, .inl gK)), (xR, .inl (cA, 121, .inl gR)), (xW, .inl (cA, 1000, .inl gW))] → va_S A s.heap H locs → W p l e R s m args below meth c H locs 0 0 Q (F0 m 21 ls []) := by
      intro n_
      induction n_ with
      | zero => intro i ls H locs hm_; exact absurd hm_ (Nat.not_lt_zero _)
      | succ n_ ih_loopc =>
        intro i ls H locs hm_ hi hl hP hD hS
        refine lv_iload_n hx hb dMo_turn_21 rfl (lv_at hl 0 rfl) ?_
        refine lv_aload_n hx hb dMo_turn_22 rfl (lv_at hl 1 rfl) ?_
        refine va_get (D := D) (ci := 5) (v := .int (nI O.length)) (C := R_Mo) (T := T_Mo) (N := 19) hx hb hw in_Mo hown hK hP 0 rfl rfl 4 (by decide) (hw _ w_368) (fun _ h9 => h9) rfl dMo_turn_23 ?_
        refine lv_icmp_ge (tgt := 47) hx hb dMo_turn_26 (by decide) (fun h26 => ?_) (fun h26 => ?_)
        · skip
          replace h26 := nt_le (a := O.length) (b := i) (by omega) (by omega) h26
          refine lv_aload_n hx hb dMo_turn_47 rfl (lv_at hl 1 rfl) ?_
          refine va_get (D := D) (ci := 5) (v := .int (nI O.length)) (C := R_Mo) (T := T_Mo) (N := 19) hx hb hw in_Mo hown hK hP 0 rfl rfl 0 (by decide) (hw _ w_364) (fun _ h9 => h9) rfl dMo_turn_48 ?_
          obtain rfl : i = O.length := by omega
          exact ret (O, va_cpy gO gI 0 0 O.length) dMo_turn_51 rfl (Or.inl ⟨h6, rfl, rfl, Hd_cpy hfO⟩) hP hD hS
        · skip
          replace h26 := nt_nle (a := O.length) (b := i) (by omega) (by omega) h26
          refine lv_aload_n hx hb dMo_turn_29 rfl (lv_at hl 1 rfl) ?_
          refine va_get (D := D) (ci := 5) (v := .ref xI) (C := R_Mo) (T := T_Mo) (N := 19) hx hb hw in_Mo hown hK hP 0 rfl rfl 1 (by decide) (hw _ w_365) (fun _ h9 => h9) rfl dMo_turn_30 ?_
          refine lv_iload_n hx hb dMo_turn_33 rfl (lv_at hl 0 rfl) ?_
          refine lv_aload_n hx hb dMo_turn_34 rfl (lv_at hl 1 rfl) ?_
          refine va_get (D := D) (ci := 5) (v := .ref xO) (C := R_Mo) (T := T_Mo) (N := 19) hx hb hw in_Mo hown hK hP 0 rfl rfl 5 (by decide) (hw _ w_369) (fun _ h9 => h9) rfl dMo_turn_35 ?_
          refine lv_iload_n hx hb dMo_turn_38 rfl (lv_at hl 0 rfl) ?_
          refine va_iald hx hb hK hP 3 0 rfl rfl (vp_in_nI (by omega) (by omega)) dMo_turn_39 ?_
          refine lv_rei (y := gO i) (by rw [nI_clamp (by omega)]) ?_
          refine va_iast hx hb hK hP hD hS 1 0 rfl rfl (vp_in_nI (by omega) (by omega)) dMo_turn_40 (fun H locs hP hD hS => ?_)
          rw [nI_clamp (by omega)] at hP hD
          have hP : va_P D vwCl [(mo, .inr (5, [.int (nI O.length), .ref xI, .int (nI L.length), .ref xL, .int (nI O.length), .ref xO, .int (nI K.length), .ref xK, .int md, .ref xR, .int wr, .ref xW, .int at_, .long nu, .long vl, .long pc_, .int bs, .int tk, .int gd])), (xI, .inl (cA, 120, .inl (upd (va_cpy gO gI 0 0 i) i (gO i)))), (xL, .inl (cA, 120, .inl gL)), (xO, .inl (cA, 400, .inl gO)), (xK, .inl (cA, 120, .inl gK)), (xR, .inl (cA, 121, .inl gR)), (xW, .inl (cA, 1000, .inl gW))] H := hP
          have hD : va_D A [(mo, .inr (5, [.int (nI O.length), .ref xI, .int (nI L.length), .ref xL, .int (nI O.length), .ref xO, .int (nI K.length), .ref xK, .int md, .ref xR, .int wr, .ref xW, .int at_, .long nu, .long vl, .long pc_, .int bs, .int tk, .int gd])), (xI, .inl (cA, 120, .inl (upd (va_cpy gO gI 0 0 i) i (gO i)))), (xL, .inl (cA, 120, .inl gL)), (xO, .inl (cA, 400, .inl gO)), (xK, .inl (cA, 120, .inl gK)), (xR, .inl (cA, 121, .inl gR)), (xW, .inl (cA, 1000, .inl gW))] := hD
          rw [cpy_s] at hP hD
          refine lv_iinc (k := 0) (v := nI (i + 1)) (lv' := [(1, .int (nI (i + 1))), (0, .ref mo)]) hx hb dMo_turn_41 hl rfl (nI_1 _) (by decide) rfl (fun ls hl => ?_)
          refine lv_goto (tgt := 21) hx hb dMo_turn_44 (by decide) ?_
          exact ih_loopc (i + 1) _ _ _ (by omega) (by omega) (lv_sub hl [0, 1] rfl) hP hD hS
    exact loopc _ 0 _ _ _ (Nat.lt_succ_self _) (Nat.zero_le _) (lv_sub hl [0, 1] rfl) hP hD hS
  · skip
    replace h6 := nt_nle (a := O.length) (b := 120) (by omega) (by omega) h6
    refine lv_iconst (v := (-1)) hx hb dMo_turn_9 (by decide) ?_
    exact ret (I, gI) dMo_turn_10 rfl (Or.inr ⟨h6, rfl, rfl, hfI⟩) hP hD hS
set_option maxHeartbeats 4000000 in
set_option maxRecDepth 100000 in
theorem k_Mo_from8 (l : Launch) (D : va_G) (cA : ClassId) (sz : Nat) (mo xI xL xO xK xR xW : Nat) (I L O K : List Int32) (gI gL gO gK gR gW : Nat → Int32) (md wr at_ : Int32) (nu vl pc_ : Int64) (bs tk gd : Int32)  (hfI : Hd gI I) (hcI : I.length ≤ 120) (hfL : Hd gL L) (hcL : L.length ≤ 120) (hfO : Hd gO O) (hcO : O.length ≤ 400) (hfK : Hd gK K) (hcK : K.length ≤ 120)  : KI l D cA y_Mo_from c_Mo_from 4 .int 4 90 [.ref mo, .int (nI 1)] sz [(mo, .inr (5, [.int (nI I.length), .ref xI, .int (nI L.length), .ref xL, .int (nI O.length), .ref xO, .int (nI K.length), .ref xK, .int md, .ref xR, .int wr, .ref xW, .int at_, .long nu, .long vl, .long pc_, .int bs, .int tk, .int gd])), (xI, .inl (cA, 120, .inl gI)), (xL, .inl (cA, 120, .inl gL)), (xO, .inl (cA, 400, .inl gO)), (xK, .inl (cA, 120, .inl gK)), (xR, .inl (cA, 121, .inl gR)), (xW, .inl (cA, 1000, .inl gW))] (S := List Int32 × (Nat → Int32) × (Nat → Int32) × Int32 × Int32 × Int32) (fun r u => match u with | (L2, gL2, gR2, md2, tk2, gd2) => r = (spF (rd8 (un I)) I L).1 ∧ L2 = (spF (rd8 (un I)) I L).2 ∧ Hd gL2 L2 ∧ L2.length ≤ 120) (fun u => match u with | (L2, gL2, gR2, md2, tk2, gd2) => [(mo, .inr (5, [.int (nI I.length), .ref xI, .int (nI L2.length), .ref xL, .int (nI O.length), .ref xO, .int (nI K.length), .ref xK, .int md2, .ref xR, .int wr, .ref xW, .int at_, .long nu, .long vl, .long pc_, .int bs, .int tk2, .int gd2])), (xI, .inl (cA, 120, .inl gI)), (xL, .inl (cA, 120, .inl gL2)), (xO, .inl (cA, 400, .inl gO)), (xK, .inl (cA, 120, .inl gK)), (xR, .inl (cA, 121, .inl gR2)), (xW, .inl (cA, 1000, .inl gW))]) := by
  refine KI.of (by decide) (Nat.le_of_ble_eq_true rfl) ?_
  intro p e s m args below meth c Q R A ls Xf hR hA hS hP hD hK hn hl ret
  have hx := Xf.1
  have hb := Xf.2.1
  have hown : s.vm.findClass "ScalarScribeModel" = some m.cls := Xf.2.2.2.1
  have hw := Xf.2.2.2.2
  have hl : lv_has ls 4 [(0, .ref mo), (1, .int (nI 1))] := hl
  refine lv_aload_n hx hb dMo_from_0 rfl (lv_at hl 0 rfl) ?_
  refine lv_iconst (v := nI 0) hx hb dMo_from_1 (by decide) ?_
  refine va_put (D := D) (ci := 5) (v := .int (nI 0)) (ty := .int) (C := R_Mo) (T := T_Mo) (N := 19) hx hb hw in_Mo ty_Mo ty_Mo_ok nm_Mo hown hK hP hD hS 0 rfl rfl 8 (by decide) (hw _ w_372) (fun _ h9 => h9) rfl (by decide +kernel) rfl rfl (Nat.le_of_ble_eq_true rfl) dMo_from_2 (fun H locs hP hD hS => ?_)
  have hP : va_P D vwCl [(mo, .inr (5, [.int (nI I.length), .ref xI, .int (nI L.length), .ref xL, .int (nI O.length), .ref xO, .int (nI K.length), .ref xK, .int (nI 0), .ref xR, .int wr, .ref xW, .int at_, .long nu, .long vl, .long pc_, .int bs, .int tk, .int gd])), (xI, .inl (cA, 120, .inl gI)), (xL, .inl (cA, 120, .inl gL)), (xO, .inl (cA, 400, .inl gO)), (xK, .inl (cA, 120, .inl gK)), (xR, .inl (cA, 121, .inl gR)), (xW, .inl (cA, 1000, .inl gW))] H := hP
  have hD : va_D A [(mo, .inr (5, [.int (nI I.length), .ref xI, .int (nI L.length), .ref xL, .int (nI O.length), .ref xO, .int (nI K.length), .ref xK, .int (nI 0), .ref xR, .int wr, .ref xW, .int at_, .long nu, .long vl, .long pc_, .int bs, .int tk, .int gd])), (xI, .inl (cA, 120, .inl gI)), (xL, .inl (cA, 120, .inl gL)), (xO, .inl (cA, 400, .inl gO)), (xK, .inl (cA, 120, .inl gK)), (xR, .inl (cA, 121, .inl gR)), (xW, .inl (cA, 1000, .inl gW))] := hD
  refine lv_iconst (v := nI 0) hx hb dMo_from_5 (by decide) ?_
  refine lv_istore_n (lv' := [(2, .int (nI 0)), (0, .ref mo), (1, .int (nI 1))]) hx hb dMo_from_6 rfl hl (by decide) rfl (fun ls hl => ?_)
  have loop1 : ∀ (n_ : Nat) (q0 : Nat) (acc : List Nat) (hR_ : Nat → Int32) (ta : Int32) (ga : Int32) (kf : Nat) (ls : Array Slot) (H : Heap) (locs : List Loc), I.length - q0 < n_ → Hd hR_ (acc.map nI) → acc.length ≤ q0 → acc.length ≤ I.length → q0 ≤ I.length + 4 → I.length - q0 ≤ kf → frS (rd8 (un I)) I.length kf q0 acc = frS (rd8 (un I)) I.length I.length 0 [] → lv_has ls 4 [(2, .int (nI q0)), (0, .ref mo), (1, .int (nI 1))] → va_P D vwCl [(mo, .inr (5, [.int (nI I.length), .ref xI, .int (nI L.length), .ref xL, .int (nI O.length), .ref xO, .int (nI K.length), .ref xK, .int (nI ((acc.map nI).length)), .ref xR, .int wr, .ref xW, .int at_, .long nu, .long vl, .long pc_, .int bs, .int ta, .int ga])), (xI, .inl (cA, 120, .inl gI)), (xL, .inl (cA, 120, .inl gL)), (xO, .inl (cA, 400, .inl gO)), (xK, .inl (cA, 120, .inl gK)), (xR, .inl (cA, 121, .inl hR_)), (xW, .inl (cA, 1000, .inl gW))] H → va_D A [(mo, .inr (5, [.int (nI I.length), .ref xI, .int (nI L.length), .ref xL, .int (nI O.length), .ref xO, .int (nI K.length), .ref xK, .int (nI ((acc.map nI).length)), .ref xR, .int wr, .ref xW, .int at_, .long nu, .long vl, .long pc_, .int bs, .int ta, .int ga])), (xI, .inl (cA, 120, .inl gI)), (xL, .inl (cA, 120, .inl gL)), (xO, .inl (cA, 400, .inl gO)), (xK, .inl (cA, 120, .inl gK)), (xR, .inl (cA, 121, .inl hR_)), (xW, .inl (cA, 1000, .inl gW))] → va_S A s.heap H locs → W p l e R s m args below meth c H locs 0 0 Q (F0 m 7 ls []) := by
    intro n_
    induction n_ with
    | zero => intro q0 acc hR_ ta ga kf ls H locs hm_; exact absurd hm_ (Nat.not_lt_zero _)
    | succ n_ ih_loop1 =>
      intro q0 acc hR_ ta ga kf ls H locs hm_ hgR ha1 ha2 hq0 hkf hF hl hP hD hS
      refine lv_iload_n hx hb dMo_from_7 rfl (lv_at hl 0 rfl) ?_
      refine lv_aload_n hx hb dMo_from_8 rfl (lv_at hl 1 rfl) ?_
      refine va_get (D := D) (ci := 5) (v := .int (nI I.length)) (C := R_Mo) (T := T_Mo) (N := 19) hx hb hw in_Mo hown hK hP 0 rfl rfl 0 (by decide) (hw _ w_364) (fun _ h9 => h9) rfl dMo_from_9 ?_
      refine lv_icmp_ge (tgt := 65) hx hb dMo_from_12 (by decide) (fun h12 => ?_) (fun h12 => ?_)
      · skip
        replace h12 := nt_le (a := I.length) (b := q0) (by omega) (by omega) h12
        have hlm : (acc.map nI).length = acc.length := List.length_map _
        refine lv_aload_n hx hb dMo_from_65 rfl (lv_at hl 1 rfl) ?_
        refine ca_i (wr := []) (va_runV (As := []) (rest := []) Xf (k_Mo_take l D cA _ mo xI xL xO xK xR xW I L O K gI gL gO gK hR_ gW wr at_ nu vl pc_ bs ta ga (acc.map nI) hfI hcI hfL hcL hfO hcO hfK hcK hgR (by omega)) ⟨cb_of 0 hw w_475 w_7 w_472 (by decide +kernel) (by rw [hR]; exact ⟨Nat.le_of_ble_eq_true rfl, Nat.le_of_ble_eq_true rfl⟩), hw _ w_474, hw _ ws_19⟩ (pre_V (As := []) hP hD hK hn [0, 1, 2, 3, 4, 5, 6] rfl (by decide) 0 5 rfl rfl) rfl rfl hl.1 rfl (lv_room (Nat.le_of_ble_eq_true rfl)) dMo_from_66 ⟨Nat.zero_le _, Nat.zero_le _⟩) hP hD hS hA [0, 1, 2, 3, 4, 5, 6] [] rfl rfl (by decide) (by decide) (fun r66 u_ H locs hq_ hP hD hS => ?_)
        obtain ⟨gL1, hgL1⟩ : ∃ z, z = u_ := ⟨_, rfl⟩
        rw [← hgL1] at hP hD hq_
        obtain ⟨rfl, hfL1⟩ := hq_
        replace hP : va_P D vwCl [(mo, .inr (5, [.int (nI I.length), .ref xI, .int (nI ((acc.map nI).length)), .ref xL, .int (nI O.length), .ref xO, .int (nI K.length), .ref xK, .int (nI ((acc.map nI).length)), .ref xR, .int wr, .ref xW, .int at_, .long nu, .long vl, .long pc_, .int bs, .int ta, .int ga])), (xI, .inl (cA, 120, .inl gI)), (xL, .inl (cA, 120, .inl gL1)), (xO, .inl (cA, 400, .inl gO)), (xK, .inl (cA, 120, .inl gK)), (xR, .inl (cA, 121, .inl hR_)), (xW, .inl (cA, 1000, .inl gW))] H := hP.sub [0, 1, 2, 3, 4, 5, 6] rfl
        replace hD : va_D A [(mo, .inr (5, [.int (nI I.length), .ref xI, .int (nI ((acc.map nI).length)), .ref xL, .int (nI O.length), .ref xO, .int (nI K.length), .ref xK, .int (nI ((acc.map nI).length)), .ref xR, .int wr, .ref xW, .int at_, .long nu, .long vl, .long pc_, .int bs, .int ta, .int ga])), (xI, .inl (cA, 120, .inl gI)), (xL, .inl (cA, 120, .inl gL1)), (xO, .inl (cA, 400, .inl gO)), (xK, .inl (cA, 120, .inl gK)), (xR, .inl (cA, 121, .inl hR_)), (xW, .inl (cA, 1000, .inl gW))] := hD.sub [0, 1, 2, 3, 4, 5, 6] (by decide) rfl
        have hz : frS (rd8 (un I)) I.length I.length 0 [] = (nI acc.length, some acc) := by rw [← hF]; exact frS_end h12
        exact ret ((acc.map nI), gL1, hR_, nI ((acc.map nI).length), ta, ga) dMo_from_69 rfl ⟨by unfold spF; rw [hz, List.length_map], by unfold spF; rw [hz], hfL1, by omega⟩ hP hD hS
      · skip
        replace h12 := nt_nle (a := I.length) (b := q0) (by omega) (by omega) h12
        have hlm : (acc.map nI).length = acc.length := List.length_map _
        refine lv_aload_n hx hb dMo_from_15 rfl (lv_at hl 1 rfl) ?_
        refine lv_iload_n hx hb dMo_from_16 rfl (lv_at hl 0 rfl) ?_
        refine lv_iload_n hx hb dMo_from_17 rfl (lv_at hl 2 rfl) ?_
        refine ca_i (wr := []) (va_runV (As := [.int (nI q0), .int (nI 1)]) (rest := []) Xf (k_Mo_read8 l D cA _ mo xI xL xO xK xR xW I L O K gI gL gO gK hR_ gW (nI ((acc.map nI).length)) wr at_ nu vl pc_ bs ta ga q0 hfI hcI hfL hcL hfO hcO hfK hcK (by omega)) ⟨cb_of 2 hw w_441 w_7 w_438 (by decide +kernel) (by rw [hR]; exact ⟨Nat.le_of_ble_eq_true rfl, Nat.le_of_ble_eq_true rfl⟩), hw _ w_440, hw _ ws_15⟩ (pre_V (As := [.int (nI q0), .int (nI 1)]) hP hD hK hn [0, 1, 2, 3, 4, 5, 6] rfl (by decide) 0 5 rfl rfl) rfl rfl hl.1 rfl (lv_room (Nat.le_of_ble_eq_true rfl)) dMo_from_18 ⟨Nat.zero_le _, Nat.zero_le _⟩) hP hD hS hA [0, 1, 2, 3, 4, 5, 6] [] rfl rfl (by decide) (by decide) (fun r18 u_ H locs hq_ hP hD hS => ?_)
        obtain rfl : r18 = ov (rd8 (un I) q0).1 := hq_
        replace hP : va_P D vwCl [(mo, .inr (5, [.int (nI I.length), .ref xI, .int (nI L.length), .ref xL, .int (nI O.length), .ref xO, .int (nI K.length), .ref xK, .int (nI ((acc.map nI).length)), .ref xR, .int wr, .ref xW, .int at_, .long nu, .long vl, .long pc_, .int bs, .int (tkv (rd8 (un I) q0)), .int (nI ((rd8 (un I) q0).2))])), (xI, .inl (cA, 120, .inl gI)), (xL, .inl (cA, 120, .inl gL)), (xO, .inl (cA, 400, .inl gO)), (xK, .inl (cA, 120, .inl gK)), (xR, .inl (cA, 121, .inl hR_)), (xW, .inl (cA, 1000, .inl gW))] H := hP.sub [0, 1, 2, 3, 4, 5, 6] rfl
        replace hD : va_D A [(mo, .inr (5, [.int (nI I.length), .ref xI, .int (nI L.length), .ref xL, .int (nI O.length), .ref xO, .int (nI K.length), .ref xK, .int (nI ((acc.map nI).length)), .ref xR, .int wr, .ref xW, .int at_, .long nu, .long vl, .long pc_, .int bs, .int (tkv (rd8 (un I) q0)), .int (nI ((rd8 (un I) q0).2))])), (xI, .inl (cA, 120, .inl gI)), (xL, .inl (cA, 120, .inl gL)), (xO, .inl (cA, 400, .inl gO)), (xK, .inl (cA, 120, .inl gK)), (xR, .inl (cA, 121, .inl hR_)), (xW, .inl (cA, 1000, .inl gW))] := hD.sub [0, 1, 2, 3, 4, 5, 6] (by decide) rfl
        have hrd : ∃ rr, rd8 (un I) q0 = rr := ⟨_, rfl⟩
        obtain ⟨⟨ro, g⟩, hrd⟩ := hrd
        rw [hrd] at hP hD ⊢
        have hg4 : g ≤ 4 := by have := (rd8_ok (un I)).2 q0; rw [hrd] at this; exact this
        rcases ro with _ | v
        · skip
          refine lv_rei (y := -1) rfl ?_
          replace hP : va_P D vwCl [(mo, .inr (5, [.int (nI I.length), .ref xI, .int (nI L.length), .ref xL, .int (nI O.length), .ref xO, .int (nI K.length), .ref xK, .int (nI ((acc.map nI).length)), .ref xR, .int wr, .ref xW, .int at_, .long nu, .long vl, .long pc_, .int bs, .int (nI 0), .int (nI g)])), (xI, .inl (cA, 120, .inl gI)), (xL, .inl (cA, 120, .inl gL)), (xO, .inl (cA, 400, .inl gO)), (xK, .inl (cA, 120, .inl gK)), (xR, .inl (cA, 121, .inl hR_)), (xW, .inl (cA, 1000, .inl gW))] H := hP
          replace hD : va_D A [(mo, .inr (5, [.int (nI I.length), .ref xI, .int (nI L.length), .ref xL, .int (nI O.length), .ref xO, .int (nI K.length), .ref xK, .int (nI ((acc.map nI).length)), .ref xR, .int wr, .ref xW, .int at_, .long nu, .long vl, .long pc_, .int bs, .int (nI 0), .int (nI g)])), (xI, .inl (cA, 120, .inl gI)), (xL, .inl (cA, 120, .inl gL)), (xO, .inl (cA, 400, .inl gO)), (xK, .inl (cA, 120, .inl gK)), (xR, .inl (cA, 121, .inl hR_)), (xW, .inl (cA, 1000, .inl gW))] := hD
          refine lv_istore_n (lv' := [(3, .int (-1)), (2, .int (nI q0)), (0, .ref mo), (1, .int (nI 1))]) hx hb dMo_from_21 rfl hl (by decide) rfl (fun ls hl => ?_)
          refine lv_iload_n hx hb dMo_from_22 rfl (lv_at hl 0 rfl) ?_
          refine lv_if_ge (tgt := 35) hx hb dMo_from_23 (by decide) (fun h23 => ?_) (fun h23 => ?_)
          · skip
            exact absurd h23 (by decide)
          · skip
            refine lv_iconst (v := (-1)) hx hb dMo_from_26 (by decide) ?_
            refine lv_iload_n hx hb dMo_from_27 rfl (lv_at hl 1 rfl) ?_
            refine lv_isub hx hb dMo_from_28 ?_
            refine lv_aload_n hx hb dMo_from_29 rfl (lv_at hl 2 rfl) ?_
            refine va_get (D := D) (ci := 5) (v := .int (nI g)) (C := R_Mo) (T := T_Mo) (N := 19) hx hb hw in_Mo hown hK hP 0 rfl rfl 18 (by decide) (hw _ w_382) (fun _ h9 => h9) rfl dMo_from_30 ?_
            refine lv_isub hx hb dMo_from_33 ?_
            have hz : frS (rd8 (un I)) I.length I.length 0 [] = (-1 - nI (q0 + g), none) := by rw [← hF]; obtain ⟨k2, rfl⟩ : ∃ k2, kf = k2 + 1 := ⟨kf - 1, by omega⟩; exact frS_no h12 hrd
            exact ret (L, gL, hR_, nI ((acc.map nI).length), nI 0, nI g) dMo_from_34 rfl ⟨by unfold spF; rw [hz, m1_ss], by unfold spF; rw [hz], hfL, hcL⟩ hP hD hS
        · skip
          refine lv_rei (y := nI v) rfl ?_
          obtain ⟨hg1, hsc⟩ := (rd8_ok (un I)).1 q0 v (by rw [hrd])
          rw [hrd] at hg1
          replace hg1 : 1 ≤ g := hg1
          have hvb : v ≤ 1114111 := hsc.1
          replace hP : va_P D vwCl [(mo, .inr (5, [.int (nI I.length), .ref xI, .int (nI L.length), .ref xL, .int (nI O.length), .ref xO, .int (nI K.length), .ref xK, .int (nI ((acc.map nI).length)), .ref xR, .int wr, .ref xW, .int at_, .long nu, .long vl, .long pc_, .int bs, .int (nI g), .int (nI g)])), (xI, .inl (cA, 120, .inl gI)), (xL, .inl (cA, 120, .inl gL)), (xO, .inl (cA, 400, .inl gO)), (xK, .inl (cA, 120, .inl gK)), (xR, .inl (cA, 121, .inl hR_)), (xW, .inl (cA, 1000, .inl gW))] H := hP
          replace hD : va_D A [(mo, .inr (5, [.int (nI I.length), .ref xI, .int (nI L.length), .ref xL, .int (nI O.length), .ref xO, .int (nI K.length), .ref xK, .int (nI ((acc.map nI).length)), .ref xR, .int wr, .ref xW, .int at_, .long nu, .long vl, .long pc_, .int bs, .int (nI g), .int (nI g)])), (xI, .inl (cA, 120, .inl gI)), (xL, .inl (cA, 120, .inl gL)), (xO, .inl (cA, 400, .inl gO)), (xK, .inl (cA, 120, .inl gK)), (xR, .inl (cA, 121, .inl hR_)), (xW, .inl (cA, 1000, .inl gW))] := hD
          refine lv_istore_n (lv' := [(3, .int (nI v)), (2, .int (nI q0)), (0, .ref mo), (1, .int (nI 1))]) hx hb dMo_from_21 rfl hl (by decide) rfl (fun ls hl => ?_)
          refine lv_iload_n hx hb dMo_from_22 rfl (lv_at hl 0 rfl) ?_
          refine lv_if_ge (tgt := 35) hx hb dMo_from_23 (by decide) (fun h23 => ?_) (fun h23 => ?_)
          · skip
            refine lv_aload_n hx hb dMo_from_35 rfl (lv_at hl 2 rfl) ?_
            refine va_get (D := D) (ci := 5) (v := .ref xR) (C := R_Mo) (T := T_Mo) (N := 19) hx hb hw in_Mo hown hK hP 0 rfl rfl 9 (by decide) (hw _ w_373) (fun _ h9 => h9) rfl dMo_from_36 ?_
            refine lv_aload_n hx hb dMo_from_39 rfl (lv_at hl 2 rfl) ?_
            refine va_get (D := D) (ci := 5) (v := .int (nI ((acc.map nI).length))) (C := R_Mo) (T := T_Mo) (N := 19) hx hb hw in_Mo hown hK hP 0 rfl rfl 8 (by decide) (hw _ w_372) (fun _ h9 => h9) rfl dMo_from_40 ?_
            refine lv_iload_n hx hb dMo_from_43 rfl (lv_at hl 0 rfl) ?_
            refine va_iast hx hb hK hP hD hS 5 0 rfl rfl (vp_in_nI (by omega) (by omega)) dMo_from_44 (fun H locs hP hD hS => ?_)
            rw [nI_clamp (by omega)] at hP hD
            have hP : va_P D vwCl [(mo, .inr (5, [.int (nI I.length), .ref xI, .int (nI L.length), .ref xL, .int (nI O.length), .ref xO, .int (nI K.length), .ref xK, .int (nI ((acc.map nI).length)), .ref xR, .int wr, .ref xW, .int at_, .long nu, .long vl, .long pc_, .int bs, .int (nI g), .int (nI g)])), (xI, .inl (cA, 120, .inl gI)), (xL, .inl (cA, 120, .inl gL)), (xO, .inl (cA, 400, .inl gO)), (xK, .inl (cA, 120, .inl gK)), (xR, .inl (cA, 121, .inl (upd hR_ ((acc.map nI).length) (nI v)))), (xW, .inl (cA, 1000, .inl gW))] H := hP
            have hD : va_D A [(mo, .inr (5, [.int (nI I.length), .ref xI, .int (nI L.length), .ref xL, .int (nI O.length), .ref xO, .int (nI K.length), .ref xK, .int (nI ((acc.map nI).length)), .ref xR, .int wr, .ref xW, .int at_, .long nu, .long vl, .long pc_, .int bs, .int (nI g), .int (nI g)])), (xI, .inl (cA, 120, .inl gI)), (xL, .inl (cA, 120, .inl gL)), (xO, .inl (cA, 400, .inl gO)), (xK, .inl (cA, 120, .inl gK)), (xR, .inl (cA, 121, .inl (upd hR_ ((acc.map nI).length) (nI v)))), (xW, .inl (cA, 1000, .inl gW))] := hD
            refine lv_aload_n hx hb dMo_from_45 rfl (lv_at hl 2 rfl) ?_
            refine lv_aload_n hx hb dMo_from_46 rfl (lv_at hl 2 rfl) ?_
            refine va_get (D := D) (ci := 5) (v := .int (nI ((acc.map nI).length))) (C := R_Mo) (T := T_Mo) (N := 19) hx hb hw in_Mo hown hK hP 0 rfl rfl 8 (by decide) (hw _ w_372) (fun _ h9 => h9) rfl dMo_from_47 ?_
            refine lv_iconst (v := nI 1) hx hb dMo_from_50 (by decide) ?_
            refine lv_iadd hx hb dMo_from_51 ?_
            refine lv_rei (y := nI ((acc.map nI).length + 1)) (nI_add _ _) ?_
            refine va_put (D := D) (ci := 5) (v := .int (nI ((acc.map nI).length + 1))) (ty := .int) (C := R_Mo) (T := T_Mo) (N := 19) hx hb hw in_Mo ty_Mo ty_Mo_ok nm_Mo hown hK hP hD hS 0 rfl rfl 8 (by decide) (hw _ w_372) (fun _ h9 => h9) rfl (by decide +kernel) rfl rfl (Nat.le_of_ble_eq_true rfl) dMo_from_52 (fun H locs hP hD hS => ?_)
            have hP : va_P D vwCl [(mo, .inr (5, [.int (nI I.length), .ref xI, .int (nI L.length), .ref xL, .int (nI O.length), .ref xO, .int (nI K.length), .ref xK, .int (nI ((acc.map nI).length + 1)), .ref xR, .int wr, .ref xW, .int at_, .long nu, .long vl, .long pc_, .int bs, .int (nI g), .int (nI g)])), (xI, .inl (cA, 120, .inl gI)), (xL, .inl (cA, 120, .inl gL)), (xO, .inl (cA, 400, .inl gO)), (xK, .inl (cA, 120, .inl gK)), (xR, .inl (cA, 121, .inl (upd hR_ ((acc.map nI).length) (nI v)))), (xW, .inl (cA, 1000, .inl gW))] H := hP
            have hD : va_D A [(mo, .inr (5, [.int (nI I.length), .ref xI, .int (nI L.length), .ref xL, .int (nI O.length), .ref xO, .int (nI K.length), .ref xK, .int (nI ((acc.map nI).length + 1)), .ref xR, .int wr, .ref xW, .int at_, .long nu, .long vl, .long pc_, .int bs, .int (nI g), .int (nI g)])), (xI, .inl (cA, 120, .inl gI)), (xL, .inl (cA, 120, .inl gL)), (xO, .inl (cA, 400, .inl gO)), (xK, .inl (cA, 120, .inl gK)), (xR, .inl (cA, 121, .inl (upd hR_ ((acc.map nI).length) (nI v)))), (xW, .inl (cA, 1000, .inl gW))] := hD
            refine lv_iload_n hx hb dMo_from_55 rfl (lv_at hl 1 rfl) ?_
            refine lv_aload_n hx hb dMo_from_56 rfl (lv_at hl 2 rfl) ?_
            refine va_get (D := D) (ci := 5) (v := .int (nI g)) (C := R_Mo) (T := T_Mo) (N := 19) hx hb hw in_Mo hown hK hP 0 rfl rfl 17 (by decide) (hw _ w_381) (fun _ h9 => h9) rfl dMo_from_57 ?_
            refine lv_iadd hx hb dMo_from_60 ?_
            refine lv_rei (y := nI (q0 + g)) (nI_add _ _) ?_
            refine lv_istore_n (lv' := [(2, .int (nI (q0 + g))), (3, .int (nI v)), (0, .ref mo), (1, .int (nI 1))]) hx hb dMo_from_61 rfl hl (by decide) rfl (fun ls hl => ?_)
            refine lv_goto (tgt := 7) hx hb dMo_from_62 (by decide) ?_
            have el : (acc.map nI).length + 1 = ((acc ++ [v]).map nI).length := by simp
            rw [el] at hP hD
            have hfn := Hd_add (x := nI v) hgR
            rw [map_snoc] at hfn
            obtain ⟨k2, rfl⟩ : ∃ k2, kf = k2 + 1 := ⟨kf - 1, by omega⟩
            rw [frS_so h12 hrd] at hF
            exact ih_loop1 (q0 + g) (acc ++ [v]) (upd hR_ ((acc.map nI).length) (nI v)) (nI g) (nI g) k2 _ _ _ (by omega) hfn (by simp only [List.length_append, List.length_singleton, List.length_nil, List.length_map, List.length_cons]; omega) (by simp only [List.length_append, List.length_singleton, List.length_nil, List.length_map, List.length_cons]; omega) (by omega) (by omega) hF (lv_sub hl [0, 2, 3] rfl) hP hD hS
          · skip
            exact absurd (nI_pos' (by omega)) h23
  exact loop1 _ 0 ([]) gR tk gd I.length _ _ _ (Nat.lt_succ_self _) (Hd_nil _) (Nat.le_refl _) (Nat.zero_le _) (Nat.zero_le _) (by omega) rfl (lv_sub hl [0, 1, 2] rfl) hP hD hS
set_option maxHeartbeats 4000000 in
set_option maxRecDepth 100000 in
theorem k_Mo_from6 (l : Launch) (D : va_G) (cA : ClassId) (sz : Nat) (mo xI xL xO xK xR xW : Nat) (I L O K : List Int32) (gI gL gO gK gR gW : Nat → Int32) (md wr at_ : Int32) (nu vl pc_ : Int64) (bs tk gd : Int32)  (hfI : Hd gI I) (hcI : I.length ≤ 120) (hfL : Hd gL L) (hcL : L.length ≤ 120) (hfO : Hd gO O) (hcO : O.length ≤ 400) (hfK : Hd gK K) (hcK : K.length ≤ 120)  : KI l D cA y_Mo_from c_Mo_from 4 .int 4 90 [.ref mo, .int (nI 0)] sz [(mo, .inr (5, [.int (nI I.length), .ref xI, .int (nI L.length), .ref xL, .int (nI O.length), .ref xO, .int (nI K.length), .ref xK, .int md, .ref xR, .int wr, .ref xW, .int at_, .long nu, .long vl, .long pc_, .int bs, .int tk, .int gd])), (xI, .inl (cA, 120, .inl gI)), (xL, .inl (cA, 120, .inl gL)), (xO, .inl (cA, 400, .inl gO)), (xK, .inl (cA, 120, .inl gK)), (xR, .inl (cA, 121, .inl gR)), (xW, .inl (cA, 1000, .inl gW))] (S := List Int32 × (Nat → Int32) × (Nat → Int32) × Int32 × Int32 × Int32) (fun r u => match u with | (L2, gL2, gR2, md2, tk2, gd2) => r = (spF (rd16 (un I)) I L).1 ∧ L2 = (spF (rd16 (un I)) I L).2 ∧ Hd gL2 L2 ∧ L2.length ≤ 120) (fun u => match u with | (L2, gL2, gR2, md2, tk2, gd2) => [(mo, .inr (5, [.int (nI I.length), .ref xI, .int (nI L2.length), .ref xL, .int (nI O.length), .ref xO, .int (nI K.length), .ref xK, .int md2, .ref xR, .int wr, .ref xW, .int at_, .long nu, .long vl, .long pc_, .int bs, .int tk2, .int gd2])), (xI, .inl (cA, 120, .inl gI)), (xL, .inl (cA, 120, .inl gL2)), (xO, .inl (cA, 400, .inl gO)), (xK, .inl (cA, 120, .inl gK)), (xR, .inl (cA, 121, .inl gR2)), (xW, .inl (cA, 1000, .inl gW))]) := by
  refine KI.of (by decide) (Nat.le_of_ble_eq_true rfl) ?_
  intro p e s m args below meth c Q R A ls Xf hR hA hS hP hD hK hn hl ret
  have hx := Xf.1
  have hb := Xf.2.1
  have hown : s.vm.findClass "ScalarScribeModel" = some m.cls := Xf.2.2.2.1
  have hw := Xf.2.2.2.2
  have hl : lv_has ls 4 [(0, .ref mo), (1, .int (nI 0))] := hl
  refine lv_aload_n hx hb dMo_from_0 rfl (lv_at hl 0 rfl) ?_
  refine lv_iconst (v := nI 0) hx hb dMo_from_1 (by decide) ?_
  refine va_put (D := D) (ci := 5) (v := .int (nI 0)) (ty := .int) (C := R_Mo) (T := T_Mo) (N := 19) hx hb hw in_Mo ty_Mo ty_Mo_ok nm_Mo hown hK hP hD hS 0 rfl rfl 8 (by decide) (hw _ w_372) (fun _ h9 => h9) rfl (by decide +kernel) rfl rfl (Nat.le_of_ble_eq_true rfl) dMo_from_2 (fun H locs hP hD hS => ?_)
  have hP : va_P D vwCl [(mo, .inr (5, [.int (nI I.length), .ref xI, .int (nI L.length), .ref xL, .int (nI O.length), .ref xO, .int (nI K.length), .ref xK, .int (nI 0), .ref xR, .int wr, .ref xW, .int at_, .long nu, .long vl, .long pc_, .int bs, .int tk, .int gd])), (xI, .inl (cA, 120, .inl gI)), (xL, .inl (cA, 120, .inl gL)), (xO, .inl (cA, 400, .inl gO)), (xK, .inl (cA, 120, .inl gK)), (xR, .inl (cA, 121, .inl gR)), (xW, .inl (cA, 1000, .inl gW))] H := hP
  have hD : va_D A [(mo, .inr (5, [.int (nI I.length), .ref xI, .int (nI L.length), .ref xL, .int (nI O.length), .ref xO, .int (nI K.length), .ref xK, .int (nI 0), .ref xR, .int wr, .ref xW, .int at_, .long nu, .long vl, .long pc_, .int bs, .int tk, .int gd])), (xI, .inl (cA, 120, .inl gI)), (xL, .inl (cA, 120, .inl gL)), (xO, .inl (cA, 400, .inl gO)), (xK, .inl (cA, 120, .inl gK)), (xR, .inl (cA, 121, .inl gR)), (xW, .inl (cA, 1000, .inl gW))] := hD
  refine lv_iconst (v := nI 0) hx hb dMo_from_5 (by decide) ?_
  refine lv_istore_n (lv' := [(2, .int (nI 0)), (0, .ref mo), (1, .int (nI 0))]) hx hb dMo_from_6 rfl hl (by decide) rfl (fun ls hl => ?_)
  have loop1 : ∀ (n_ : Nat) (q0 : Nat) (acc : List Nat) (hR_ : Nat → Int32) (ta : Int32) (ga : Int32) (kf : Nat) (ls : Array Slot) (H : Heap) (locs : List Loc), I.length - q0 < n_ → Hd hR_ (acc.map nI) → acc.length ≤ q0 → acc.length ≤ I.length → q0 ≤ I.length + 4 → I.length - q0 ≤ kf → frS (rd16 (un I)) I.length kf q0 acc = frS (rd16 (un I)) I.length I.length 0 [] → lv_has ls 4 [(2, .int (nI q0)), (0, .ref mo), (1, .int (nI 0))] → va_P D vwCl [(mo, .inr (5, [.int (nI I.length), .ref xI, .int (nI L.length), .ref xL, .int (nI O.length), .ref xO, .int (nI K.length), .ref xK, .int (nI ((acc.map nI).length)), .ref xR, .int wr, .ref xW, .int at_, .long nu, .long vl, .long pc_, .int bs, .int ta, .int ga])), (xI, .inl (cA, 120, .inl gI)), (xL, .inl (cA, 120, .inl gL)), (xO, .inl (cA, 400, .inl gO)), (xK, .inl (cA, 120, .inl gK)), (xR, .inl (cA, 121, .inl hR_)), (xW, .inl (cA, 1000, .inl gW))] H → va_D A [(mo, .inr (5, [.int (nI I.length), .ref xI, .int (nI L.length), .ref xL, .int (nI O.length), .ref xO, .int (nI K.length), .ref xK, .int (nI ((acc.map nI).length)), .ref xR, .int wr, .ref xW, .int at_, .long nu, .long vl, .long pc_, .int bs, .int ta, .int ga])), (xI, .inl (cA, 120, .inl gI)), (xL, .inl (cA, 120, .inl gL)), (xO, .inl (cA, 400, .inl gO)), (xK, .inl (cA, 120, .inl gK)), (xR, .inl (cA, 121, .inl hR_)), (xW, .inl (cA, 1000, .inl gW))] → va_S A s.heap H locs → W p l e R s m args below meth c H locs 0 0 Q (F0 m 7 ls []) := by
    intro n_
    induction n_ with
    | zero => intro q0 acc hR_ ta ga kf ls H locs hm_; exact absurd hm_ (Nat.not_lt_zero _)
    | succ n_ ih_loop1 =>
      intro q0 acc hR_ ta ga kf ls H locs hm_ hgR ha1 ha2 hq0 hkf hF hl hP hD hS
      refine lv_iload_n hx hb dMo_from_7 rfl (lv_at hl 0 rfl) ?_
      refine lv_aload_n hx hb dMo_from_8 rfl (lv_at hl 1 rfl) ?_
      refine va_get (D := D) (ci := 5) (v := .int (nI I.length)) (C := R_Mo) (T := T_Mo) (N := 19) hx hb hw in_Mo hown hK hP 0 rfl rfl 0 (by decide) (hw _ w_364) (fun _ h9 => h9) rfl dMo_from_9 ?_
      refine lv_icmp_ge (tgt := 65) hx hb dMo_from_12 (by decide) (fun h12 => ?_) (fun h12 => ?_)
      · skip
        replace h12 := nt_le (a := I.length) (b := q0) (by omega) (by omega) h12
        have hlm : (acc.map nI).length = acc.length := List.length_map _
        refine lv_aload_n hx hb dMo_from_65 rfl (lv_at hl 1 rfl) ?_
        refine ca_i (wr := []) (va_runV (As := []) (rest := []) Xf (k_Mo_take l D cA _ mo xI xL xO xK xR xW I L O K gI gL gO gK hR_ gW wr at_ nu vl pc_ bs ta ga (acc.map nI) hfI hcI hfL hcL hfO hcO hfK hcK hgR (by omega)) ⟨cb_of 0 hw w_475 w_7 w_472 (by decide +kernel) (by rw [hR]; exact ⟨Nat.le_of_ble_eq_true rfl, Nat.le_of_ble_eq_true rfl⟩), hw _ w_474, hw _ ws_19⟩ (pre_V (As := []) hP hD hK hn [0, 1, 2, 3, 4, 5, 6] rfl (by decide) 0 5 rfl rfl) rfl rfl hl.1 rfl (lv_room (Nat.le_of_ble_eq_true rfl)) dMo_from_66 ⟨Nat.zero_le _, Nat.zero_le _⟩) hP hD hS hA [0, 1, 2, 3, 4, 5, 6] [] rfl rfl (by decide) (by decide) (fun r66 u_ H locs hq_ hP hD hS => ?_)
        obtain ⟨gL1, hgL1⟩ : ∃ z, z = u_ := ⟨_, rfl⟩
        rw [← hgL1] at hP hD hq_
        obtain ⟨rfl, hfL1⟩ := hq_
        replace hP : va_P D vwCl [(mo, .inr (5, [.int (nI I.length), .ref xI, .int (nI ((acc.map nI).length)), .ref xL, .int (nI O.length), .ref xO, .int (nI K.length), .ref xK, .int (nI ((acc.map nI).length)), .ref xR, .int wr, .ref xW, .int at_, .long nu, .long vl, .long pc_, .int bs, .int ta, .int ga])), (xI, .inl (cA, 120, .inl gI)), (xL, .inl (cA, 120, .inl gL1)), (xO, .inl (cA, 400, .inl gO)), (xK, .inl (cA, 120, .inl gK)), (xR, .inl (cA, 121, .inl hR_)), (xW, .inl (cA, 1000, .inl gW))] H := hP.sub [0, 1, 2, 3, 4, 5, 6] rfl
        replace hD : va_D A [(mo, .inr (5, [.int (nI I.length), .ref xI, .int (nI ((acc.map nI).length)), .ref xL, .int (nI O.length), .ref xO, .int (nI K.length), .ref xK, .int (nI ((acc.map nI).length)), .ref xR, .int wr, .ref xW, .int at_, .long nu, .long vl, .long pc_, .int bs, .int ta, .int ga])), (xI, .inl (cA, 120, .inl gI)), (xL, .inl (cA, 120, .inl gL1)), (xO, .inl (cA, 400, .inl gO)), (xK, .inl (cA, 120, .inl gK)), (xR, .inl (cA, 121, .inl hR_)), (xW, .inl (cA, 1000, .inl gW))] := hD.sub [0, 1, 2, 3, 4, 5, 6] (by decide) rfl
        have hz : frS (rd16 (un I)) I.length I.length 0 [] = (nI acc.length, some acc) := by rw [← hF]; exact frS_end h12
        exact ret ((acc.map nI), gL1, hR_, nI ((acc.map nI).length), ta, ga) dMo_from_69 rfl ⟨by unfold spF; rw [hz, List.length_map], by unfold spF; rw [hz], hfL1, by omega⟩ hP hD hS
      · skip
        replace h12 := nt_nle (a := I.length) (b := q0) (by omega) (by omega) h12
        have hlm : (acc.map nI).length = acc.length := List.length_map _
        refine lv_aload_n hx hb dMo_from_15 rfl (lv_at hl 1 rfl) ?_
        refine lv_iload_n hx hb dMo_from_16 rfl (lv_at hl 0 rfl) ?_
        refine lv_iload_n hx hb dMo_from_17 rfl (lv_at hl 2 rfl) ?_
        refine ca_i (wr := []) (va_runV (As := [.int (nI q0), .int (nI 0)]) (rest := []) Xf (k_Mo_read6 l D cA _ mo xI xL xO xK xR xW I L O K gI gL gO gK hR_ gW (nI ((acc.map nI).length)) wr at_ nu vl pc_ bs ta ga q0 hfI hcI hfL hcL hfO hcO hfK hcK (by omega)) ⟨cb_of 2 hw w_441 w_7 w_438 (by decide +kernel) (by rw [hR]; exact ⟨Nat.le_of_ble_eq_true rfl, Nat.le_of_ble_eq_true rfl⟩), hw _ w_440, hw _ ws_15⟩ (pre_V (As := [.int (nI q0), .int (nI 0)]) hP hD hK hn [0, 1, 2, 3, 4, 5, 6] rfl (by decide) 0 5 rfl rfl) rfl rfl hl.1 rfl (lv_room (Nat.le_of_ble_eq_true rfl)) dMo_from_18 ⟨Nat.zero_le _, Nat.zero_le _⟩) hP hD hS hA [0, 1, 2, 3, 4, 5, 6] [] rfl rfl (by decide) (by decide) (fun r18 u_ H locs hq_ hP hD hS => ?_)
        obtain rfl : r18 = ov (rd16 (un I) q0).1 := hq_
        replace hP : va_P D vwCl [(mo, .inr (5, [.int (nI I.length), .ref xI, .int (nI L.length), .ref xL, .int (nI O.length), .ref xO, .int (nI K.length), .ref xK, .int (nI ((acc.map nI).length)), .ref xR, .int wr, .ref xW, .int at_, .long nu, .long vl, .long pc_, .int bs, .int (tkv (rd16 (un I) q0)), .int (nI ((rd16 (un I) q0).2))])), (xI, .inl (cA, 120, .inl gI)), (xL, .inl (cA, 120, .inl gL)), (xO, .inl (cA, 400, .inl gO)), (xK, .inl (cA, 120, .inl gK)), (xR, .inl (cA, 121, .inl hR_)), (xW, .inl (cA, 1000, .inl gW))] H := hP.sub [0, 1, 2, 3, 4, 5, 6] rfl
        replace hD : va_D A [(mo, .inr (5, [.int (nI I.length), .ref xI, .int (nI L.length), .ref xL, .int (nI O.length), .ref xO, .int (nI K.length), .ref xK, .int (nI ((acc.map nI).length)), .ref xR, .int wr, .ref xW, .int at_, .long nu, .long vl, .long pc_, .int bs, .int (tkv (rd16 (un I) q0)), .int (nI ((rd16 (un I) q0).2))])), (xI, .inl (cA, 120, .inl gI)), (xL, .inl (cA, 120, .inl gL)), (xO, .inl (cA, 400, .inl gO)), (xK, .inl (cA, 120, .inl gK)), (xR, .inl (cA, 121, .inl hR_)), (xW, .inl (cA, 1000, .inl gW))] := hD.sub [0, 1, 2, 3, 4, 5, 6] (by decide) rfl
        have hrd : ∃ rr, rd16 (un I) q0 = rr := ⟨_, rfl⟩
        obtain ⟨⟨ro, g⟩, hrd⟩ := hrd
        rw [hrd] at hP hD ⊢
        have hg4 : g ≤ 4 := by have := (rd16_ok (un I)).2 q0; rw [hrd] at this; exact this
        rcases ro with _ | v
        · skip
          refine lv_rei (y := -1) rfl ?_
          replace hP : va_P D vwCl [(mo, .inr (5, [.int (nI I.length), .ref xI, .int (nI L.length), .ref xL, .int (nI O.length), .ref xO, .int (nI K.length), .ref xK, .int (nI ((acc.map nI).length)), .ref xR, .int wr, .ref xW, .int at_, .long nu, .long vl, .long pc_, .int bs, .int (nI 0), .int (nI g)])), (xI, .inl (cA, 120, .inl gI)), (xL, .inl (cA, 120, .inl gL)), (xO, .inl (cA, 400, .inl gO)), (xK, .inl (cA, 120, .inl gK)), (xR, .inl (cA, 121, .inl hR_)), (xW, .inl (cA, 1000, .inl gW))] H := hP
          replace hD : va_D A [(mo, .inr (5, [.int (nI I.length), .ref xI, .int (nI L.length), .ref xL, .int (nI O.length), .ref xO, .int (nI K.length), .ref xK, .int (nI ((acc.map nI).length)), .ref xR, .int wr, .ref xW, .int at_, .long nu, .long vl, .long pc_, .int bs, .int (nI 0), .int (nI g)])), (xI, .inl (cA, 120, .inl gI)), (xL, .inl (cA, 120, .inl gL)), (xO, .inl (cA, 400, .inl gO)), (xK, .inl (cA, 120, .inl gK)), (xR, .inl (cA, 121, .inl hR_)), (xW, .inl (cA, 1000, .inl gW))] := hD
          refine lv_istore_n (lv' := [(3, .int (-1)), (2, .int (nI q0)), (0, .ref mo), (1, .int (nI 0))]) hx hb dMo_from_21 rfl hl (by decide) rfl (fun ls hl => ?_)
          refine lv_iload_n hx hb dMo_from_22 rfl (lv_at hl 0 rfl) ?_
          refine lv_if_ge (tgt := 35) hx hb dMo_from_23 (by decide) (fun h23 => ?_) (fun h23 => ?_)
          · skip
            exact absurd h23 (by decide)
          · skip
            refine lv_iconst (v := (-1)) hx hb dMo_from_26 (by decide) ?_
            refine lv_iload_n hx hb dMo_from_27 rfl (lv_at hl 1 rfl) ?_
            refine lv_isub hx hb dMo_from_28 ?_
            refine lv_aload_n hx hb dMo_from_29 rfl (lv_at hl 2 rfl) ?_
            refine va_get (D := D) (ci := 5) (v := .int (nI g)) (C := R_Mo) (T := T_Mo) (N := 19) hx hb hw in_Mo hown hK hP 0 rfl rfl 18 (by decide) (hw _ w_382) (fun _ h9 => h9) rfl dMo_from_30 ?_
            refine lv_isub hx hb dMo_from_33 ?_
            have hz : frS (rd16 (un I)) I.length I.length 0 [] = (-1 - nI (q0 + g), none) := by rw [← hF]; obtain ⟨k2, rfl⟩ : ∃ k2, kf = k2 + 1 := ⟨kf - 1, by omega⟩; exact frS_no h12 hrd
            exact ret (L, gL, hR_, nI ((acc.map nI).length), nI 0, nI g) dMo_from_34 rfl ⟨by unfold spF; rw [hz, m1_ss], by unfold spF; rw [hz], hfL, hcL⟩ hP hD hS
        · skip
          refine lv_rei (y := nI v) rfl ?_
          obtain ⟨hg1, hsc⟩ := (rd16_ok (un I)).1 q0 v (by rw [hrd])
          rw [hrd] at hg1
          replace hg1 : 1 ≤ g := hg1
          have hvb : v ≤ 1114111 := hsc.1
          replace hP : va_P D vwCl [(mo, .inr (5, [.int (nI I.length), .ref xI, .int (nI L.length), .ref xL, .int (nI O.length), .ref xO, .int (nI K.length), .ref xK, .int (nI ((acc.map nI).length)), .ref xR, .int wr, .ref xW, .int at_, .long nu, .long vl, .long pc_, .int bs, .int (nI g), .int (nI g)])), (xI, .inl (cA, 120, .inl gI)), (xL, .inl (cA, 120, .inl gL)), (xO, .inl (cA, 400, .inl gO)), (xK, .inl (cA, 120, .inl gK)), (xR, .inl (cA, 121, .inl hR_)), (xW, .inl (cA, 1000, .inl gW))] H := hP
          replace hD : va_D A [(mo, .inr (5, [.int (nI I.length), .ref xI, .int (nI L.length), .ref xL, .int (nI O.length), .ref xO, .int (nI K.length), .ref xK, .int (nI ((acc.map nI).length)), .ref xR, .int wr, .ref xW, .int at_, .long nu, .long vl, .long pc_, .int bs, .int (nI g), .int (nI g)])), (xI, .inl (cA, 120, .inl gI)), (xL, .inl (cA, 120, .inl gL)), (xO, .inl (cA, 400, .inl gO)), (xK, .inl (cA, 120, .inl gK)), (xR, .inl (cA, 121, .inl hR_)), (xW, .inl (cA, 1000, .inl gW))] := hD
          refine lv_istore_n (lv' := [(3, .int (nI v)), (2, .int (nI q0)), (0, .ref mo), (1, .int (nI 0))]) hx hb dMo_from_21 rfl hl (by decide) rfl (fun ls hl => ?_)
          refine lv_iload_n hx hb dMo_from_22 rfl (lv_at hl 0 rfl) ?_
          refine lv_if_ge (tgt := 35) hx hb dMo_from_23 (by decide) (fun h23 => ?_) (fun h23 => ?_)
          · skip
            refine lv_aload_n hx hb dMo_from_35 rfl (lv_at hl 2 rfl) ?_
            refine va_get (D := D) (ci := 5) (v := .ref xR) (C := R_Mo) (T := T_Mo) (N := 19) hx hb hw in_Mo hown hK hP 0 rfl rfl 9 (by decide) (hw _ w_373) (fun _ h9 => h9) rfl dMo_from_36 ?_
            refine lv_aload_n hx hb dMo_from_39 rfl (lv_at hl 2 rfl) ?_
            refine va_get (D := D) (ci := 5) (v := .int (nI ((acc.map nI).length))) (C := R_Mo) (T := T_Mo) (N := 19) hx hb hw in_Mo hown hK hP 0 rfl rfl 8 (by decide) (hw _ w_372) (fun _ h9 => h9) rfl dMo_from_40 ?_
            refine lv_iload_n hx hb dMo_from_43 rfl (lv_at hl 0 rfl) ?_
            refine va_iast hx hb hK hP hD hS 5 0 rfl rfl (vp_in_nI (by omega) (by omega)) dMo_from_44 (fun H locs hP hD hS => ?_)
            rw [nI_clamp (by omega)] at hP hD
            have hP : va_P D vwCl [(mo, .inr (5, [.int (nI I.length), .ref xI, .int (nI L.length), .ref xL, .int (nI O.length), .ref xO, .int (nI K.length), .ref xK, .int (nI ((acc.map nI).length)), .ref xR, .int wr, .ref xW, .int at_, .long nu, .long vl, .long pc_, .int bs, .int (nI g), .int (nI g)])), (xI, .inl (cA, 120, .inl gI)), (xL, .inl (cA, 120, .inl gL)), (xO, .inl (cA, 400, .inl gO)), (xK, .inl (cA, 120, .inl gK)), (xR, .inl (cA, 121, .inl (upd hR_ ((acc.map nI).length) (nI v)))), (xW, .inl (cA, 1000, .inl gW))] H := hP
            have hD : va_D A [(mo, .inr (5, [.int (nI I.length), .ref xI, .int (nI L.length), .ref xL, .int (nI O.length), .ref xO, .int (nI K.length), .ref xK, .int (nI ((acc.map nI).length)), .ref xR, .int wr, .ref xW, .int at_, .long nu, .long vl, .long pc_, .int bs, .int (nI g), .int (nI g)])), (xI, .inl (cA, 120, .inl gI)), (xL, .inl (cA, 120, .inl gL)), (xO, .inl (cA, 400, .inl gO)), (xK, .inl (cA, 120, .inl gK)), (xR, .inl (cA, 121, .inl (upd hR_ ((acc.map nI).length) (nI v)))), (xW, .inl (cA, 1000, .inl gW))] := hD
            refine lv_aload_n hx hb dMo_from_45 rfl (lv_at hl 2 rfl) ?_
            refine lv_aload_n hx hb dMo_from_46 rfl (lv_at hl 2 rfl) ?_
            refine va_get (D := D) (ci := 5) (v := .int (nI ((acc.map nI).length))) (C := R_Mo) (T := T_Mo) (N := 19) hx hb hw in_Mo hown hK hP 0 rfl rfl 8 (by decide) (hw _ w_372) (fun _ h9 => h9) rfl dMo_from_47 ?_
            refine lv_iconst (v := nI 1) hx hb dMo_from_50 (by decide) ?_
            refine lv_iadd hx hb dMo_from_51 ?_
            refine lv_rei (y := nI ((acc.map nI).length + 1)) (nI_add _ _) ?_
            refine va_put (D := D) (ci := 5) (v := .int (nI ((acc.map nI).length + 1))) (ty := .int) (C := R_Mo) (T := T_Mo) (N := 19) hx hb hw in_Mo ty_Mo ty_Mo_ok nm_Mo hown hK hP hD hS 0 rfl rfl 8 (by decide) (hw _ w_372) (fun _ h9 => h9) rfl (by decide +kernel) rfl rfl (Nat.le_of_ble_eq_true rfl) dMo_from_52 (fun H locs hP hD hS => ?_)
            have hP : va_P D vwCl [(mo, .inr (5, [.int (nI I.length), .ref xI, .int (nI L.length), .ref xL, .int (nI O.length), .ref xO, .int (nI K.length), .ref xK, .int (nI ((acc.map nI).length + 1)), .ref xR, .int wr, .ref xW, .int at_, .long nu, .long vl, .long pc_, .int bs, .int (nI g), .int (nI g)])), (xI, .inl (cA, 120, .inl gI)), (xL, .inl (cA, 120, .inl gL)), (xO, .inl (cA, 400, .inl gO)), (xK, .inl (cA, 120, .inl gK)), (xR, .inl (cA, 121, .inl (upd hR_ ((acc.map nI).length) (nI v)))), (xW, .inl (cA, 1000, .inl gW))] H := hP
            have hD : va_D A [(mo, .inr (5, [.int (nI I.length), .ref xI, .int (nI L.length), .ref xL, .int (nI O.length), .ref xO, .int (nI K.length), .ref xK, .int (nI ((acc.map nI).length + 1)), .ref xR, .int wr, .ref xW, .int at_, .long nu, .long vl, .long pc_, .int bs, .int (nI g), .int (nI g)])), (xI, .inl (cA, 120, .inl gI)), (xL, .inl (cA, 120, .inl gL)), (xO, .inl (cA, 400, .inl gO)), (xK, .inl (cA, 120, .inl gK)), (xR, .inl (cA, 121, .inl (upd hR_ ((acc.map nI).length) (nI v)))), (xW, .inl (cA, 1000, .inl gW))] := hD
            refine lv_iload_n hx hb dMo_from_55 rfl (lv_at hl 1 rfl) ?_
            refine lv_aload_n hx hb dMo_from_56 rfl (lv_at hl 2 rfl) ?_
            refine va_get (D := D) (ci := 5) (v := .int (nI g)) (C := R_Mo) (T := T_Mo) (N := 19) hx hb hw in_Mo hown hK hP 0 rfl rfl 17 (by decide) (hw _ w_381) (fun _ h9 => h9) rfl dMo_from_57 ?_
            refine lv_iadd hx hb dMo_from_60 ?_
            refine lv_rei (y := nI (q0 + g)) (nI_add _ _) ?_
            refine lv_istore_n (lv' := [(2, .int (nI (q0 + g))), (3, .int (nI v)), (0, .ref mo), (1, .int (nI 0))]) hx hb dMo_from_61 rfl hl (by decide) rfl (fun ls hl => ?_)
            refine lv_goto (tgt := 7) hx hb dMo_from_62 (by decide) ?_
            have el : (acc.map nI).length + 1 = ((acc ++ [v]).map nI).length := by simp
            rw [el] at hP hD
            have hfn := Hd_add (x := nI v) hgR
            rw [map_snoc] at hfn
            obtain ⟨k2, rfl⟩ : ∃ k2, kf = k2 + 1 := ⟨kf - 1, by omega⟩
            rw [frS_so h12 hrd] at hF
            exact ih_loop1 (q0 + g) (acc ++ [v]) (upd hR_ ((acc.map nI).length) (nI v)) (nI g) (nI g) k2 _ _ _ (by omega) hfn (by simp only [List.length_append, List.length_singleton, List.length_nil, List.length_map, List.length_cons]; omega) (by simp only [List.length_append, List.length_singleton, List.length_nil, List.length_map, List.length_cons]; omega) (by omega) (by omega) hF (lv_sub hl [0, 2, 3] rfl) hP hD hS
          · skip
            exact absurd (nI_pos' (by omega)) h23
  exact loop1 _ 0 ([]) gR tk gd I.length _ _ _ (Nat.lt_succ_self _) (Hd_nil _) (Nat.le_refl _) (Nat.zero_le _) (Nat.zero_le _) (by omega) rfl (lv_sub hl [0, 1, 2] rfl) hP hD hS
set_option maxHeartbeats 4000000 in
set_option maxRecDepth 100000 in
theorem k_Mo_fromEights (l : Launch) (D : va_G) (cA : ClassId) (sz : Nat) (mo xI xL xO xK xR xW : Nat) (I L O K : List Int32) (gI gL gO gK gR gW : Nat → Int32) (md wr at_ : Int32) (nu vl pc_ : Int64) (bs tk gd : Int32)  (hfI : Hd gI I) (hcI : I.length ≤ 120) (hfL : Hd gL L) (hcL : L.length ≤ 120) (hfO : Hd gO O) (hcO : O.length ≤ 400) (hfK : Hd gK K) (hcK : K.length ≤ 120)  : KI l D cA y_Mo_fromEights c_Mo_fromEights 1 .int 5 113 [.ref mo] sz [(mo, .inr (5, [.int (nI I.length), .ref xI, .int (nI L.length), .ref xL, .int (nI O.length), .ref xO, .int (nI K.length), .ref xK, .int md, .ref xR, .int wr, .ref xW, .int at_, .long nu, .long vl, .long pc_, .int bs, .int tk, .int gd])), (xI, .inl (cA, 120, .inl gI)), (xL, .inl (cA, 120, .inl gL)), (xO, .inl (cA, 400, .inl gO)), (xK, .inl (cA, 120, .inl gK)), (xR, .inl (cA, 121, .inl gR)), (xW, .inl (cA, 1000, .inl gW))] (S := List Int32 × (Nat → Int32) × (Nat → Int32) × Int32 × Int32 × Int32) (fun r u => match u with | (L2, gL2, gR2, md2, tk2, gd2) => r = (spF (rd8 (un I)) I L).1 ∧ L2 = (spF (rd8 (un I)) I L).2 ∧ Hd gL2 L2 ∧ L2.length ≤ 120) (fun u => match u with | (L2, gL2, gR2, md2, tk2, gd2) => [(mo, .inr (5, [.int (nI I.length), .ref xI, .int (nI L2.length), .ref xL, .int (nI O.length), .ref xO, .int (nI K.length), .ref xK, .int md2, .ref xR, .int wr, .ref xW, .int at_, .long nu, .long vl, .long pc_, .int bs, .int tk2, .int gd2])), (xI, .inl (cA, 120, .inl gI)), (xL, .inl (cA, 120, .inl gL2)), (xO, .inl (cA, 400, .inl gO)), (xK, .inl (cA, 120, .inl gK)), (xR, .inl (cA, 121, .inl gR2)), (xW, .inl (cA, 1000, .inl gW))]) := by
  refine KI.of (by decide) (Nat.le_of_ble_eq_true rfl) ?_
  intro p e s m args below meth c Q R A ls Xf hR hA hS hP hD hK hn hl ret
  have hx := Xf.1
  have hb := Xf.2.1
  have hown : s.vm.findClass "ScalarScribeModel" = some m.cls := Xf.2.2.2.1
  have hw := Xf.2.2.2.2
  have hl : lv_has ls 1 [(0, .ref mo)] := hl
  refine lv_aload_n hx hb dMo_fromEights_0 rfl (lv_at hl 0 rfl) ?_
  refine lv_iconst (v := nI 1) hx hb dMo_fromEights_1 (by decide) ?_
  refine ca_i (wr := []) (va_runV (As := [.int (nI 1)]) (rest := []) Xf (k_Mo_from8 l D cA _ mo xI xL xO xK xR xW I L O K gI gL gO gK gR gW md wr at_ nu vl pc_ bs tk gd hfI hcI hfL hcL hfO hcO hfK hcK) ⟨cb_of 1 hw w_437 w_7 w_434 (by decide +kernel) (by rw [hR]; exact ⟨Nat.le_of_ble_eq_true rfl, Nat.le_of_ble_eq_true rfl⟩), hw _ w_436, hw _ ws_14⟩ (pre_V (As := [.int (nI 1)]) hP hD hK hn [0, 1, 2, 3, 4, 5, 6] rfl (by decide) 0 5 rfl rfl) rfl rfl hl.1 rfl (lv_room (Nat.le_of_ble_eq_true rfl)) dMo_fromEights_2 ⟨Nat.zero_le _, Nat.zero_le _⟩) hP hD hS hA [0, 1, 2, 3, 4, 5, 6] [] rfl rfl (by decide) (by decide) (fun r2 u_ H locs hq_ hP hD hS => ?_)
  exact ret u_ dMo_fromEights_5 rfl hq_ hP hD hS
set_option maxHeartbeats 4000000 in
set_option maxRecDepth 100000 in
theorem k_Mo_fromSixteens (l : Launch) (D : va_G) (cA : ClassId) (sz : Nat) (mo xI xL xO xK xR xW : Nat) (I L O K : List Int32) (gI gL gO gK gR gW : Nat → Int32) (md wr at_ : Int32) (nu vl pc_ : Int64) (bs tk gd : Int32)  (hfI : Hd gI I) (hcI : I.length ≤ 120) (hfL : Hd gL L) (hcL : L.length ≤ 120) (hfO : Hd gO O) (hcO : O.length ≤ 400) (hfK : Hd gK K) (hcK : K.length ≤ 120)  : KI l D cA y_Mo_fromSixteens c_Mo_fromSixteens 1 .int 5 113 [.ref mo] sz [(mo, .inr (5, [.int (nI I.length), .ref xI, .int (nI L.length), .ref xL, .int (nI O.length), .ref xO, .int (nI K.length), .ref xK, .int md, .ref xR, .int wr, .ref xW, .int at_, .long nu, .long vl, .long pc_, .int bs, .int tk, .int gd])), (xI, .inl (cA, 120, .inl gI)), (xL, .inl (cA, 120, .inl gL)), (xO, .inl (cA, 400, .inl gO)), (xK, .inl (cA, 120, .inl gK)), (xR, .inl (cA, 121, .inl gR)), (xW, .inl (cA, 1000, .inl gW))] (S := List Int32 × (Nat → Int32) × (Nat → Int32) × Int32 × Int32 × Int32) (fun r u => match u with | (L2, gL2, gR2, md2, tk2, gd2) => r = (spF (rd16 (un I)) I L).1 ∧ L2 = (spF (rd16 (un I)) I L).2 ∧ Hd gL2 L2 ∧ L2.length ≤ 120) (fun u => match u with | (L2, gL2, gR2, md2, tk2, gd2) => [(mo, .inr (5, [.int (nI I.length), .ref xI, .int (nI L2.length), .ref xL, .int (nI O.length), .ref xO, .int (nI K.length), .ref xK, .int md2, .ref xR, .int wr, .ref xW, .int at_, .long nu, .long vl, .long pc_, .int bs, .int tk2, .int gd2])), (xI, .inl (cA, 120, .inl gI)), (xL, .inl (cA, 120, .inl gL2)), (xO, .inl (cA, 400, .inl gO)), (xK, .inl (cA, 120, .inl gK)), (xR, .inl (cA, 121, .inl gR2)), (xW, .inl (cA, 1000, .inl gW))]) := by
  refine KI.of (by decide) (Nat.le_of_ble_eq_true rfl) ?_
  intro p e s m args below meth c Q R A ls Xf hR hA hS hP hD hK hn hl ret
  have hx := Xf.1
  have hb := Xf.2.1
  have hown : s.vm.findClass "ScalarScribeModel" = some m.cls := Xf.2.2.2.1
  have hw := Xf.2.2.2.2
  have hl : lv_has ls 1 [(0, .ref mo)] := hl
  refine lv_aload_n hx hb dMo_fromSixteens_0 rfl (lv_at hl 0 rfl) ?_
  refine lv_iconst (v := nI 0) hx hb dMo_fromSixteens_1 (by decide) ?_
  refine ca_i (wr := []) (va_runV (As := [.int (nI 0)]) (rest := []) Xf (k_Mo_from6 l D cA _ mo xI xL xO xK xR xW I L O K gI gL gO gK gR gW md wr at_ nu vl pc_ bs tk gd hfI hcI hfL hcL hfO hcO hfK hcK) ⟨cb_of 1 hw w_437 w_7 w_434 (by decide +kernel) (by rw [hR]; exact ⟨Nat.le_of_ble_eq_true rfl, Nat.le_of_ble_eq_true rfl⟩), hw _ w_436, hw _ ws_14⟩ (pre_V (As := [.int (nI 0)]) hP hD hK hn [0, 1, 2, 3, 4, 5, 6] rfl (by decide) 0 5 rfl rfl) rfl rfl hl.1 rfl (lv_room (Nat.le_of_ble_eq_true rfl)) dMo_fromSixteens_2 ⟨Nat.zero_le _, Nat.zero_le _⟩) hP hD hS hA [0, 1, 2, 3, 4, 5, 6] [] rfl rfl (by decide) (by decide) (fun r2 u_ H locs hq_ hP hD hS => ?_)
  exact ret u_ dMo_fromSixteens_5 rfl hq_ hP hD hS
set_option maxHeartbeats 4000000 in
set_option maxRecDepth 100000 in
theorem k_Mo_mend8 (l : Launch) (D : va_G) (cA : ClassId) (sz : Nat) (mo xI xL xO xK xR xW : Nat) (I L O K : List Int32) (gI gL gO gK gR gW : Nat → Int32) (md wr at_ : Int32) (nu vl pc_ : Int64) (bs tk gd : Int32)  (hfI : Hd gI I) (hcI : I.length ≤ 120) (hfL : Hd gL L) (hcL : L.length ≤ 120) (hfO : Hd gO O) (hcO : O.length ≤ 400) (hfK : Hd gK K) (hcK : K.length ≤ 120)  : KI l D cA y_Mo_mend c_Mo_mend 5 .int 4 90 [.ref mo, .int (nI 1)] sz [(mo, .inr (5, [.int (nI I.length), .ref xI, .int (nI L.length), .ref xL, .int (nI O.length), .ref xO, .int (nI K.length), .ref xK, .int md, .ref xR, .int wr, .ref xW, .int at_, .long nu, .long vl, .long pc_, .int bs, .int tk, .int gd])), (xI, .inl (cA, 120, .inl gI)), (xL, .inl (cA, 120, .inl gL)), (xO, .inl (cA, 400, .inl gO)), (xK, .inl (cA, 120, .inl gK)), (xR, .inl (cA, 121, .inl gR)), (xW, .inl (cA, 1000, .inl gW))] (S := List Int32 × (Nat → Int32) × (Nat → Int32) × Int32 × Int32 × Int32) (fun r u => match u with | (L2, gL2, gR2, md2, tk2, gd2) => r = nI (mdS (rd8 (un I)) I.length I.length 0 [] 0).1 ∧ L2 = (mdS (rd8 (un I)) I.length I.length 0 [] 0).2.map nI ∧ Hd gL2 L2 ∧ L2.length ≤ 120) (fun u => match u with | (L2, gL2, gR2, md2, tk2, gd2) => [(mo, .inr (5, [.int (nI I.length), .ref xI, .int (nI L2.length), .ref xL, .int (nI O.length), .ref xO, .int (nI K.length), .ref xK, .int md2, .ref xR, .int wr, .ref xW, .int at_, .long nu, .long vl, .long pc_, .int bs, .int tk2, .int gd2])), (xI, .inl (cA, 120, .inl gI)), (xL, .inl (cA, 120, .inl gL2)), (xO, .inl (cA, 400, .inl gO)), (xK, .inl (cA, 120, .inl gK)), (xR, .inl (cA, 121, .inl gR2)), (xW, .inl (cA, 1000, .inl gW))]) := by
  refine KI.of (by decide) (Nat.le_of_ble_eq_true rfl) ?_
  intro p e s m args below meth c Q R A ls Xf hR hA hS hP hD hK hn hl ret
  have hx := Xf.1
  have hb := Xf.2.1
  have hown : s.vm.findClass "ScalarScribeModel" = some m.cls := Xf.2.2.2.1
  have hw := Xf.2.2.2.2
  have hl : lv_has ls 5 [(0, .ref mo), (1, .int (nI 1))] := hl
  refine lv_aload_n hx hb dMo_mend_0 rfl (lv_at hl 0 rfl) ?_
  refine lv_iconst (v := nI 0) hx hb dMo_mend_1 (by decide) ?_
  refine va_put (D := D) (ci := 5) (v := .int (nI 0)) (ty := .int) (C := R_Mo) (T := T_Mo) (N := 19) hx hb hw in_Mo ty_Mo ty_Mo_ok nm_Mo hown hK hP hD hS 0 rfl rfl 8 (by decide) (hw _ w_372) (fun _ h9 => h9) rfl (by decide +kernel) rfl rfl (Nat.le_of_ble_eq_true rfl) dMo_mend_2 (fun H locs hP hD hS => ?_)
  have hP : va_P D vwCl [(mo, .inr (5, [.int (nI I.length), .ref xI, .int (nI L.length), .ref xL, .int (nI O.length), .ref xO, .int (nI K.length), .ref xK, .int (nI 0), .ref xR, .int wr, .ref xW, .int at_, .long nu, .long vl, .long pc_, .int bs, .int tk, .int gd])), (xI, .inl (cA, 120, .inl gI)), (xL, .inl (cA, 120, .inl gL)), (xO, .inl (cA, 400, .inl gO)), (xK, .inl (cA, 120, .inl gK)), (xR, .inl (cA, 121, .inl gR)), (xW, .inl (cA, 1000, .inl gW))] H := hP
  have hD : va_D A [(mo, .inr (5, [.int (nI I.length), .ref xI, .int (nI L.length), .ref xL, .int (nI O.length), .ref xO, .int (nI K.length), .ref xK, .int (nI 0), .ref xR, .int wr, .ref xW, .int at_, .long nu, .long vl, .long pc_, .int bs, .int tk, .int gd])), (xI, .inl (cA, 120, .inl gI)), (xL, .inl (cA, 120, .inl gL)), (xO, .inl (cA, 400, .inl gO)), (xK, .inl (cA, 120, .inl gK)), (xR, .inl (cA, 121, .inl gR)), (xW, .inl (cA, 1000, .inl gW))] := hD
  refine lv_iconst (v := nI 0) hx hb dMo_mend_5 (by decide) ?_
  refine lv_istore_n (lv' := [(2, .int (nI 0)), (0, .ref mo), (1, .int (nI 1))]) hx hb dMo_mend_6 rfl hl (by decide) rfl (fun ls hl => ?_)
  refine lv_iconst (v := nI 0) hx hb dMo_mend_7 (by decide) ?_
  refine lv_istore_n (lv' := [(3, .int (nI 0)), (2, .int (nI 0)), (0, .ref mo), (1, .int (nI 1))]) hx hb dMo_mend_8 rfl hl (by decide) rfl (fun ls hl => ?_)
  have loop1 : ∀ (n_ : Nat) (q0 : Nat) (acc : List Nat) (cn : Nat) (hR_ : Nat → Int32) (ta : Int32) (ga : Int32) (kf : Nat) (ls : Array Slot) (H : Heap) (locs : List Loc), I.length - q0 < n_ → Hd hR_ (acc.map nI) → acc.length ≤ q0 → acc.length ≤ I.length → cn ≤ q0 → q0 ≤ I.length + 4 → I.length - q0 ≤ kf → mdS (rd8 (un I)) I.length kf q0 acc cn = mdS (rd8 (un I)) I.length I.length 0 [] 0 → lv_has ls 5 [(3, .int (nI q0)), (2, .int (nI cn)), (0, .ref mo), (1, .int (nI 1))] → va_P D vwCl [(mo, .inr (5, [.int (nI I.length), .ref xI, .int (nI L.length), .ref xL, .int (nI O.length), .ref xO, .int (nI K.length), .ref xK, .int (nI ((acc.map nI).length)), .ref xR, .int wr, .ref xW, .int at_, .long nu, .long vl, .long pc_, .int bs, .int ta, .int ga])), (xI, .inl (cA, 120, .inl gI)), (xL, .inl (cA, 120, .inl gL)), (xO, .inl (cA, 400, .inl gO)), (xK, .inl (cA, 120, .inl gK)), (xR, .inl (cA, 121, .inl hR_)), (xW, .inl (cA, 1000, .inl gW))] H → va_D A [(mo, .inr (5, [.int (nI I.length), .ref xI, .int (nI L.length), .ref xL, .int (nI O.length), .ref xO, .int (nI K.length), .ref xK, .int (nI ((acc.map nI).length)), .ref xR, .int wr, .ref xW, .int at_, .long nu, .long vl, .long pc_, .int bs, .int ta, .int ga])), (xI, .inl (cA, 120, .inl gI)), (xL, .inl (cA, 120, .inl gL)), (xO, .inl (cA, 400, .inl gO)), (xK, .inl (cA, 120, .inl gK)), (xR, .inl (cA, 121, .inl hR_)), (xW, .inl (cA, 1000, .inl gW))] → va_S A s.heap H locs → W p l e R s m args below meth c H locs 0 0 Q (F0 m 9 ls []) := by
    intro n_
    induction n_ with
    | zero => intro q0 acc cn hR_ ta ga kf ls H locs hm_; exact absurd hm_ (Nat.not_lt_zero _)
    | succ n_ ih_loop1 =>
      intro q0 acc cn hR_ ta ga kf ls H locs hm_ hgR ha1 ha2 hcn hq0 hkf hF hl hP hD hS
      refine lv_iload_n hx hb dMo_mend_9 rfl (lv_at hl 0 rfl) ?_
      refine lv_aload_n hx hb dMo_mend_10 rfl (lv_at hl 2 rfl) ?_
      refine va_get (D := D) (ci := 5) (v := .int (nI I.length)) (C := R_Mo) (T := T_Mo) (N := 19) hx hb hw in_Mo hown hK hP 0 rfl rfl 0 (by decide) (hw _ w_364) (fun _ h9 => h9) rfl dMo_mend_11 ?_
      refine lv_icmp_ge (tgt := 102) hx hb dMo_mend_14 (by decide) (fun h14 => ?_) (fun h14 => ?_)
      · skip
        replace h14 := nt_le (a := I.length) (b := q0) (by omega) (by omega) h14
        have hlm : (acc.map nI).length = acc.length := List.length_map _
        refine lv_aload_n hx hb dMo_mend_102 rfl (lv_at hl 2 rfl) ?_
        refine ca_i (wr := []) (va_runV (As := []) (rest := []) Xf (k_Mo_take l D cA _ mo xI xL xO xK xR xW I L O K gI gL gO gK hR_ gW wr at_ nu vl pc_ bs ta ga (acc.map nI) hfI hcI hfL hcL hfO hcO hfK hcK hgR (by omega)) ⟨cb_of 0 hw w_475 w_7 w_472 (by decide +kernel) (by rw [hR]; exact ⟨Nat.le_of_ble_eq_true rfl, Nat.le_of_ble_eq_true rfl⟩), hw _ w_474, hw _ ws_19⟩ (pre_V (As := []) hP hD hK hn [0, 1, 2, 3, 4, 5, 6] rfl (by decide) 0 5 rfl rfl) rfl rfl hl.1 rfl (lv_room (Nat.le_of_ble_eq_true rfl)) dMo_mend_103 ⟨Nat.zero_le _, Nat.zero_le _⟩) hP hD hS hA [0, 1, 2, 3, 4, 5, 6] [] rfl rfl (by decide) (by decide) (fun r103 u_ H locs hq_ hP hD hS => ?_)
        obtain ⟨gL1, hgL1⟩ : ∃ z, z = u_ := ⟨_, rfl⟩
        rw [← hgL1] at hP hD hq_
        obtain ⟨rfl, hfL1⟩ := hq_
        replace hP : va_P D vwCl [(mo, .inr (5, [.int (nI I.length), .ref xI, .int (nI ((acc.map nI).length)), .ref xL, .int (nI O.length), .ref xO, .int (nI K.length), .ref xK, .int (nI ((acc.map nI).length)), .ref xR, .int wr, .ref xW, .int at_, .long nu, .long vl, .long pc_, .int bs, .int ta, .int ga])), (xI, .inl (cA, 120, .inl gI)), (xL, .inl (cA, 120, .inl gL1)), (xO, .inl (cA, 400, .inl gO)), (xK, .inl (cA, 120, .inl gK)), (xR, .inl (cA, 121, .inl hR_)), (xW, .inl (cA, 1000, .inl gW))] H := hP.sub [0, 1, 2, 3, 4, 5, 6] rfl
        replace hD : va_D A [(mo, .inr (5, [.int (nI I.length), .ref xI, .int (nI ((acc.map nI).length)), .ref xL, .int (nI O.length), .ref xO, .int (nI K.length), .ref xK, .int (nI ((acc.map nI).length)), .ref xR, .int wr, .ref xW, .int at_, .long nu, .long vl, .long pc_, .int bs, .int ta, .int ga])), (xI, .inl (cA, 120, .inl gI)), (xL, .inl (cA, 120, .inl gL1)), (xO, .inl (cA, 400, .inl gO)), (xK, .inl (cA, 120, .inl gK)), (xR, .inl (cA, 121, .inl hR_)), (xW, .inl (cA, 1000, .inl gW))] := hD.sub [0, 1, 2, 3, 4, 5, 6] (by decide) rfl
        refine lv_pop hx hb dMo_mend_106 rfl ?_
        refine lv_iload_n hx hb dMo_mend_107 rfl (lv_at hl 1 rfl) ?_
        have hz : mdS (rd8 (un I)) I.length I.length 0 [] 0 = (cn, acc) := by rw [← hF]; exact mdS_end h14
        exact ret ((acc.map nI), gL1, hR_, nI ((acc.map nI).length), ta, ga) dMo_mend_108 rfl ⟨by rw [hz], by rw [hz], hfL1, by omega⟩ hP hD hS
      · skip
        replace h14 := nt_nle (a := I.length) (b := q0) (by omega) (by omega) h14
        have hlm : (acc.map nI).length = acc.length := List.length_map _
        refine lv_aload_n hx hb dMo_mend_17 rfl (lv_at hl 2 rfl) ?_
        refine lv_iload_n hx hb dMo_mend_18 rfl (lv_at hl 0 rfl) ?_
        refine lv_iload_n hx hb dMo_mend_19 rfl (lv_at hl 3 rfl) ?_
        refine ca_i (wr := []) (va_runV (As := [.int (nI q0), .int (nI 1)]) (rest := []) Xf (k_Mo_read8 l D cA _ mo xI xL xO xK xR xW I L O K gI gL gO gK hR_ gW (nI ((acc.map nI).length)) wr at_ nu vl pc_ bs ta ga q0 hfI hcI hfL hcL hfO hcO hfK hcK (by omega)) ⟨cb_of 2 hw w_441 w_7 w_438 (by decide +kernel) (by rw [hR]; exact ⟨Nat.le_of_ble_eq_true rfl, Nat.le_of_ble_eq_true rfl⟩), hw _ w_440, hw _ ws_15⟩ (pre_V (As := [.int (nI q0), .int (nI 1)]) hP hD hK hn [0, 1, 2, 3, 4, 5, 6] rfl (by decide) 0 5 rfl rfl) rfl rfl hl.1 rfl (lv_room (Nat.le_of_ble_eq_true rfl)) dMo_mend_20 ⟨Nat.zero_le _, Nat.zero_le _⟩) hP hD hS hA [0, 1, 2, 3, 4, 5, 6] [] rfl rfl (by decide) (by decide) (fun r20 u_ H locs hq_ hP hD hS => ?_)
        obtain rfl : r20 = ov (rd8 (un I) q0).1 := hq_
        replace hP : va_P D vwCl [(mo, .inr (5, [.int (nI I.length), .ref xI, .int (nI L.length), .ref xL, .int (nI O.length), .ref xO, .int (nI K.length), .ref xK, .int (nI ((acc.map nI).length)), .ref xR, .int wr, .ref xW, .int at_, .long nu, .long vl, .long pc_, .int bs, .int (tkv (rd8 (un I) q0)), .int (nI ((rd8 (un I) q0).2))])), (xI, .inl (cA, 120, .inl gI)), (xL, .inl (cA, 120, .inl gL)), (xO, .inl (cA, 400, .inl gO)), (xK, .inl (cA, 120, .inl gK)), (xR, .inl (cA, 121, .inl hR_)), (xW, .inl (cA, 1000, .inl gW))] H := hP.sub [0, 1, 2, 3, 4, 5, 6] rfl
        replace hD : va_D A [(mo, .inr (5, [.int (nI I.length), .ref xI, .int (nI L.length), .ref xL, .int (nI O.length), .ref xO, .int (nI K.length), .ref xK, .int (nI ((acc.map nI).length)), .ref xR, .int wr, .ref xW, .int at_, .long nu, .long vl, .long pc_, .int bs, .int (tkv (rd8 (un I) q0)), .int (nI ((rd8 (un I) q0).2))])), (xI, .inl (cA, 120, .inl gI)), (xL, .inl (cA, 120, .inl gL)), (xO, .inl (cA, 400, .inl gO)), (xK, .inl (cA, 120, .inl gK)), (xR, .inl (cA, 121, .inl hR_)), (xW, .inl (cA, 1000, .inl gW))] := hD.sub [0, 1, 2, 3, 4, 5, 6] (by decide) rfl
        have hrd : ∃ rr, rd8 (un I) q0 = rr := ⟨_, rfl⟩
        obtain ⟨⟨ro, g⟩, hrd⟩ := hrd
        rw [hrd] at hP hD ⊢
        have hg4 : g ≤ 4 := by have := (rd8_ok (un I)).2 q0; rw [hrd] at this; exact this
        rcases ro with _ | v
        · skip
          refine lv_rei (y := -1) rfl ?_
          replace hP : va_P D vwCl [(mo, .inr (5, [.int (nI I.length), .ref xI, .int (nI L.length), .ref xL, .int (nI O.length), .ref xO, .int (nI K.length), .ref xK, .int (nI ((acc.map nI).length)), .ref xR, .int wr, .ref xW, .int at_, .long nu, .long vl, .long pc_, .int bs, .int (nI 0), .int (nI g)])), (xI, .inl (cA, 120, .inl gI)), (xL, .inl (cA, 120, .inl gL)), (xO, .inl (cA, 400, .inl gO)), (xK, .inl (cA, 120, .inl gK)), (xR, .inl (cA, 121, .inl hR_)), (xW, .inl (cA, 1000, .inl gW))] H := hP
          replace hD : va_D A [(mo, .inr (5, [.int (nI I.length), .ref xI, .int (nI L.length), .ref xL, .int (nI O.length), .ref xO, .int (nI K.length), .ref xK, .int (nI ((acc.map nI).length)), .ref xR, .int wr, .ref xW, .int at_, .long nu, .long vl, .long pc_, .int bs, .int (nI 0), .int (nI g)])), (xI, .inl (cA, 120, .inl gI)), (xL, .inl (cA, 120, .inl gL)), (xO, .inl (cA, 400, .inl gO)), (xK, .inl (cA, 120, .inl gK)), (xR, .inl (cA, 121, .inl hR_)), (xW, .inl (cA, 1000, .inl gW))] := hD
          refine lv_istore (lv' := [(4, .int (-1)), (3, .int (nI q0)), (2, .int (nI cn)), (0, .ref mo), (1, .int (nI 1))]) hx hb dMo_mend_23 hl (by decide) rfl (fun ls hl => ?_)
          refine lv_aload_n hx hb dMo_mend_25 rfl (lv_at hl 3 rfl) ?_
          refine va_get (D := D) (ci := 5) (v := .ref xR) (C := R_Mo) (T := T_Mo) (N := 19) hx hb hw in_Mo hown hK hP 0 rfl rfl 9 (by decide) (hw _ w_373) (fun _ h9 => h9) rfl dMo_mend_26 ?_
          refine lv_aload_n hx hb dMo_mend_29 rfl (lv_at hl 3 rfl) ?_
          refine va_get (D := D) (ci := 5) (v := .int (nI ((acc.map nI).length))) (C := R_Mo) (T := T_Mo) (N := 19) hx hb hw in_Mo hown hK hP 0 rfl rfl 8 (by decide) (hw _ w_372) (fun _ h9 => h9) rfl dMo_mend_30 ?_
          refine lv_iload hx hb dMo_mend_33 (lv_at hl 0 rfl) ?_
          refine lv_if_ge (tgt := 43) hx hb dMo_mend_35 (by decide) (fun h35 => ?_) (fun h35 => ?_)
          · skip
            exact absurd h35 (by decide)
          · skip
            refine lv_ldc (v := nI 65533) hx hb hown (hw _ w_484) dMo_mend_38 ?_
            refine lv_goto (tgt := 45) hx hb dMo_mend_40 (by decide) ?_
            refine va_iast hx hb hK hP hD hS 5 0 rfl rfl (vp_in_nI (by omega) (by omega)) dMo_mend_45 (fun H locs hP hD hS => ?_)
            rw [nI_clamp (by omega)] at hP hD
            have hP : va_P D vwCl [(mo, .inr (5, [.int (nI I.length), .ref xI, .int (nI L.length), .ref xL, .int (nI O.length), .ref xO, .int (nI K.length), .ref xK, .int (nI ((acc.map nI).length)), .ref xR, .int wr, .ref xW, .int at_, .long nu, .long vl, .long pc_, .int bs, .int (nI 0), .int (nI g)])), (xI, .inl (cA, 120, .inl gI)), (xL, .inl (cA, 120, .inl gL)), (xO, .inl (cA, 400, .inl gO)), (xK, .inl (cA, 120, .inl gK)), (xR, .inl (cA, 121, .inl (upd hR_ ((acc.map nI).length) (nI 65533)))), (xW, .inl (cA, 1000, .inl gW))] H := hP
            have hD : va_D A [(mo, .inr (5, [.int (nI I.length), .ref xI, .int (nI L.length), .ref xL, .int (nI O.length), .ref xO, .int (nI K.length), .ref xK, .int (nI ((acc.map nI).length)), .ref xR, .int wr, .ref xW, .int at_, .long nu, .long vl, .long pc_, .int bs, .int (nI 0), .int (nI g)])), (xI, .inl (cA, 120, .inl gI)), (xL, .inl (cA, 120, .inl gL)), (xO, .inl (cA, 400, .inl gO)), (xK, .inl (cA, 120, .inl gK)), (xR, .inl (cA, 121, .inl (upd hR_ ((acc.map nI).length) (nI 65533)))), (xW, .inl (cA, 1000, .inl gW))] := hD
            refine lv_aload_n hx hb dMo_mend_46 rfl (lv_at hl 3 rfl) ?_
            refine lv_aload_n hx hb dMo_mend_47 rfl (lv_at hl 3 rfl) ?_
            refine va_get (D := D) (ci := 5) (v := .int (nI ((acc.map nI).length))) (C := R_Mo) (T := T_Mo) (N := 19) hx hb hw in_Mo hown hK hP 0 rfl rfl 8 (by decide) (hw _ w_372) (fun _ h9 => h9) rfl dMo_mend_48 ?_
            refine lv_iconst (v := nI 1) hx hb dMo_mend_51 (by decide) ?_
            refine lv_iadd hx hb dMo_mend_52 ?_
            refine lv_rei (y := nI ((acc.map nI).length + 1)) (nI_add _ _) ?_
            refine va_put (D := D) (ci := 5) (v := .int (nI ((acc.map nI).length + 1))) (ty := .int) (C := R_Mo) (T := T_Mo) (N := 19) hx hb hw in_Mo ty_Mo ty_Mo_ok nm_Mo hown hK hP hD hS 0 rfl rfl 8 (by decide) (hw _ w_372) (fun _ h9 => h9) rfl (by decide +kernel) rfl rfl (Nat.le_of_ble_eq_true rfl) dMo_mend_53 (fun H locs hP hD hS => ?_)
            have hP : va_P D vwCl [(mo, .inr (5, [.int (nI I.length), .ref xI, .int (nI L.length), .ref xL, .int (nI O.length), .ref xO, .int (nI K.length), .ref xK, .int (nI ((acc.map nI).length + 1)), .ref xR, .int wr, .ref xW, .int at_, .long nu, .long vl, .long pc_, .int bs, .int (nI 0), .int (nI g)])), (xI, .inl (cA, 120, .inl gI)), (xL, .inl (cA, 120, .inl gL)), (xO, .inl (cA, 400, .inl gO)), (xK, .inl (cA, 120, .inl gK)), (xR, .inl (cA, 121, .inl (upd hR_ ((acc.map nI).length) (nI 65533)))), (xW, .inl (cA, 1000, .inl gW))] H := hP
            have hD : va_D A [(mo, .inr (5, [.int (nI I.length), .ref xI, .int (nI L.length), .ref xL, .int (nI O.length), .ref xO, .int (nI K.length), .ref xK, .int (nI ((acc.map nI).length + 1)), .ref xR, .int wr, .ref xW, .int at_, .long nu, .long vl, .long pc_, .int bs, .int (nI 0), .int (nI g)])), (xI, .inl (cA, 120, .inl gI)), (xL, .inl (cA, 120, .inl gL)), (xO, .inl (cA, 400, .inl gO)), (xK, .inl (cA, 120, .inl gK)), (xR, .inl (cA, 121, .inl (upd hR_ ((acc.map nI).length) (nI 65533)))), (xW, .inl (cA, 1000, .inl gW))] := hD
            refine lv_iload hx hb dMo_mend_56 (lv_at hl 0 rfl) ?_
            refine lv_if_ge (tgt := 67) hx hb dMo_mend_58 (by decide) (fun h58 => ?_) (fun h58 => ?_)
            · skip
              exact absurd h58 (by decide)
            · skip
              refine lv_iload_n hx hb dMo_mend_61 rfl (lv_at hl 2 rfl) ?_
              refine lv_iconst (v := nI 1) hx hb dMo_mend_62 (by decide) ?_
              refine lv_iadd hx hb dMo_mend_63 ?_
              refine lv_rei (y := nI (cn + 1)) (nI_add _ _) ?_
              refine lv_goto (tgt := 68) hx hb dMo_mend_64 (by decide) ?_
              refine lv_istore_n (lv' := [(2, .int (nI (cn + 1))), (4, .int (-1)), (3, .int (nI q0)), (0, .ref mo), (1, .int (nI 1))]) hx hb dMo_mend_68 rfl hl (by decide) rfl (fun ls hl => ?_)
              refine lv_iload_n hx hb dMo_mend_69 rfl (lv_at hl 2 rfl) ?_
              refine lv_iload hx hb dMo_mend_70 (lv_at hl 1 rfl) ?_
              refine lv_if_lt (tgt := 82) hx hb dMo_mend_72 (by decide) (fun h72 => ?_) (fun h72 => ?_)
              · skip
                refine lv_aload_n hx hb dMo_mend_82 rfl (lv_at hl 3 rfl) ?_
                refine va_get (D := D) (ci := 5) (v := .int (nI g)) (C := R_Mo) (T := T_Mo) (N := 19) hx hb hw in_Mo hown hK hP 0 rfl rfl 18 (by decide) (hw _ w_382) (fun _ h9 => h9) rfl dMo_mend_83 ?_
                refine lv_if_le (tgt := 96) hx hb dMo_mend_86 (by decide) (fun h86 => ?_) (fun h86 => ?_)
                · skip
                  replace h86 := nt_le (a := g) (b := 0) (by omega) (by omega) h86
                  refine lv_iconst (v := nI 1) hx hb dMo_mend_96 (by decide) ?_
                  refine lv_iadd hx hb dMo_mend_97 ?_
                  refine lv_rei (y := nI (q0 + 1)) (nI_add _ _) ?_
                  refine lv_istore_n (lv' := [(3, .int (nI (q0 + 1))), (2, .int (nI (cn + 1))), (4, .int (-1)), (0, .ref mo), (1, .int (nI 1))]) hx hb dMo_mend_98 rfl hl (by decide) rfl (fun ls hl => ?_)
                  refine lv_goto (tgt := 9) hx hb dMo_mend_99 (by decide) ?_
                  have el : (acc.map nI).length + 1 = ((acc ++ [65533]).map nI).length := by simp
                  rw [el] at hP hD
                  have hfn := Hd_add (x := nI 65533) hgR
                  rw [map_snoc] at hfn
                  obtain ⟨k2, rfl⟩ : ∃ k2, kf = k2 + 1 := ⟨kf - 1, by omega⟩
                  rw [mdS_no h14 hrd] at hF
                  have em1 : q0 + 1 = q0 + max 1 g := by omega
                  rw [em1] at hl
                  exact ih_loop1 (q0 + max 1 g) (acc ++ [65533]) (cn + 1) (upd hR_ ((acc.map nI).length) (nI 65533)) (nI 0) (nI g) k2 _ _ _ (by omega) hfn (by simp only [List.length_append, List.length_singleton, List.length_nil, List.length_map, List.length_cons]; omega) (by simp only [List.length_append, List.length_singleton, List.length_nil, List.length_map, List.length_cons]; omega) (by omega) (by omega) (by omega) hF (lv_sub hl [0, 1, 3, 4] rfl) hP hD hS
                · skip
                  replace h86 := nt_nle (a := g) (b := 0) (by omega) (by omega) h86
                  refine lv_aload_n hx hb dMo_mend_89 rfl (lv_at hl 3 rfl) ?_
                  refine va_get (D := D) (ci := 5) (v := .int (nI g)) (C := R_Mo) (T := T_Mo) (N := 19) hx hb hw in_Mo hown hK hP 0 rfl rfl 18 (by decide) (hw _ w_382) (fun _ h9 => h9) rfl dMo_mend_90 ?_
                  refine lv_goto (tgt := 97) hx hb dMo_mend_93 (by decide) ?_
                  refine lv_iadd hx hb dMo_mend_97 ?_
                  refine lv_rei (y := nI (q0 + g)) (nI_add _ _) ?_
                  refine lv_istore_n (lv' := [(3, .int (nI (q0 + g))), (2, .int (nI (cn + 1))), (4, .int (-1)), (0, .ref mo), (1, .int (nI 1))]) hx hb dMo_mend_98 rfl hl (by decide) rfl (fun ls hl => ?_)
                  refine lv_goto (tgt := 9) hx hb dMo_mend_99 (by decide) ?_
                  have el : (acc.map nI).length + 1 = ((acc ++ [65533]).map nI).length := by simp
                  rw [el] at hP hD
                  have hfn := Hd_add (x := nI 65533) hgR
                  rw [map_snoc] at hfn
                  obtain ⟨k2, rfl⟩ : ∃ k2, kf = k2 + 1 := ⟨kf - 1, by omega⟩
                  rw [mdS_no h14 hrd] at hF
                  have em1 : q0 + g = q0 + max 1 g := by omega
                  rw [em1] at hl
                  exact ih_loop1 (q0 + max 1 g) (acc ++ [65533]) (cn + 1) (upd hR_ ((acc.map nI).length) (nI 65533)) (nI 0) (nI g) k2 _ _ _ (by omega) hfn (by simp only [List.length_append, List.length_singleton, List.length_nil, List.length_map, List.length_cons]; omega) (by simp only [List.length_append, List.length_singleton, List.length_nil, List.length_map, List.length_cons]; omega) (by omega) (by omega) (by omega) hF (lv_sub hl [0, 1, 3, 4] rfl) hP hD hS
              · skip
                exact absurd h72 (by decide)
        · skip
          refine lv_rei (y := nI v) rfl ?_
          obtain ⟨hg1, hsc⟩ := (rd8_ok (un I)).1 q0 v (by rw [hrd])
          rw [hrd] at hg1
          replace hg1 : 1 ≤ g := hg1
          have hvb : v ≤ 1114111 := hsc.1
          replace hP : va_P D vwCl [(mo, .inr (5, [.int (nI I.length), .ref xI, .int (nI L.length), .ref xL, .int (nI O.length), .ref xO, .int (nI K.length), .ref xK, .int (nI ((acc.map nI).length)), .ref xR, .int wr, .ref xW, .int at_, .long nu, .long vl, .long pc_, .int bs, .int (nI g), .int (nI g)])), (xI, .inl (cA, 120, .inl gI)), (xL, .inl (cA, 120, .inl gL)), (xO, .inl (cA, 400, .inl gO)), (xK, .inl (cA, 120, .inl gK)), (xR, .inl (cA, 121, .inl hR_)), (xW, .inl (cA, 1000, .inl gW))] H := hP
          replace hD : va_D A [(mo, .inr (5, [.int (nI I.length), .ref xI, .int (nI L.length), .ref xL, .int (nI O.length), .ref xO, .int (nI K.length), .ref xK, .int (nI ((acc.map nI).length)), .ref xR, .int wr, .ref xW, .int at_, .long nu, .long vl, .long pc_, .int bs, .int (nI g), .int (nI g)])), (xI, .inl (cA, 120, .inl gI)), (xL, .inl (cA, 120, .inl gL)), (xO, .inl (cA, 400, .inl gO)), (xK, .inl (cA, 120, .inl gK)), (xR, .inl (cA, 121, .inl hR_)), (xW, .inl (cA, 1000, .inl gW))] := hD
          refine lv_istore (lv' := [(4, .int (nI v)), (3, .int (nI q0)), (2, .int (nI cn)), (0, .ref mo), (1, .int (nI 1))]) hx hb dMo_mend_23 hl (by decide) rfl (fun ls hl => ?_)
          refine lv_aload_n hx hb dMo_mend_25 rfl (lv_at hl 3 rfl) ?_
          refine va_get (D := D) (ci := 5) (v := .ref xR) (C := R_Mo) (T := T_Mo) (N := 19) hx hb hw in_Mo hown hK hP 0 rfl rfl 9 (by decide) (hw _ w_373) (fun _ h9 => h9) rfl dMo_mend_26 ?_
          refine lv_aload_n hx hb dMo_mend_29 rfl (lv_at hl 3 rfl) ?_
          refine va_get (D := D) (ci := 5) (v := .int (nI ((acc.map nI).length))) (C := R_Mo) (T := T_Mo) (N := 19) hx hb hw in_Mo hown hK hP 0 rfl rfl 8 (by decide) (hw _ w_372) (fun _ h9 => h9) rfl dMo_mend_30 ?_
          refine lv_iload hx hb dMo_mend_33 (lv_at hl 0 rfl) ?_
          refine lv_if_ge (tgt := 43) hx hb dMo_mend_35 (by decide) (fun h35 => ?_) (fun h35 => ?_)
          · skip
            refine lv_iload hx hb dMo_mend_43 (lv_at hl 0 rfl) ?_
            refine va_iast hx hb hK hP hD hS 5 0 rfl rfl (vp_in_nI (by omega) (by omega)) dMo_mend_45 (fun H locs hP hD hS => ?_)
            rw [nI_clamp (by omega)] at hP hD
            have hP : va_P D vwCl [(mo, .inr (5, [.int (nI I.length), .ref xI, .int (nI L.length), .ref xL, .int (nI O.length), .ref xO, .int (nI K.length), .ref xK, .int (nI ((acc.map nI).length)), .ref xR, .int wr, .ref xW, .int at_, .long nu, .long vl, .long pc_, .int bs, .int (nI g), .int (nI g)])), (xI, .inl (cA, 120, .inl gI)), (xL, .inl (cA, 120, .inl gL)), (xO, .inl (cA, 400, .inl gO)), (xK, .inl (cA, 120, .inl gK)), (xR, .inl (cA, 121, .inl (upd hR_ ((acc.map nI).length) (nI v)))), (xW, .inl (cA, 1000, .inl gW))] H := hP
            have hD : va_D A [(mo, .inr (5, [.int (nI I.length), .ref xI, .int (nI L.length), .ref xL, .int (nI O.length), .ref xO, .int (nI K.length), .ref xK, .int (nI ((acc.map nI).length)), .ref xR, .int wr, .ref xW, .int at_, .long nu, .long vl, .long pc_, .int bs, .int (nI g), .int (nI g)])), (xI, .inl (cA, 120, .inl gI)), (xL, .inl (cA, 120, .inl gL)), (xO, .inl (cA, 400, .inl gO)), (xK, .inl (cA, 120, .inl gK)), (xR, .inl (cA, 121, .inl (upd hR_ ((acc.map nI).length) (nI v)))), (xW, .inl (cA, 1000, .inl gW))] := hD
            refine lv_aload_n hx hb dMo_mend_46 rfl (lv_at hl 3 rfl) ?_
            refine lv_aload_n hx hb dMo_mend_47 rfl (lv_at hl 3 rfl) ?_
            refine va_get (D := D) (ci := 5) (v := .int (nI ((acc.map nI).length))) (C := R_Mo) (T := T_Mo) (N := 19) hx hb hw in_Mo hown hK hP 0 rfl rfl 8 (by decide) (hw _ w_372) (fun _ h9 => h9) rfl dMo_mend_48 ?_
            refine lv_iconst (v := nI 1) hx hb dMo_mend_51 (by decide) ?_
            refine lv_iadd hx hb dMo_mend_52 ?_
            refine lv_rei (y := nI ((acc.map nI).length + 1)) (nI_add _ _) ?_
            refine va_put (D := D) (ci := 5) (v := .int (nI ((acc.map nI).length + 1))) (ty := .int) (C := R_Mo) (T := T_Mo) (N := 19) hx hb hw in_Mo ty_Mo ty_Mo_ok nm_Mo hown hK hP hD hS 0 rfl rfl 8 (by decide) (hw _ w_372) (fun _ h9 => h9) rfl (by decide +kernel) rfl rfl (Nat.le_of_ble_eq_true rfl) dMo_mend_53 (fun H locs hP hD hS => ?_)
            have hP : va_P D vwCl [(mo, .inr (5, [.int (nI I.length), .ref xI, .int (nI L.length), .ref xL, .int (nI O.length), .ref xO, .int (nI K.length), .ref xK, .int (nI ((acc.map nI).length + 1)), .ref xR, .int wr, .ref xW, .int at_, .long nu, .long vl, .long pc_, .int bs, .int (nI g), .int (nI g)])), (xI, .inl (cA, 120, .inl gI)), (xL, .inl (cA, 120, .inl gL)), (xO, .inl (cA, 400, .inl gO)), (xK, .inl (cA, 120, .inl gK)), (xR, .inl (cA, 121, .inl (upd hR_ ((acc.map nI).length) (nI v)))), (xW, .inl (cA, 1000, .inl gW))] H := hP
            have hD : va_D A [(mo, .inr (5, [.int (nI I.length), .ref xI, .int (nI L.length), .ref xL, .int (nI O.length), .ref xO, .int (nI K.length), .ref xK, .int (nI ((acc.map nI).length + 1)), .ref xR, .int wr, .ref xW, .int at_, .long nu, .long vl, .long pc_, .int bs, .int (nI g), .int (nI g)])), (xI, .inl (cA, 120, .inl gI)), (xL, .inl (cA, 120, .inl gL)), (xO, .inl (cA, 400, .inl gO)), (xK, .inl (cA, 120, .inl gK)), (xR, .inl (cA, 121, .inl (upd hR_ ((acc.map nI).length) (nI v)))), (xW, .inl (cA, 1000, .inl gW))] := hD
            refine lv_iload hx hb dMo_mend_56 (lv_at hl 0 rfl) ?_
            refine lv_if_ge (tgt := 67) hx hb dMo_mend_58 (by decide) (fun h58 => ?_) (fun h58 => ?_)
            · skip
              refine lv_iload_n hx hb dMo_mend_67 rfl (lv_at hl 2 rfl) ?_
              refine lv_istore_n (lv' := [(2, .int (nI cn)), (4, .int (nI v)), (3, .int (nI q0)), (0, .ref mo), (1, .int (nI 1))]) hx hb dMo_mend_68 rfl hl (by decide) rfl (fun ls hl => ?_)
              refine lv_iload_n hx hb dMo_mend_69 rfl (lv_at hl 2 rfl) ?_
              refine lv_iload hx hb dMo_mend_70 (lv_at hl 1 rfl) ?_
              refine lv_if_lt (tgt := 82) hx hb dMo_mend_72 (by decide) (fun h72 => ?_) (fun h72 => ?_)
              · skip
                exact absurd h72 (nI_pos (by omega))
              · skip
                refine lv_aload_n hx hb dMo_mend_75 rfl (lv_at hl 3 rfl) ?_
                refine va_get (D := D) (ci := 5) (v := .int (nI g)) (C := R_Mo) (T := T_Mo) (N := 19) hx hb hw in_Mo hown hK hP 0 rfl rfl 17 (by decide) (hw _ w_381) (fun _ h9 => h9) rfl dMo_mend_76 ?_
                refine lv_goto (tgt := 97) hx hb dMo_mend_79 (by decide) ?_
                refine lv_iadd hx hb dMo_mend_97 ?_
                refine lv_rei (y := nI (q0 + g)) (nI_add _ _) ?_
                refine lv_istore_n (lv' := [(3, .int (nI (q0 + g))), (2, .int (nI cn)), (4, .int (nI v)), (0, .ref mo), (1, .int (nI 1))]) hx hb dMo_mend_98 rfl hl (by decide) rfl (fun ls hl => ?_)
                refine lv_goto (tgt := 9) hx hb dMo_mend_99 (by decide) ?_
                have el : (acc.map nI).length + 1 = ((acc ++ [v]).map nI).length := by simp
                rw [el] at hP hD
                have hfn := Hd_add (x := nI v) hgR
                rw [map_snoc] at hfn
                obtain ⟨k2, rfl⟩ : ∃ k2, kf = k2 + 1 := ⟨kf - 1, by omega⟩
                rw [mdS_so h14 hrd] at hF
                exact ih_loop1 (q0 + g) (acc ++ [v]) cn (upd hR_ ((acc.map nI).length) (nI v)) (nI g) (nI g) k2 _ _ _ (by omega) hfn (by simp only [List.length_append, List.length_singleton, List.length_nil, List.length_map, List.length_cons]; omega) (by simp only [List.length_append, List.length_singleton, List.length_nil, List.length_map, List.length_cons]; omega) (by omega) (by omega) (by omega) hF (lv_sub hl [0, 1, 3, 4] rfl) hP hD hS
            · skip
              exact absurd (nI_pos' (by omega)) h58
          · skip
            exact absurd (nI_pos' (by omega)) h35
  exact loop1 _ 0 ([]) 0 gR tk gd I.length _ _ _ (Nat.lt_succ_self _) (Hd_nil _) (Nat.le_refl _) (Nat.zero_le _) (Nat.le_refl _) (Nat.zero_le _) (by omega) rfl (lv_sub hl [0, 1, 2, 3] rfl) hP hD hS
set_option maxHeartbeats 4000000 in
set_option maxRecDepth 100000 in
theorem k_Mo_mend6 (l : Launch) (D : va_G) (cA : ClassId) (sz : Nat) (mo xI xL xO xK xR xW : Nat) (I L O K : List Int32) (gI gL gO gK gR gW : Nat → Int32) (md wr at_ : Int32) (nu vl pc_ : Int64) (bs tk gd : Int32)  (hfI : Hd gI I) (hcI : I.length ≤ 120) (hfL : Hd gL L) (hcL : L.length ≤ 120) (hfO : Hd gO O) (hcO : O.length ≤ 400) (hfK : Hd gK K) (hcK : K.length ≤ 120)  : KI l D cA y_Mo_mend c_Mo_mend 5 .int 4 90 [.ref mo, .int (nI 0)] sz [(mo, .inr (5, [.int (nI I.length), .ref xI, .int (nI L.length), .ref xL, .int (nI O.length), .ref xO, .int (nI K.length), .ref xK, .int md, .ref xR, .int wr, .ref xW, .int at_, .long nu, .long vl, .long pc_, .int bs, .int tk, .int gd])), (xI, .inl (cA, 120, .inl gI)), (xL, .inl (cA, 120, .inl gL)), (xO, .inl (cA, 400, .inl gO)), (xK, .inl (cA, 120, .inl gK)), (xR, .inl (cA, 121, .inl gR)), (xW, .inl (cA, 1000, .inl gW))] (S := List Int32 × (Nat → Int32) × (Nat → Int32) × Int32 × Int32 × Int32) (fun r u => match u with | (L2, gL2, gR2, md2, tk2, gd2) => r = nI (mdS (rd16 (un I)) I.length I.length 0 [] 0).1 ∧ L2 = (mdS (rd16 (un I)) I.length I.length 0 [] 0).2.map nI ∧ Hd gL2 L2 ∧ L2.length ≤ 120) (fun u => match u with | (L2, gL2, gR2, md2, tk2, gd2) => [(mo, .inr (5, [.int (nI I.length), .ref xI, .int (nI L2.length), .ref xL, .int (nI O.length), .ref xO, .int (nI K.length), .ref xK, .int md2, .ref xR, .int wr, .ref xW, .int at_, .long nu, .long vl, .long pc_, .int bs, .int tk2, .int gd2])), (xI, .inl (cA, 120, .inl gI)), (xL, .inl (cA, 120, .inl gL2)), (xO, .inl (cA, 400, .inl gO)), (xK, .inl (cA, 120, .inl gK)), (xR, .inl (cA, 121, .inl gR2)), (xW, .inl (cA, 1000, .inl gW))]) := by
  refine KI.of (by decide) (Nat.le_of_ble_eq_true rfl) ?_
  intro p e s m args below meth c Q R A ls Xf hR hA hS hP hD hK hn hl ret
  have hx := Xf.1
  have hb := Xf.2.1
  have hown : s.vm.findClass "ScalarScribeModel" = some m.cls := Xf.2.2.2.1
  have hw := Xf.2.2.2.2
  have hl : lv_has ls 5 [(0, .ref mo), (1, .int (nI 0))] := hl
  refine lv_aload_n hx hb dMo_mend_0 rfl (lv_at hl 0 rfl) ?_
  refine lv_iconst (v := nI 0) hx hb dMo_mend_1 (by decide) ?_
  refine va_put (D := D) (ci := 5) (v := .int (nI 0)) (ty := .int) (C := R_Mo) (T := T_Mo) (N := 19) hx hb hw in_Mo ty_Mo ty_Mo_ok nm_Mo hown hK hP hD hS 0 rfl rfl 8 (by decide) (hw _ w_372) (fun _ h9 => h9) rfl (by decide +kernel) rfl rfl (Nat.le_of_ble_eq_true rfl) dMo_mend_2 (fun H locs hP hD hS => ?_)
  have hP : va_P D vwCl [(mo, .inr (5, [.int (nI I.length), .ref xI, .int (nI L.length), .ref xL, .int (nI O.length), .ref xO, .int (nI K.length), .ref xK, .int (nI 0), .ref xR, .int wr, .ref xW, .int at_, .long nu, .long vl, .long pc_, .int bs, .int tk, .int gd])), (xI, .inl (cA, 120, .inl gI)), (xL, .inl (cA, 120, .inl gL)), (xO, .inl (cA, 400, .inl gO)), (xK, .inl (cA, 120, .inl gK)), (xR, .inl (cA, 121, .inl gR)), (xW, .inl (cA, 1000, .inl gW))] H := hP
  have hD : va_D A [(mo, .inr (5, [.int (nI I.length), .ref xI, .int (nI L.length), .ref xL, .int (nI O.length), .ref xO, .int (nI K.length), .ref xK, .int (nI 0), .ref xR, .int wr, .ref xW, .int at_, .long nu, .long vl, .long pc_, .int bs, .int tk, .int gd])), (xI, .inl (cA, 120, .inl gI)), (xL, .inl (cA, 120, .inl gL)), (xO, .inl (cA, 400, .inl gO)), (xK, .inl (cA, 120, .inl gK)), (xR, .inl (cA, 121, .inl gR)), (xW, .inl (cA, 1000, .inl gW))] := hD
  refine lv_iconst (v := nI 0) hx hb dMo_mend_5 (by decide) ?_
  refine lv_istore_n (lv' := [(2, .int (nI 0)), (0, .ref mo), (1, .int (nI 0))]) hx hb dMo_mend_6 rfl hl (by decide) rfl (fun ls hl => ?_)
  refine lv_iconst (v := nI 0) hx hb dMo_mend_7 (by decide) ?_
  refine lv_istore_n (lv' := [(3, .int (nI 0)), (2, .int (nI 0)), (0, .ref mo), (1, .int (nI 0))]) hx hb dMo_mend_8 rfl hl (by decide) rfl (fun ls hl => ?_)
  have loop1 : ∀ (n_ : Nat) (q0 : Nat) (acc : List Nat) (cn : Nat) (hR_ : Nat → Int32) (ta : Int32) (ga : Int32) (kf : Nat) (ls : Array Slot) (H : Heap) (locs : List Loc), I.length - q0 < n_ → Hd hR_ (acc.map nI) → acc.length ≤ q0 → acc.length ≤ I.length → cn ≤ q0 → q0 ≤ I.length + 4 → I.length - q0 ≤ kf → mdS (rd16 (un I)) I.length kf q0 acc cn = mdS (rd16 (un I)) I.length I.length 0 [] 0 → lv_has ls 5 [(3, .int (nI q0)), (2, .int (nI cn)), (0, .ref mo), (1, .int (nI 0))] → va_P D vwCl [(mo, .inr (5, [.int (nI I.length), .ref xI, .int (nI L.length), .ref xL, .int (nI O.length), .ref xO, .int (nI K.length), .ref xK, .int (nI ((acc.map nI).length)), .ref xR, .int wr, .ref xW, .int at_, .long nu, .long vl, .long pc_, .int bs, .int ta, .int ga])), (xI, .inl (cA, 120, .inl gI)), (xL, .inl (cA, 120, .inl gL)), (xO, .inl (cA, 400, .inl gO)), (xK, .inl (cA, 120, .inl gK)), (xR, .inl (cA, 121, .inl hR_)), (xW, .inl (cA, 1000, .inl gW))] H → va_D A [(mo, .inr (5, [.int (nI I.length), .ref xI, .int (nI L.length), .ref xL, .int (nI O.length), .ref xO, .int (nI K.length), .ref xK, .int (nI ((acc.map nI).length)), .ref xR, .int wr, .ref xW, .int at_, .long nu, .long vl, .long pc_, .int bs, .int ta, .int ga])), (xI, .inl (cA, 120, .inl gI)), (xL, .inl (cA, 120, .inl gL)), (xO, .inl (cA, 400, .inl gO)), (xK, .inl (cA, 120, .inl gK)), (xR, .inl (cA, 121, .inl hR_)), (xW, .inl (cA, 1000, .inl gW))] → va_S A s.heap H locs → W p l e R s m args below meth c H locs 0 0 Q (F0 m 9 ls []) := by
    intro n_
    induction n_ with
    | zero => intro q0 acc cn hR_ ta ga kf ls H locs hm_; exact absurd hm_ (Nat.not_lt_zero _)
    | succ n_ ih_loop1 =>
      intro q0 acc cn hR_ ta ga kf ls H locs hm_ hgR ha1 ha2 hcn hq0 hkf hF hl hP hD hS
      refine lv_iload_n hx hb dMo_mend_9 rfl (lv_at hl 0 rfl) ?_
      refine lv_aload_n hx hb dMo_mend_10 rfl (lv_at hl 2 rfl) ?_
      refine va_get (D := D) (ci := 5) (v := .int (nI I.length)) (C := R_Mo) (T := T_Mo) (N := 19) hx hb hw in_Mo hown hK hP 0 rfl rfl 0 (by decide) (hw _ w_364) (fun _ h9 => h9) rfl dMo_mend_11 ?_
      refine lv_icmp_ge (tgt := 102) hx hb dMo_mend_14 (by decide) (fun h14 => ?_) (fun h14 => ?_)
      · skip
        replace h14 := nt_le (a := I.length) (b := q0) (by omega) (by omega) h14
        have hlm : (acc.map nI).length = acc.length := List.length_map _
        refine lv_aload_n hx hb dMo_mend_102 rfl (lv_at hl 2 rfl) ?_
        refine ca_i (wr := []) (va_runV (As := []) (rest := []) Xf (k_Mo_take l D cA _ mo xI xL xO xK xR xW I L O K gI gL gO gK hR_ gW wr at_ nu vl pc_ bs ta ga (acc.map nI) hfI hcI hfL hcL hfO hcO hfK hcK hgR (by omega)) ⟨cb_of 0 hw w_475 w_7 w_472 (by decide +kernel) (by rw [hR]; exact ⟨Nat.le_of_ble_eq_true rfl, Nat.le_of_ble_eq_true rfl⟩), hw _ w_474, hw _ ws_19⟩ (pre_V (As := []) hP hD hK hn [0, 1, 2, 3, 4, 5, 6] rfl (by decide) 0 5 rfl rfl) rfl rfl hl.1 rfl (lv_room (Nat.le_of_ble_eq_true rfl)) dMo_mend_103 ⟨Nat.zero_le _, Nat.zero_le _⟩) hP hD hS hA [0, 1, 2, 3, 4, 5, 6] [] rfl rfl (by decide) (by decide) (fun r103 u_ H locs hq_ hP hD hS => ?_)
        obtain ⟨gL1, hgL1⟩ : ∃ z, z = u_ := ⟨_, rfl⟩
        rw [← hgL1] at hP hD hq_
        obtain ⟨rfl, hfL1⟩ := hq_
        replace hP : va_P D vwCl [(mo, .inr (5, [.int (nI I.length), .ref xI, .int (nI ((acc.map nI).length)), .ref xL, .int (nI O.length), .ref xO, .int (nI K.length), .ref xK, .int (nI ((acc.map nI).length)), .ref xR, .int wr, .ref xW, .int at_, .long nu, .long vl, .long pc_, .int bs, .int ta, .int ga])), (xI, .inl (cA, 120, .inl gI)), (xL, .inl (cA, 120, .inl gL1)), (xO, .inl (cA, 400, .inl gO)), (xK, .inl (cA, 120, .inl gK)), (xR, .inl (cA, 121, .inl hR_)), (xW, .inl (cA, 1000, .inl gW))] H := hP.sub [0, 1, 2, 3, 4, 5, 6] rfl
        replace hD : va_D A [(mo, .inr (5, [.int (nI I.length), .ref xI, .int (nI ((acc.map nI).length)), .ref xL, .int (nI O.length), .ref xO, .int (nI K.length), .ref xK, .int (nI ((acc.map nI).length)), .ref xR, .int wr, .ref xW, .int at_, .long nu, .long vl, .long pc_, .int bs, .int ta, .int ga])), (xI, .inl (cA, 120, .inl gI)), (xL, .inl (cA, 120, .inl gL1)), (xO, .inl (cA, 400, .inl gO)), (xK, .inl (cA, 120, .inl gK)), (xR, .inl (cA, 121, .inl hR_)), (xW, .inl (cA, 1000, .inl gW))] := hD.sub [0, 1, 2, 3, 4, 5, 6] (by decide) rfl
        refine lv_pop hx hb dMo_mend_106 rfl ?_
        refine lv_iload_n hx hb dMo_mend_107 rfl (lv_at hl 1 rfl) ?_
        have hz : mdS (rd16 (un I)) I.length I.length 0 [] 0 = (cn, acc) := by rw [← hF]; exact mdS_end h14
        exact ret ((acc.map nI), gL1, hR_, nI ((acc.map nI).length), ta, ga) dMo_mend_108 rfl ⟨by rw [hz], by rw [hz], hfL1, by omega⟩ hP hD hS
      · skip
        replace h14 := nt_nle (a := I.length) (b := q0) (by omega) (by omega) h14
        have hlm : (acc.map nI).length = acc.length := List.length_map _
        refine lv_aload_n hx hb dMo_mend_17 rfl (lv_at hl 2 rfl) ?_
        refine lv_iload_n hx hb dMo_mend_18 rfl (lv_at hl 0 rfl) ?_
        refine lv_iload_n hx hb dMo_mend_19 rfl (lv_at hl 3 rfl) ?_
        refine ca_i (wr := []) (va_runV (As := [.int (nI q0), .int (nI 0)]) (rest := []) Xf (k_Mo_read6 l D cA _ mo xI xL xO xK xR xW I L O K gI gL gO gK hR_ gW (nI ((acc.map nI).length)) wr at_ nu vl pc_ bs ta ga q0 hfI hcI hfL hcL hfO hcO hfK hcK (by omega)) ⟨cb_of 2 hw w_441 w_7 w_438 (by decide +kernel) (by rw [hR]; exact ⟨Nat.le_of_ble_eq_true rfl, Nat.le_of_ble_eq_true rfl⟩), hw _ w_440, hw _ ws_15⟩ (pre_V (As := [.int (nI q0), .int (nI 0)]) hP hD hK hn [0, 1, 2, 3, 4, 5, 6] rfl (by decide) 0 5 rfl rfl) rfl rfl hl.1 rfl (lv_room (Nat.le_of_ble_eq_true rfl)) dMo_mend_20 ⟨Nat.zero_le _, Nat.zero_le _⟩) hP hD hS hA [0, 1, 2, 3, 4, 5, 6] [] rfl rfl (by decide) (by decide) (fun r20 u_ H locs hq_ hP hD hS => ?_)
        obtain rfl : r20 = ov (rd16 (un I) q0).1 := hq_
        replace hP : va_P D vwCl [(mo, .inr (5, [.int (nI I.length), .ref xI, .int (nI L.length), .ref xL, .int (nI O.length), .ref xO, .int (nI K.length), .ref xK, .int (nI ((acc.map nI).length)), .ref xR, .int wr, .ref xW, .int at_, .long nu, .long vl, .long pc_, .int bs, .int (tkv (rd16 (un I) q0)), .int (nI ((rd16 (un I) q0).2))])), (xI, .inl (cA, 120, .inl gI)), (xL, .inl (cA, 120, .inl gL)), (xO, .inl (cA, 400, .inl gO)), (xK, .inl (cA, 120, .inl gK)), (xR, .inl (cA, 121, .inl hR_)), (xW, .inl (cA, 1000, .inl gW))] H := hP.sub [0, 1, 2, 3, 4, 5, 6] rfl
        replace hD : va_D A [(mo, .inr (5, [.int (nI I.length), .ref xI, .int (nI L.length), .ref xL, .int (nI O.length), .ref xO, .int (nI K.length), .ref xK, .int (nI ((acc.map nI).length)), .ref xR, .int wr, .ref xW, .int at_, .long nu, .long vl, .long pc_, .int bs, .int (tkv (rd16 (un I) q0)), .int (nI ((rd16 (un I) q0).2))])), (xI, .inl (cA, 120, .inl gI)), (xL, .inl (cA, 120, .inl gL)), (xO, .inl (cA, 400, .inl gO)), (xK, .inl (cA, 120, .inl gK)), (xR, .inl (cA, 121, .inl hR_)), (xW, .inl (cA, 1000, .inl gW))] := hD.sub [0, 1, 2, 3, 4, 5, 6] (by decide) rfl
        have hrd : ∃ rr, rd16 (un I) q0 = rr := ⟨_, rfl⟩
        obtain ⟨⟨ro, g⟩, hrd⟩ := hrd
        rw [hrd] at hP hD ⊢
        have hg4 : g ≤ 4 := by have := (rd16_ok (un I)).2 q0; rw [hrd] at this; exact this
        rcases ro with _ | v
        · skip
          refine lv_rei (y := -1) rfl ?_
          replace hP : va_P D vwCl [(mo, .inr (5, [.int (nI I.length), .ref xI, .int (nI L.length), .ref xL, .int (nI O.length), .ref xO, .int (nI K.length), .ref xK, .int (nI ((acc.map nI).length)), .ref xR, .int wr, .ref xW, .int at_, .long nu, .long vl, .long pc_, .int bs, .int (nI 0), .int (nI g)])), (xI, .inl (cA, 120, .inl gI)), (xL, .inl (cA, 120, .inl gL)), (xO, .inl (cA, 400, .inl gO)), (xK, .inl (cA, 120, .inl gK)), (xR, .inl (cA, 121, .inl hR_)), (xW, .inl (cA, 1000, .inl gW))] H := hP
          replace hD : va_D A [(mo, .inr (5, [.int (nI I.length), .ref xI, .int (nI L.length), .ref xL, .int (nI O.length), .ref xO, .int (nI K.length), .ref xK, .int (nI ((acc.map nI).length)), .ref xR, .int wr, .ref xW, .int at_, .long nu, .long vl, .long pc_, .int bs, .int (nI 0), .int (nI g)])), (xI, .inl (cA, 120, .inl gI)), (xL, .inl (cA, 120, .inl gL)), (xO, .inl (cA, 400, .inl gO)), (xK, .inl (cA, 120, .inl gK)), (xR, .inl (cA, 121, .inl hR_)), (xW, .inl (cA, 1000, .inl gW))] := hD
          refine lv_istore (lv' := [(4, .int (-1)), (3, .int (nI q0)), (2, .int (nI cn)), (0, .ref mo), (1, .int (nI 0))]) hx hb dMo_mend_23 hl (by decide) rfl (fun ls hl => ?_)
          refine lv_aload_n hx hb dMo_mend_25 rfl (lv_at hl 3 rfl) ?_
          refine va_get (D := D) (ci := 5) (v := .ref xR) (C := R_Mo) (T := T_Mo) (N := 19) hx hb hw in_Mo hown hK hP 0 rfl rfl 9 (by decide) (hw _ w_373) (fun _ h9 => h9) rfl dMo_mend_26 ?_
          refine lv_aload_n hx hb dMo_mend_29 rfl (lv_at hl 3 rfl) ?_
          refine va_get (D := D) (ci := 5) (v := .int (nI ((acc.map nI).length))) (C := R_Mo) (T := T_Mo) (N := 19) hx hb hw in_Mo hown hK hP 0 rfl rfl 8 (by decide) (hw _ w_372) (fun _ h9 => h9) rfl dMo_mend_30 ?_
          refine lv_iload hx hb dMo_mend_33 (lv_at hl 0 rfl) ?_
          refine lv_if_ge (tgt := 43) hx hb dMo_mend_35 (by decide) (fun h35 => ?_) (fun h35 => ?_)
          · skip
            exact absurd h35 (by decide)
          · skip
            refine lv_ldc (v := nI 65533) hx hb hown (hw _ w_484) dMo_mend_38 ?_
            refine lv_goto (tgt := 45) hx hb dMo_mend_40 (by decide) ?_
            refine va_iast hx hb hK hP hD hS 5 0 rfl rfl (vp_in_nI (by omega) (by omega)) dMo_mend_45 (fun H locs hP hD hS => ?_)
            rw [nI_clamp (by omega)] at hP hD
            have hP : va_P D vwCl [(mo, .inr (5, [.int (nI I.length), .ref xI, .int (nI L.length), .ref xL, .int (nI O.length), .ref xO, .int (nI K.length), .ref xK, .int (nI ((acc.map nI).length)), .ref xR, .int wr, .ref xW, .int at_, .long nu, .long vl, .long pc_, .int bs, .int (nI 0), .int (nI g)])), (xI, .inl (cA, 120, .inl gI)), (xL, .inl (cA, 120, .inl gL)), (xO, .inl (cA, 400, .inl gO)), (xK, .inl (cA, 120, .inl gK)), (xR, .inl (cA, 121, .inl (upd hR_ ((acc.map nI).length) (nI 65533)))), (xW, .inl (cA, 1000, .inl gW))] H := hP
            have hD : va_D A [(mo, .inr (5, [.int (nI I.length), .ref xI, .int (nI L.length), .ref xL, .int (nI O.length), .ref xO, .int (nI K.length), .ref xK, .int (nI ((acc.map nI).length)), .ref xR, .int wr, .ref xW, .int at_, .long nu, .long vl, .long pc_, .int bs, .int (nI 0), .int (nI g)])), (xI, .inl (cA, 120, .inl gI)), (xL, .inl (cA, 120, .inl gL)), (xO, .inl (cA, 400, .inl gO)), (xK, .inl (cA, 120, .inl gK)), (xR, .inl (cA, 121, .inl (upd hR_ ((acc.map nI).length) (nI 65533)))), (xW, .inl (cA, 1000, .inl gW))] := hD
            refine lv_aload_n hx hb dMo_mend_46 rfl (lv_at hl 3 rfl) ?_
            refine lv_aload_n hx hb dMo_mend_47 rfl (lv_at hl 3 rfl) ?_
            refine va_get (D := D) (ci := 5) (v := .int (nI ((acc.map nI).length))) (C := R_Mo) (T := T_Mo) (N := 19) hx hb hw in_Mo hown hK hP 0 rfl rfl 8 (by decide) (hw _ w_372) (fun _ h9 => h9) rfl dMo_mend_48 ?_
            refine lv_iconst (v := nI 1) hx hb dMo_mend_51 (by decide) ?_
            refine lv_iadd hx hb dMo_mend_52 ?_
            refine lv_rei (y := nI ((acc.map nI).length + 1)) (nI_add _ _) ?_
            refine va_put (D := D) (ci := 5) (v := .int (nI ((acc.map nI).length + 1))) (ty := .int) (C := R_Mo) (T := T_Mo) (N := 19) hx hb hw in_Mo ty_Mo ty_Mo_ok nm_Mo hown hK hP hD hS 0 rfl rfl 8 (by decide) (hw _ w_372) (fun _ h9 => h9) rfl (by decide +kernel) rfl rfl (Nat.le_of_ble_eq_true rfl) dMo_mend_53 (fun H locs hP hD hS => ?_)
            have hP : va_P D vwCl [(mo, .inr (5, [.int (nI I.length), .ref xI, .int (nI L.length), .ref xL, .int (nI O.length), .ref xO, .int (nI K.length), .ref xK, .int (nI ((acc.map nI).length + 1)), .ref xR, .int wr, .ref xW, .int at_, .long nu, .long vl, .long pc_, .int bs, .int (nI 0), .int (nI g)])), (xI, .inl (cA, 120, .inl gI)), (xL, .inl (cA, 120, .inl gL)), (xO, .inl (cA, 400, .inl gO)), (xK, .inl (cA, 120, .inl gK)), (xR, .inl (cA, 121, .inl (upd hR_ ((acc.map nI).length) (nI 65533)))), (xW, .inl (cA, 1000, .inl gW))] H := hP
            have hD : va_D A [(mo, .inr (5, [.int (nI I.length), .ref xI, .int (nI L.length), .ref xL, .int (nI O.length), .ref xO, .int (nI K.length), .ref xK, .int (nI ((acc.map nI).length + 1)), .ref xR, .int wr, .ref xW, .int at_, .long nu, .long vl, .long pc_, .int bs, .int (nI 0), .int (nI g)])), (xI, .inl (cA, 120, .inl gI)), (xL, .inl (cA, 120, .inl gL)), (xO, .inl (cA, 400, .inl gO)), (xK, .inl (cA, 120, .inl gK)), (xR, .inl (cA, 121, .inl (upd hR_ ((acc.map nI).length) (nI 65533)))), (xW, .inl (cA, 1000, .inl gW))] := hD
            refine lv_iload hx hb dMo_mend_56 (lv_at hl 0 rfl) ?_
            refine lv_if_ge (tgt := 67) hx hb dMo_mend_58 (by decide) (fun h58 => ?_) (fun h58 => ?_)
            · skip
              exact absurd h58 (by decide)
            · skip
              refine lv_iload_n hx hb dMo_mend_61 rfl (lv_at hl 2 rfl) ?_
              refine lv_iconst (v := nI 1) hx hb dMo_mend_62 (by decide) ?_
              refine lv_iadd hx hb dMo_mend_63 ?_
              refine lv_rei (y := nI (cn + 1)) (nI_add _ _) ?_
              refine lv_goto (tgt := 68) hx hb dMo_mend_64 (by decide) ?_
              refine lv_istore_n (lv' := [(2, .int (nI (cn + 1))), (4, .int (-1)), (3, .int (nI q0)), (0, .ref mo), (1, .int (nI 0))]) hx hb dMo_mend_68 rfl hl (by decide) rfl (fun ls hl => ?_)
              refine lv_iload_n hx hb dMo_mend_69 rfl (lv_at hl 2 rfl) ?_
              refine lv_iload hx hb dMo_mend_70 (lv_at hl 1 rfl) ?_
              refine lv_if_lt (tgt := 82) hx hb dMo_mend_72 (by decide) (fun h72 => ?_) (fun h72 => ?_)
              · skip
                refine lv_aload_n hx hb dMo_mend_82 rfl (lv_at hl 3 rfl) ?_
                refine va_get (D := D) (ci := 5) (v := .int (nI g)) (C := R_Mo) (T := T_Mo) (N := 19) hx hb hw in_Mo hown hK hP 0 rfl rfl 18 (by decide) (hw _ w_382) (fun _ h9 => h9) rfl dMo_mend_83 ?_
                refine lv_if_le (tgt := 96) hx hb dMo_mend_86 (by decide) (fun h86 => ?_) (fun h86 => ?_)
                · skip
                  replace h86 := nt_le (a := g) (b := 0) (by omega) (by omega) h86
                  refine lv_iconst (v := nI 1) hx hb dMo_mend_96 (by decide) ?_
                  refine lv_iadd hx hb dMo_mend_97 ?_
                  refine lv_rei (y := nI (q0 + 1)) (nI_add _ _) ?_
                  refine lv_istore_n (lv' := [(3, .int (nI (q0 + 1))), (2, .int (nI (cn + 1))), (4, .int (-1)), (0, .ref mo), (1, .int (nI 0))]) hx hb dMo_mend_98 rfl hl (by decide) rfl (fun ls hl => ?_)
                  refine lv_goto (tgt := 9) hx hb dMo_mend_99 (by decide) ?_
                  have el : (acc.map nI).length + 1 = ((acc ++ [65533]).map nI).length := by simp
                  rw [el] at hP hD
                  have hfn := Hd_add (x := nI 65533) hgR
                  rw [map_snoc] at hfn
                  obtain ⟨k2, rfl⟩ : ∃ k2, kf = k2 + 1 := ⟨kf - 1, by omega⟩
                  rw [mdS_no h14 hrd] at hF
                  have em1 : q0 + 1 = q0 + max 1 g := by omega
                  rw [em1] at hl
                  exact ih_loop1 (q0 + max 1 g) (acc ++ [65533]) (cn + 1) (upd hR_ ((acc.map nI).length) (nI 65533)) (nI 0) (nI g) k2 _ _ _ (by omega) hfn (by simp only [List.length_append, List.length_singleton, List.length_nil, List.length_map, List.length_cons]; omega) (by simp only [List.length_append, List.length_singleton, List.length_nil, List.length_map, List.length_cons]; omega) (by omega) (by omega) (by omega) hF (lv_sub hl [0, 1, 3, 4] rfl) hP hD hS
                · skip
                  replace h86 := nt_nle (a := g) (b := 0) (by omega) (by omega) h86
                  refine lv_aload_n hx hb dMo_mend_89 rfl (lv_at hl 3 rfl) ?_
                  refine va_get (D := D) (ci := 5) (v := .int (nI g)) (C := R_Mo) (T := T_Mo) (N := 19) hx hb hw in_Mo hown hK hP 0 rfl rfl 18 (by decide) (hw _ w_382) (fun _ h9 => h9) rfl dMo_mend_90 ?_
                  refine lv_goto (tgt := 97) hx hb dMo_mend_93 (by decide) ?_
                  refine lv_iadd hx hb dMo_mend_97 ?_
                  refine lv_rei (y := nI (q0 + g)) (nI_add _ _) ?_
                  refine lv_istore_n (lv' := [(3, .int (nI (q0 + g))), (2, .int (nI (cn + 1))), (4, .int (-1)), (0, .ref mo), (1, .int (nI 0))]) hx hb dMo_mend_98 rfl hl (by decide) rfl (fun ls hl => ?_)
                  refine lv_goto (tgt := 9) hx hb dMo_mend_99 (by decide) ?_
                  have el : (acc.map nI).length + 1 = ((acc ++ [65533]).map nI).length := by simp
                  rw [el] at hP hD
                  have hfn := Hd_add (x := nI 65533) hgR
                  rw [map_snoc] at hfn
                  obtain ⟨k2, rfl⟩ : ∃ k2, kf = k2 + 1 := ⟨kf - 1, by omega⟩
                  rw [mdS_no h14 hrd] at hF
                  have em1 : q0 + g = q0 + max 1 g := by omega
                  rw [em1] at hl
                  exact ih_loop1 (q0 + max 1 g) (acc ++ [65533]) (cn + 1) (upd hR_ ((acc.map nI).length) (nI 65533)) (nI 0) (nI g) k2 _ _ _ (by omega) hfn (by simp only [List.length_append, List.length_singleton, List.length_nil, List.length_map, List.length_cons]; omega) (by simp only [List.length_append, List.length_singleton, List.length_nil, List.length_map, List.length_cons]; omega) (by omega) (by omega) (by omega) hF (lv_sub hl [0, 1, 3, 4] rfl) hP hD hS
              · skip
                exact absurd h72 (by decide)
        · skip
          refine lv_rei (y := nI v) rfl ?_
          obtain ⟨hg1, hsc⟩ := (rd16_ok (un I)).1 q0 v (by rw [hrd])
          rw [hrd] at hg1
          replace hg1 : 1 ≤ g := hg1
          have hvb : v ≤ 1114111 := hsc.1
          replace hP : va_P D vwCl [(mo, .inr (5, [.int (nI I.length), .ref xI, .int (nI L.length), .ref xL, .int (nI O.length), .ref xO, .int (nI K.length), .ref xK, .int (nI ((acc.map nI).length)), .ref xR, .int wr, .ref xW, .int at_, .long nu, .long vl, .long pc_, .int bs, .int (nI g), .int (nI g)])), (xI, .inl (cA, 120, .inl gI)), (xL, .inl (cA, 120, .inl gL)), (xO, .inl (cA, 400, .inl gO)), (xK, .inl (cA, 120, .inl gK)), (xR, .inl (cA, 121, .inl hR_)), (xW, .inl (cA, 1000, .inl gW))] H := hP
          replace hD : va_D A [(mo, .inr (5, [.int (nI I.length), .ref xI, .int (nI L.length), .ref xL, .int (nI O.length), .ref xO, .int (nI K.length), .ref xK, .int (nI ((acc.map nI).length)), .ref xR, .int wr, .ref xW, .int at_, .long nu, .long vl, .long pc_, .int bs, .int (nI g), .int (nI g)])), (xI, .inl (cA, 120, .inl gI)), (xL, .inl (cA, 120, .inl gL)), (xO, .inl (cA, 400, .inl gO)), (xK, .inl (cA, 120, .inl gK)), (xR, .inl (cA, 121, .inl hR_)), (xW, .inl (cA, 1000, .inl gW))] := hD
          refine lv_istore (lv' := [(4, .int (nI v)), (3, .int (nI q0)), (2, .int (nI cn)), (0, .ref mo), (1, .int (nI 0))]) hx hb dMo_mend_23 hl (by decide) rfl (fun ls hl => ?_)
          refine lv_aload_n hx hb dMo_mend_25 rfl (lv_at hl 3 rfl) ?_
          refine va_get (D := D) (ci := 5) (v := .ref xR) (C := R_Mo) (T := T_Mo) (N := 19) hx hb hw in_Mo hown hK hP 0 rfl rfl 9 (by decide) (hw _ w_373) (fun _ h9 => h9) rfl dMo_mend_26 ?_
          refine lv_aload_n hx hb dMo_mend_29 rfl (lv_at hl 3 rfl) ?_
          refine va_get (D := D) (ci := 5) (v := .int (nI ((acc.map nI).length))) (C := R_Mo) (T := T_Mo) (N := 19) hx hb hw in_Mo hown hK hP 0 rfl rfl 8 (by decide) (hw _ w_372) (fun _ h9 => h9) rfl dMo_mend_30 ?_
          refine lv_iload hx hb dMo_mend_33 (lv_at hl 0 rfl) ?_
          refine lv_if_ge (tgt := 43) hx hb dMo_mend_35 (by decide) (fun h35 => ?_) (fun h35 => ?_)
          · skip
            refine lv_iload hx hb dMo_mend_43 (lv_at hl 0 rfl) ?_
            refine va_iast hx hb hK hP hD hS 5 0 rfl rfl (vp_in_nI (by omega) (by omega)) dMo_mend_45 (fun H locs hP hD hS => ?_)
            rw [nI_clamp (by omega)] at hP hD
            have hP : va_P D vwCl [(mo, .inr (5, [.int (nI I.length), .ref xI, .int (nI L.length), .ref xL, .int (nI O.length), .ref xO, .int (nI K.length), .ref xK, .int (nI ((acc.map nI).length)), .ref xR, .int wr, .ref xW, .int at_, .long nu, .long vl, .long pc_, .int bs, .int (nI g), .int (nI g)])), (xI, .inl (cA, 120, .inl gI)), (xL, .inl (cA, 120, .inl gL)), (xO, .inl (cA, 400, .inl gO)), (xK, .inl (cA, 120, .inl gK)), (xR, .inl (cA, 121, .inl (upd hR_ ((acc.map nI).length) (nI v)))), (xW, .inl (cA, 1000, .inl gW))] H := hP
            have hD : va_D A [(mo, .inr (5, [.int (nI I.length), .ref xI, .int (nI L.length), .ref xL, .int (nI O.length), .ref xO, .int (nI K.length), .ref xK, .int (nI ((acc.map nI).length)), .ref xR, .int wr, .ref xW, .int at_, .long nu, .long vl, .long pc_, .int bs, .int (nI g), .int (nI g)])), (xI, .inl (cA, 120, .inl gI)), (xL, .inl (cA, 120, .inl gL)), (xO, .inl (cA, 400, .inl gO)), (xK, .inl (cA, 120, .inl gK)), (xR, .inl (cA, 121, .inl (upd hR_ ((acc.map nI).length) (nI v)))), (xW, .inl (cA, 1000, .inl gW))] := hD
            refine lv_aload_n hx hb dMo_mend_46 rfl (lv_at hl 3 rfl) ?_
            refine lv_aload_n hx hb dMo_mend_47 rfl (lv_at hl 3 rfl) ?_
            refine va_get (D := D) (ci := 5) (v := .int (nI ((acc.map nI).length))) (C := R_Mo) (T := T_Mo) (N := 19) hx hb hw in_Mo hown hK hP 0 rfl rfl 8 (by decide) (hw _ w_372) (fun _ h9 => h9) rfl dMo_mend_48 ?_
            refine lv_iconst (v := nI 1) hx hb dMo_mend_51 (by decide) ?_
            refine lv_iadd hx hb dMo_mend_52 ?_
            refine lv_rei (y := nI ((acc.map nI).length + 1)) (nI_add _ _) ?_
            refine va_put (D := D) (ci := 5) (v := .int (nI ((acc.map nI).length + 1))) (ty := .int) (C := R_Mo) (T := T_Mo) (N := 19) hx hb hw in_Mo ty_Mo ty_Mo_ok nm_Mo hown hK hP hD hS 0 rfl rfl 8 (by decide) (hw _ w_372) (fun _ h9 => h9) rfl (by decide +kernel) rfl rfl (Nat.le_of_ble_eq_true rfl) dMo_mend_53 (fun H locs hP hD hS => ?_)
            have hP : va_P D vwCl [(mo, .inr (5, [.int (nI I.length), .ref xI, .int (nI L.length), .ref xL, .int (nI O.length), .ref xO, .int (nI K.length), .ref xK, .int (nI ((acc.map nI).length + 1)), .ref xR, .int wr, .ref xW, .int at_, .long nu, .long vl, .long pc_, .int bs, .int (nI g), .int (nI g)])), (xI, .inl (cA, 120, .inl gI)), (xL, .inl (cA, 120, .inl gL)), (xO, .inl (cA, 400, .inl gO)), (xK, .inl (cA, 120, .inl gK)), (xR, .inl (cA, 121, .inl (upd hR_ ((acc.map nI).length) (nI v)))), (xW, .inl (cA, 1000, .inl gW))] H := hP
            have hD : va_D A [(mo, .inr (5, [.int (nI I.length), .ref xI, .int (nI L.length), .ref xL, .int (nI O.length), .ref xO, .int (nI K.length), .ref xK, .int (nI ((acc.map nI).length + 1)), .ref xR, .int wr, .ref xW, .int at_, .long nu, .long vl, .long pc_, .int bs, .int (nI g), .int (nI g)])), (xI, .inl (cA, 120, .inl gI)), (xL, .inl (cA, 120, .inl gL)), (xO, .inl (cA, 400, .inl gO)), (xK, .inl (cA, 120, .inl gK)), (xR, .inl (cA, 121, .inl (upd hR_ ((acc.map nI).length) (nI v)))), (xW, .inl (cA, 1000, .inl gW))] := hD
            refine lv_iload hx hb dMo_mend_56 (lv_at hl 0 rfl) ?_
            refine lv_if_ge (tgt := 67) hx hb dMo_mend_58 (by decide) (fun h58 => ?_) (fun h58 => ?_)
            · skip
              refine lv_iload_n hx hb dMo_mend_67 rfl (lv_at hl 2 rfl) ?_
              refine lv_istore_n (lv' := [(2, .int (nI cn)), (4, .int (nI v)), (3, .int (nI q0)), (0, .ref mo), (1, .int (nI 0))]) hx hb dMo_mend_68 rfl hl (by decide) rfl (fun ls hl => ?_)
              refine lv_iload_n hx hb dMo_mend_69 rfl (lv_at hl 2 rfl) ?_
              refine lv_iload hx hb dMo_mend_70 (lv_at hl 1 rfl) ?_
              refine lv_if_lt (tgt := 82) hx hb dMo_mend_72 (by decide) (fun h72 => ?_) (fun h72 => ?_)
              · skip
                exact absurd h72 (nI_pos (by omega))
              · skip
                refine lv_aload_n hx hb dMo_mend_75 rfl (lv_at hl 3 rfl) ?_
                refine va_get (D := D) (ci := 5) (v := .int (nI g)) (C := R_Mo) (T := T_Mo) (N := 19) hx hb hw in_Mo hown hK hP 0 rfl rfl 17 (by decide) (hw _ w_381) (fun _ h9 => h9) rfl dMo_mend_76 ?_
                refine lv_goto (tgt := 97) hx hb dMo_mend_79 (by decide) ?_
                refine lv_iadd hx hb dMo_mend_97 ?_
                refine lv_rei (y := nI (q0 + g)) (nI_add _ _) ?_
                refine lv_istore_n (lv' := [(3, .int (nI (q0 + g))), (2, .int (nI cn)), (4, .int (nI v)), (0, .ref mo), (1, .int (nI 0))]) hx hb dMo_mend_98 rfl hl (by decide) rfl (fun ls hl => ?_)
                refine lv_goto (tgt := 9) hx hb dMo_mend_99 (by decide) ?_
                have el : (acc.map nI).length + 1 = ((acc ++ [v]).map nI).length := by simp
                rw [el] at hP hD
                have hfn := Hd_add (x := nI v) hgR
                rw [map_snoc] at hfn
                obtain ⟨k2, rfl⟩ : ∃ k2, kf = k2 + 1 := ⟨kf - 1, by omega⟩
                rw [mdS_so h14 hrd] at hF
                exact ih_loop1 (q0 + g) (acc ++ [v]) cn (upd hR_ ((acc.map nI).length) (nI v)) (nI g) (nI g) k2 _ _ _ (by omega) hfn (by simp only [List.length_append, List.length_singleton, List.length_nil, List.length_map, List.length_cons]; omega) (by simp only [List.length_append, List.length_singleton, List.length_nil, List.length_map, List.length_cons]; omega) (by omega) (by omega) (by omega) hF (lv_sub hl [0, 1, 3, 4] rfl) hP hD hS
            · skip
              exact absurd (nI_pos' (by omega)) h58
          · skip
            exact absurd (nI_pos' (by omega)) h35
  exact loop1 _ 0 ([]) 0 gR tk gd I.length _ _ _ (Nat.lt_succ_self _) (Hd_nil _) (Nat.le_refl _) (Nat.zero_le _) (Nat.le_refl _) (Nat.zero_le _) (by omega) rfl (lv_sub hl [0, 1, 2, 3] rfl) hP hD hS
set_option maxHeartbeats 4000000 in
set_option maxRecDepth 100000 in
theorem k_Mo_rank (l : Launch) (D : va_G) (cA : ClassId) (sz : Nat) (v : Nat) (hv : v < 2 ^ 30) : KI l D cA y_Mo_rank c_Mo_rank 1 .int 0 0 [.int (nI v)] sz [] (S := Unit) (fun r _ => r = nI (rkN v)) (fun _ => []) := by
  refine KI.of (by decide) (Nat.le_of_ble_eq_true rfl) ?_
  intro p e s m args below meth c Q R A ls Xf hR hA hS hP hD hK hn hl ret
  have hx := Xf.1
  have hb := Xf.2.1
  have hown : s.vm.findClass "ScalarScribeModel" = some m.cls := Xf.2.2.2.1
  have hw := Xf.2.2.2.2
  have hl : lv_has ls 1 [(0, .int (nI v))] := hl
  refine lv_iload_n hx hb dMo_rank_0 rfl (lv_at hl 0 rfl) ?_
  refine lv_ldc (v := nI 65536) hx hb hown (hw _ w_471) dMo_rank_1 ?_
  refine lv_icmp_ge (tgt := 23) hx hb dMo_rank_3 (by decide) (fun h3 => ?_) (fun h3 => ?_)
  · skip
    replace h3 := nt_le (a := 65536) (b := v) (by omega) (by omega) h3
    refine lv_iload_n hx hb dMo_rank_23 rfl (lv_at hl 0 rfl) ?_
    refine lv_sipush (v := nI 10240) hx hb dMo_rank_24 (by decide) ?_
    refine lv_isub hx hb dMo_rank_27 ?_
    refine lv_rei (y := nI (v - 10240)) (pk_sub (by omega)) ?_
    exact ret () dMo_rank_28 rfl (congrArg nI (show v - 10240 = rkN v from by unfold rkN; (repeat' split) <;> omega)) hP hD hS
  · skip
    replace h3 := nt_nle (a := 65536) (b := v) (by omega) (by omega) h3
    refine lv_iload_n hx hb dMo_rank_6 rfl (lv_at hl 0 rfl) ?_
    refine lv_ldc (v := nI 55296) hx hb hown (hw _ w_469) dMo_rank_7 ?_
    refine lv_icmp_ge (tgt := 16) hx hb dMo_rank_9 (by decide) (fun h9 => ?_) (fun h9 => ?_)
    · skip
      replace h9 := nt_le (a := 55296) (b := v) (by omega) (by omega) h9
      refine lv_iload_n hx hb dMo_rank_16 rfl (lv_at hl 0 rfl) ?_
      refine lv_ldc (v := nI 1048576) hx hb hown (hw _ w_583) dMo_rank_17 ?_
      refine lv_iadd hx hb dMo_rank_19 ?_
      refine lv_rei (y := nI (v + 1048576)) (nI_add _ _) ?_
      refine lv_goto (tgt := 28) hx hb dMo_rank_20 (by decide) ?_
      exact ret () dMo_rank_28 rfl (congrArg nI (show v + 1048576 = rkN v from by unfold rkN; (repeat' split) <;> omega)) hP hD hS
    · skip
      replace h9 := nt_nle (a := 55296) (b := v) (by omega) (by omega) h9
      refine lv_iload_n hx hb dMo_rank_12 rfl (lv_at hl 0 rfl) ?_
      refine lv_goto (tgt := 28) hx hb dMo_rank_13 (by decide) ?_
      exact ret () dMo_rank_28 rfl (congrArg nI (show v = rkN v from by unfold rkN; (repeat' split) <;> omega)) hP hD hS
set_option maxHeartbeats 4000000 in
set_option maxRecDepth 100000 in
theorem k_Mo_compare0 (l : Launch) (D : va_G) (cA : ClassId) (sz : Nat) (mo xI xL xO xK xR xW : Nat) (I O : List Int32) (gI gL gO gK gR gW : Nat → Int32) (md wr at_ : Int32) (nu vl pc_ : Int64) (bs tk gd : Int32) (M G : List Nat) (hfI : Hd gI I) (hcI : I.length ≤ 120) (hfL : Hd gL (M.map nI)) (hcL : (M.map nI).length ≤ 120) (hfO : Hd gO O) (hcO : O.length ≤ 400) (hfK : Hd gK (G.map nI)) (hcK : (G.map nI).length ≤ 120) (hMs : ∀ x ∈ M, sca x) (hGs : ∀ x ∈ G, sca x) : KI l D cA y_Mo_compare c_Mo_compare 5 .int 1 20 [.ref mo, .int (nI 0)] sz [(mo, .inr (5, [.int (nI I.length), .ref xI, .int (nI ((M.map nI).length)), .ref xL, .int (nI O.length), .ref xO, .int (nI ((G.map nI).length)), .ref xK, .int md, .ref xR, .int wr, .ref xW, .int at_, .long nu, .long vl, .long pc_, .int bs, .int tk, .int gd])), (xI, .inl (cA, 120, .inl gI)), (xL, .inl (cA, 120, .inl gL)), (xO, .inl (cA, 400, .inl gO)), (xK, .inl (cA, 120, .inl gK)), (xR, .inl (cA, 121, .inl gR)), (xW, .inl (cA, 1000, .inl gW))] (S := Unit) (fun r _ => r = cmS ooN M G) (fun _ => [(mo, .inr (5, [.int (nI I.length), .ref xI, .int (nI ((M.map nI).length)), .ref xL, .int (nI O.length), .ref xO, .int (nI ((G.map nI).length)), .ref xK, .int md, .ref xR, .int wr, .ref xW, .int at_, .long nu, .long vl, .long pc_, .int bs, .int tk, .int gd])), (xI, .inl (cA, 120, .inl gI)), (xL, .inl (cA, 120, .inl gL)), (xO, .inl (cA, 400, .inl gO)), (xK, .inl (cA, 120, .inl gK)), (xR, .inl (cA, 121, .inl gR)), (xW, .inl (cA, 1000, .inl gW))]) := by
  refine KI.of (by decide) (Nat.le_of_ble_eq_true rfl) ?_
  intro p e s m args below meth c Q R A ls Xf hR hA hS hP hD hK hn hl ret
  have hx := Xf.1
  have hb := Xf.2.1
  have hown : s.vm.findClass "ScalarScribeModel" = some m.cls := Xf.2.2.2.1
  have hw := Xf.2.2.2.2
  have hl : lv_has ls 5 [(0, .ref mo), (1, .int (nI 0))] := hl
  have hcM : M.length ≤ 120 := by rw [List.length_map] at hcL; exact hcL
  have hcG : G.length ≤ 120 := by rw [List.length_map] at hcK; exact hcK
  refine lv_iconst (v := nI 0) hx hb dMo_compare_0 (by decide) ?_
  refine lv_istore_n (lv' := [(2, .int (nI 0)), (0, .ref mo), (1, .int (nI 0))]) hx hb dMo_compare_1 rfl hl (by decide) rfl (fun ls hl => ?_)
  have loop1 : ∀ (n_ : Nat) (i : Nat) (ls : Array Slot) (H : Heap) (locs : List Loc), M.length - i < n_ → i ≤ M.length → i ≤ G.length → cmS ooN (M.drop i) (G.drop i) = cmS ooN M G → lv_has ls 5 [(2, .int (nI i)), (0, .ref mo), (1, .int (nI 0))] → va_P D vwCl [(mo, .inr (5, [.int (nI I.length), .ref xI, .int (nI ((M.map nI).length)), .ref xL, .int (nI O.length), .ref xO, .int (nI ((G.map nI).length)), .ref xK, .int md, .ref xR, .int wr, .ref xW, .int at_, .long nu, .long vl, .long pc_, .int bs, .int tk, .int gd])), (xI, .inl (cA, 120, .inl gI)), (xL, .inl (cA, 120, .inl gL)), (xO, .inl (cA, 400, .inl gO)), (xK, .inl (cA, 120, .inl gK)), (xR, .inl (cA, 121, .inl gR)), (xW, .inl (cA, 1000, .inl gW))] H → va_D A [(mo, .inr (5, [.int (nI I.length), .ref xI, .int (nI ((M.map nI).length)), .ref xL, .int (nI O.length), .ref xO, .int (nI ((G.map nI).length)), .ref xK, .int md, .ref xR, .int wr, .ref xW, .int at_, .long nu, .long vl, .long pc_, .int bs, .int tk, .int gd])), (xI, .inl (cA, 120, .inl gI)), (xL, .inl (cA, 120, .inl gL)), (xO, .inl (cA, 400, .inl gO)), (xK, .inl (cA, 120, .inl gK)), (xR, .inl (cA, 121, .inl gR)), (xW, .inl (cA, 1000, .inl gW))] → va_S A s.heap H locs → W p l e R s m args below meth c H locs 0 0 Q (F0 m 2 ls []) := by
    intro n_
    induction n_ with
    | zero => intro i ls H locs hm_; exact absurd hm_ (Nat.not_lt_zero _)
    | succ n_ ih_loop1 =>
      intro i ls H locs hm_ hiM hiG hF hl hP hD hS
      refine lv_iload_n hx hb dMo_compare_2 rfl (lv_at hl 0 rfl) ?_
      refine lv_aload_n hx hb dMo_compare_3 rfl (lv_at hl 1 rfl) ?_
      refine va_get (D := D) (ci := 5) (v := .int (nI ((M.map nI).length))) (C := R_Mo) (T := T_Mo) (N := 19) hx hb hw in_Mo hown hK hP 0 rfl rfl 2 (by decide) (hw _ w_366) (fun _ h9 => h9) rfl dMo_compare_4 ?_
      refine lv_icmp_ge (tgt := 40) hx hb dMo_compare_7 (by decide) (fun h7 => ?_) (fun h7 => ?_)
      · skip
        replace h7 := nt_le (a := (M.map nI).length) (b := i) (by omega) (by omega) h7
        rw [List.length_map] at h7
        refine lv_iload_n hx hb dMo_compare_40 rfl (lv_at hl 0 rfl) ?_
        refine lv_aload_n hx hb dMo_compare_41 rfl (lv_at hl 1 rfl) ?_
        refine va_get (D := D) (ci := 5) (v := .int (nI ((M.map nI).length))) (C := R_Mo) (T := T_Mo) (N := 19) hx hb hw in_Mo hown hK hP 0 rfl rfl 2 (by decide) (hw _ w_366) (fun _ h9 => h9) rfl dMo_compare_42 ?_
        refine lv_icmp_eq (tgt := 56) hx hb dMo_compare_45 (by decide) (fun h45 => ?_) (fun h45 => ?_)
        · skip
          refine lv_aload_n hx hb dMo_compare_56 rfl (lv_at hl 1 rfl) ?_
          refine va_get (D := D) (ci := 5) (v := .int (nI ((M.map nI).length))) (C := R_Mo) (T := T_Mo) (N := 19) hx hb hw in_Mo hown hK hP 0 rfl rfl 2 (by decide) (hw _ w_366) (fun _ h9 => h9) rfl dMo_compare_57 ?_
          refine lv_aload_n hx hb dMo_compare_60 rfl (lv_at hl 1 rfl) ?_
          refine va_get (D := D) (ci := 5) (v := .int (nI ((G.map nI).length))) (C := R_Mo) (T := T_Mo) (N := 19) hx hb hw in_Mo hown hK hP 0 rfl rfl 6 (by decide) (hw _ w_370) (fun _ h9 => h9) rfl dMo_compare_61 ?_
          refine lv_icmp_ne (tgt := 71) hx hb dMo_compare_64 (by decide) (fun h64 => ?_) (fun h64 => ?_)
          · skip
            replace h64 := nt_ne (a := (M.map nI).length) (b := (G.map nI).length) (by omega) (by omega) h64
            rw [List.length_map, List.length_map] at h64
            refine lv_aload_n hx hb dMo_compare_71 rfl (lv_at hl 1 rfl) ?_
            refine va_get (D := D) (ci := 5) (v := .int (nI ((M.map nI).length))) (C := R_Mo) (T := T_Mo) (N := 19) hx hb hw in_Mo hown hK hP 0 rfl rfl 2 (by decide) (hw _ w_366) (fun _ h9 => h9) rfl dMo_compare_72 ?_
            refine lv_aload_n hx hb dMo_compare_75 rfl (lv_at hl 1 rfl) ?_
            refine va_get (D := D) (ci := 5) (v := .int (nI ((G.map nI).length))) (C := R_Mo) (T := T_Mo) (N := 19) hx hb hw in_Mo hown hK hP 0 rfl rfl 6 (by decide) (hw _ w_370) (fun _ h9 => h9) rfl dMo_compare_76 ?_
            refine lv_icmp_ge (tgt := 86) hx hb dMo_compare_79 (by decide) (fun h79 => ?_) (fun h79 => ?_)
            · skip
              replace h79 := nt_le (a := (G.map nI).length) (b := (M.map nI).length) (by omega) (by omega) h79
              rw [List.length_map, List.length_map] at h79
              refine lv_iconst (v := 1) hx hb dMo_compare_86 (by decide) ?_
              exact ret () dMo_compare_87 rfl (by rw [← hF, cmS_end (by omega)]; unfold ooN; (repeat' split) <;> first | omega | rfl) hP hD hS
            · skip
              replace h79 := nt_nle (a := (G.map nI).length) (b := (M.map nI).length) (by omega) (by omega) h79
              rw [List.length_map, List.length_map] at h79
              refine lv_iconst (v := (-1)) hx hb dMo_compare_82 (by decide) ?_
              refine lv_goto (tgt := 87) hx hb dMo_compare_83 (by decide) ?_
              exact ret () dMo_compare_87 rfl (by rw [← hF, cmS_end (by omega)]; unfold ooN; (repeat' split) <;> first | omega | rfl) hP hD hS
          · skip
            replace h64 := nt_eq (a := (M.map nI).length) (b := (G.map nI).length) (by omega) (by omega) h64
            rw [List.length_map, List.length_map] at h64
            refine lv_iconst (v := 0) hx hb dMo_compare_67 (by decide) ?_
            refine lv_goto (tgt := 87) hx hb dMo_compare_68 (by decide) ?_
            exact ret () dMo_compare_87 rfl (by rw [← hF, cmS_end (by omega)]; unfold ooN; (repeat' split) <;> first | omega | rfl) hP hD hS
        · skip
          exact absurd (show i = (M.map nI).length by rw [List.length_map]; omega) (nt_ne (by omega) (by omega) h45)
      · skip
        replace h7 := nt_nle (a := (M.map nI).length) (b := i) (by omega) (by omega) h7
        rw [List.length_map] at h7
        refine lv_iload_n hx hb dMo_compare_10 rfl (lv_at hl 0 rfl) ?_
        refine lv_aload_n hx hb dMo_compare_11 rfl (lv_at hl 1 rfl) ?_
        refine va_get (D := D) (ci := 5) (v := .int (nI ((G.map nI).length))) (C := R_Mo) (T := T_Mo) (N := 19) hx hb hw in_Mo hown hK hP 0 rfl rfl 6 (by decide) (hw _ w_370) (fun _ h9 => h9) rfl dMo_compare_12 ?_
        refine lv_icmp_ge (tgt := 40) hx hb dMo_compare_15 (by decide) (fun h15 => ?_) (fun h15 => ?_)
        · skip
          replace h15 := nt_le (a := (G.map nI).length) (b := i) (by omega) (by omega) h15
          rw [List.length_map] at h15
          refine lv_iload_n hx hb dMo_compare_40 rfl (lv_at hl 0 rfl) ?_
          refine lv_aload_n hx hb dMo_compare_41 rfl (lv_at hl 1 rfl) ?_
          refine va_get (D := D) (ci := 5) (v := .int (nI ((M.map nI).length))) (C := R_Mo) (T := T_Mo) (N := 19) hx hb hw in_Mo hown hK hP 0 rfl rfl 2 (by decide) (hw _ w_366) (fun _ h9 => h9) rfl dMo_compare_42 ?_
          refine lv_icmp_eq (tgt := 56) hx hb dMo_compare_45 (by decide) (fun h45 => ?_) (fun h45 => ?_)
          · skip
            exact absurd (nt_eq (a := i) (b := (M.map nI).length) (by omega) (by omega) h45) (by rw [List.length_map]; omega)
          · skip
            refine lv_iload_n hx hb dMo_compare_48 rfl (lv_at hl 0 rfl) ?_
            refine lv_aload_n hx hb dMo_compare_49 rfl (lv_at hl 1 rfl) ?_
            refine va_get (D := D) (ci := 5) (v := .int (nI ((G.map nI).length))) (C := R_Mo) (T := T_Mo) (N := 19) hx hb hw in_Mo hown hK hP 0 rfl rfl 6 (by decide) (hw _ w_370) (fun _ h9 => h9) rfl dMo_compare_50 ?_
            refine lv_icmp_ne (tgt := 88) hx hb dMo_compare_53 (by decide) (fun h53 => ?_) (fun h53 => ?_)
            · skip
              exact absurd (show i = (G.map nI).length by rw [List.length_map]; omega) (nt_ne (by omega) (by omega) h53)
            · skip
              refine lv_aload_n hx hb dMo_compare_56 rfl (lv_at hl 1 rfl) ?_
              refine va_get (D := D) (ci := 5) (v := .int (nI ((M.map nI).length))) (C := R_Mo) (T := T_Mo) (N := 19) hx hb hw in_Mo hown hK hP 0 rfl rfl 2 (by decide) (hw _ w_366) (fun _ h9 => h9) rfl dMo_compare_57 ?_
              refine lv_aload_n hx hb dMo_compare_60 rfl (lv_at hl 1 rfl) ?_
              refine va_get (D := D) (ci := 5) (v := .int (nI ((G.map nI).length))) (C := R_Mo) (T := T_Mo) (N := 19) hx hb hw in_Mo hown hK hP 0 rfl rfl 6 (by decide) (hw _ w_370) (fun _ h9 => h9) rfl dMo_compare_61 ?_
              refine lv_icmp_ne (tgt := 71) hx hb dMo_compare_64 (by decide) (fun h64 => ?_) (fun h64 => ?_)
              · skip
                replace h64 := nt_ne (a := (M.map nI).length) (b := (G.map nI).length) (by omega) (by omega) h64
                rw [List.length_map, List.length_map] at h64
                refine lv_aload_n hx hb dMo_compare_71 rfl (lv_at hl 1 rfl) ?_
                refine va_get (D := D) (ci := 5) (v := .int (nI ((M.map nI).length))) (C := R_Mo) (T := T_Mo) (N := 19) hx hb hw in_Mo hown hK hP 0 rfl rfl 2 (by decide) (hw _ w_366) (fun _ h9 => h9) rfl dMo_compare_72 ?_
                refine lv_aload_n hx hb dMo_compare_75 rfl (lv_at hl 1 rfl) ?_
                refine va_get (D := D) (ci := 5) (v := .int (nI ((G.map nI).length))) (C := R_Mo) (T := T_Mo) (N := 19) hx hb hw in_Mo hown hK hP 0 rfl rfl 6 (by decide) (hw _ w_370) (fun _ h9 => h9) rfl dMo_compare_76 ?_
                refine lv_icmp_ge (tgt := 86) hx hb dMo_compare_79 (by decide) (fun h79 => ?_) (fun h79 => ?_)
                · skip
                  replace h79 := nt_le (a := (G.map nI).length) (b := (M.map nI).length) (by omega) (by omega) h79
                  rw [List.length_map, List.length_map] at h79
                  refine lv_iconst (v := 1) hx hb dMo_compare_86 (by decide) ?_
                  exact ret () dMo_compare_87 rfl (by rw [← hF, cmS_end (by omega)]; unfold ooN; (repeat' split) <;> first | omega | rfl) hP hD hS
                · skip
                  replace h79 := nt_nle (a := (G.map nI).length) (b := (M.map nI).length) (by omega) (by omega) h79
                  rw [List.length_map, List.length_map] at h79
                  refine lv_iconst (v := (-1)) hx hb dMo_compare_82 (by decide) ?_
                  refine lv_goto (tgt := 87) hx hb dMo_compare_83 (by decide) ?_
                  exact ret () dMo_compare_87 rfl (by rw [← hF, cmS_end (by omega)]; unfold ooN; (repeat' split) <;> first | omega | rfl) hP hD hS
              · skip
                replace h64 := nt_eq (a := (M.map nI).length) (b := (G.map nI).length) (by omega) (by omega) h64
                rw [List.length_map, List.length_map] at h64
                refine lv_iconst (v := 0) hx hb dMo_compare_67 (by decide) ?_
                refine lv_goto (tgt := 87) hx hb dMo_compare_68 (by decide) ?_
                exact ret () dMo_compare_87 rfl (by rw [← hF, cmS_end (by omega)]; unfold ooN; (repeat' split) <;> first | omega | rfl) hP hD hS
        · skip
          replace h15 := nt_nle (a := (G.map nI).length) (b := i) (by omega) (by omega) h15
          rw [List.length_map] at h15
          refine lv_aload_n hx hb dMo_compare_18 rfl (lv_at hl 1 rfl) ?_
          refine va_get (D := D) (ci := 5) (v := .ref xL) (C := R_Mo) (T := T_Mo) (N := 19) hx hb hw in_Mo hown hK hP 0 rfl rfl 3 (by decide) (hw _ w_367) (fun _ h9 => h9) rfl dMo_compare_19 ?_
          refine lv_iload_n hx hb dMo_compare_22 rfl (lv_at hl 0 rfl) ?_
          refine va_iald hx hb hK hP 2 0 rfl rfl (vp_in_nI (by omega) (by omega)) dMo_compare_23 ?_
          refine lv_rei (y := gL i) (by rw [nI_clamp (by omega)]) ?_
          refine lv_rei (y := nI (M.getD i 0)) ((Hd_un hfL (by rw [List.length_map]; omega)).trans (un_map (by omega))) ?_
          refine lv_aload_n hx hb dMo_compare_24 rfl (lv_at hl 1 rfl) ?_
          refine va_get (D := D) (ci := 5) (v := .ref xK) (C := R_Mo) (T := T_Mo) (N := 19) hx hb hw in_Mo hown hK hP 0 rfl rfl 7 (by decide) (hw _ w_371) (fun _ h9 => h9) rfl dMo_compare_25 ?_
          refine lv_iload_n hx hb dMo_compare_28 rfl (lv_at hl 0 rfl) ?_
          refine va_iald hx hb hK hP 4 0 rfl rfl (vp_in_nI (by omega) (by omega)) dMo_compare_29 ?_
          refine lv_rei (y := gK i) (by rw [nI_clamp (by omega)]) ?_
          refine lv_rei (y := nI (G.getD i 0)) ((Hd_un hfK (by rw [List.length_map]; omega)).trans (un_map (by omega))) ?_
          have hvb : M.getD i 0 ≤ 1114111 := getD_b (fun x hx => (hMs x hx).1) (by omega)
          have hwb : G.getD i 0 ≤ 1114111 := getD_b (fun x hx => (hGs x hx).1) (by omega)
          refine lv_icmp_ne (tgt := 40) hx hb dMo_compare_30 (by decide) (fun h30 => ?_) (fun h30 => ?_)
          · skip
            replace h30 := nt_ne (a := M.getD i 0) (b := G.getD i 0) (by omega) (by omega) h30
            refine lv_iload_n hx hb dMo_compare_40 rfl (lv_at hl 0 rfl) ?_
            refine lv_aload_n hx hb dMo_compare_41 rfl (lv_at hl 1 rfl) ?_
            refine va_get (D := D) (ci := 5) (v := .int (nI ((M.map nI).length))) (C := R_Mo) (T := T_Mo) (N := 19) hx hb hw in_Mo hown hK hP 0 rfl rfl 2 (by decide) (hw _ w_366) (fun _ h9 => h9) rfl dMo_compare_42 ?_
            refine lv_icmp_eq (tgt := 56) hx hb dMo_compare_45 (by decide) (fun h45 => ?_) (fun h45 => ?_)
            · skip
              exact absurd (nt_eq (a := i) (b := (M.map nI).length) (by omega) (by omega) h45) (by rw [List.length_map]; omega)
            · skip
              refine lv_iload_n hx hb dMo_compare_48 rfl (lv_at hl 0 rfl) ?_
              refine lv_aload_n hx hb dMo_compare_49 rfl (lv_at hl 1 rfl) ?_
              refine va_get (D := D) (ci := 5) (v := .int (nI ((G.map nI).length))) (C := R_Mo) (T := T_Mo) (N := 19) hx hb hw in_Mo hown hK hP 0 rfl rfl 6 (by decide) (hw _ w_370) (fun _ h9 => h9) rfl dMo_compare_50 ?_
              refine lv_icmp_ne (tgt := 88) hx hb dMo_compare_53 (by decide) (fun h53 => ?_) (fun h53 => ?_)
              · skip
                refine lv_iload_n hx hb dMo_compare_88 rfl (lv_at hl 2 rfl) ?_
                refine lv_if_eq (tgt := 104) hx hb dMo_compare_89 (by decide) (fun h89 => ?_) (fun h89 => ?_)
                · skip
                  refine lv_aload_n hx hb dMo_compare_104 rfl (lv_at hl 1 rfl) ?_
                  refine va_get (D := D) (ci := 5) (v := .ref xL) (C := R_Mo) (T := T_Mo) (N := 19) hx hb hw in_Mo hown hK hP 0 rfl rfl 3 (by decide) (hw _ w_367) (fun _ h9 => h9) rfl dMo_compare_105 ?_
                  refine lv_iload_n hx hb dMo_compare_108 rfl (lv_at hl 0 rfl) ?_
                  refine va_iald hx hb hK hP 2 0 rfl rfl (vp_in_nI (by omega) (by omega)) dMo_compare_109 ?_
                  refine lv_rei (y := gL i) (by rw [nI_clamp (by omega)]) ?_
                  refine lv_rei (y := nI (M.getD i 0)) ((Hd_un hfL (by rw [List.length_map]; omega)).trans (un_map (by omega))) ?_
                  refine lv_istore_n (lv' := [(3, .int (nI (M.getD i 0))), (2, .int (nI i)), (0, .ref mo), (1, .int (nI 0))]) hx hb dMo_compare_110 rfl hl (by decide) rfl (fun ls hl => ?_)
                  refine lv_iload_n hx hb dMo_compare_111 rfl (lv_at hl 3 rfl) ?_
                  refine lv_if_eq (tgt := 127) hx hb dMo_compare_112 (by decide) (fun h112 => ?_) (fun h112 => ?_)
                  · skip
                    refine lv_aload_n hx hb dMo_compare_127 rfl (lv_at hl 2 rfl) ?_
                    refine va_get (D := D) (ci := 5) (v := .ref xK) (C := R_Mo) (T := T_Mo) (N := 19) hx hb hw in_Mo hown hK hP 0 rfl rfl 7 (by decide) (hw _ w_371) (fun _ h9 => h9) rfl dMo_compare_128 ?_
                    refine lv_iload_n hx hb dMo_compare_131 rfl (lv_at hl 1 rfl) ?_
                    refine va_iald hx hb hK hP 4 0 rfl rfl (vp_in_nI (by omega) (by omega)) dMo_compare_132 ?_
                    refine lv_rei (y := gK i) (by rw [nI_clamp (by omega)]) ?_
                    refine lv_rei (y := nI (G.getD i 0)) ((Hd_un hfK (by rw [List.length_map]; omega)).trans (un_map (by omega))) ?_
                    refine lv_istore (lv' := [(4, .int (nI (G.getD i 0))), (3, .int (nI (M.getD i 0))), (2, .int (nI i)), (0, .ref mo), (1, .int (nI 0))]) hx hb dMo_compare_133 hl (by decide) rfl (fun ls hl => ?_)
                    have hrx := rk_b hvb
                    have hry := rk_b hwb
                    refine lv_iload_n hx hb dMo_compare_135 rfl (lv_at hl 1 rfl) ?_
                    refine lv_iload hx hb dMo_compare_136 (lv_at hl 0 rfl) ?_
                    refine lv_icmp_ge (tgt := 145) hx hb dMo_compare_138 (by decide) (fun h138 => ?_) (fun h138 => ?_)
                    · skip
                      replace h138 := nt_le (a := G.getD i 0) (b := M.getD i 0) (by omega) (by omega) h138
                      refine lv_iconst (v := 1) hx hb dMo_compare_145 (by decide) ?_
                      have hs1 : sca (M.getD i 0) := getD_s hMs (by omega)
                      have hs2 : sca (G.getD i 0) := getD_s hGs (by omega)
                      exact ret () dMo_compare_146 rfl (by rw [← hF, cmS_step (by omega) (by omega), if_neg (ooN_ne h30)]; unfold ooN; (repeat' split) <;> first | omega | rfl) hP hD hS
                    · skip
                      replace h138 := nt_nle (a := G.getD i 0) (b := M.getD i 0) (by omega) (by omega) h138
                      refine lv_iconst (v := (-1)) hx hb dMo_compare_141 (by decide) ?_
                      refine lv_goto (tgt := 146) hx hb dMo_compare_142 (by decide) ?_
                      have hs1 : sca (M.getD i 0) := getD_s hMs (by omega)
                      have hs2 : sca (G.getD i 0) := getD_s hGs (by omega)
                      exact ret () dMo_compare_146 rfl (by rw [← hF, cmS_step (by omega) (by omega), if_neg (ooN_ne h30)]; unfold ooN; (repeat' split) <;> first | omega | rfl) hP hD hS
                  · skip
                    exact absurd h112 (by decide)
                · skip
                  exact absurd h89 (by decide)
              · skip
                exact absurd (nt_eq (a := i) (b := (G.map nI).length) (by omega) (by omega) h53) (by rw [List.length_map]; omega)
          · skip
            replace h30 := nt_eq (a := M.getD i 0) (b := G.getD i 0) (by omega) (by omega) h30
            refine lv_iload_n hx hb dMo_compare_33 rfl (lv_at hl 0 rfl) ?_
            refine lv_iconst (v := nI 1) hx hb dMo_compare_34 (by decide) ?_
            refine lv_iadd hx hb dMo_compare_35 ?_
            refine lv_rei (y := nI (i + 1)) (nI_add _ _) ?_
            refine lv_istore_n (lv' := [(2, .int (nI (i + 1))), (0, .ref mo), (1, .int (nI 0))]) hx hb dMo_compare_36 rfl hl (by decide) rfl (fun ls hl => ?_)
            refine lv_goto (tgt := 2) hx hb dMo_compare_37 (by decide) ?_
            rw [cmS_step (by omega) (by omega), h30, if_pos ooN_0] at hF
            exact ih_loop1 (i + 1) _ _ _ (by omega) (by omega) (by omega) hF (lv_sub hl [0, 1, 2] rfl) hP hD hS
  exact loop1 _ 0 _ _ _ (Nat.lt_succ_self _) (Nat.zero_le _) (Nat.zero_le _) rfl (lv_sub hl [0, 1, 2] rfl) hP hD hS
set_option maxHeartbeats 4000000 in
set_option maxRecDepth 100000 in
theorem k_Mo_compare1 (l : Launch) (D : va_G) (cA : ClassId) (sz : Nat) (mo xI xL xO xK xR xW : Nat) (I O : List Int32) (gI gL gO gK gR gW : Nat → Int32) (md wr at_ : Int32) (nu vl pc_ : Int64) (bs tk gd : Int32) (M G : List Nat) (hfI : Hd gI I) (hcI : I.length ≤ 120) (hfL : Hd gL (M.map nI)) (hcL : (M.map nI).length ≤ 120) (hfO : Hd gO O) (hcO : O.length ≤ 400) (hfK : Hd gK (G.map nI)) (hcK : (G.map nI).length ≤ 120) (hMs : ∀ x ∈ M, sca x) (hGs : ∀ x ∈ G, sca x) : KI l D cA y_Mo_compare c_Mo_compare 5 .int 1 20 [.ref mo, .int (nI 1)] sz [(mo, .inr (5, [.int (nI I.length), .ref xI, .int (nI ((M.map nI).length)), .ref xL, .int (nI O.length), .ref xO, .int (nI ((G.map nI).length)), .ref xK, .int md, .ref xR, .int wr, .ref xW, .int at_, .long nu, .long vl, .long pc_, .int bs, .int tk, .int gd])), (xI, .inl (cA, 120, .inl gI)), (xL, .inl (cA, 120, .inl gL)), (xO, .inl (cA, 400, .inl gO)), (xK, .inl (cA, 120, .inl gK)), (xR, .inl (cA, 121, .inl gR)), (xW, .inl (cA, 1000, .inl gW))] (S := Unit) (fun r _ => r = cmS oo16 M G) (fun _ => [(mo, .inr (5, [.int (nI I.length), .ref xI, .int (nI ((M.map nI).length)), .ref xL, .int (nI O.length), .ref xO, .int (nI ((G.map nI).length)), .ref xK, .int md, .ref xR, .int wr, .ref xW, .int at_, .long nu, .long vl, .long pc_, .int bs, .int tk, .int gd])), (xI, .inl (cA, 120, .inl gI)), (xL, .inl (cA, 120, .inl gL)), (xO, .inl (cA, 400, .inl gO)), (xK, .inl (cA, 120, .inl gK)), (xR, .inl (cA, 121, .inl gR)), (xW, .inl (cA, 1000, .inl gW))]) := by
  refine KI.of (by decide) (Nat.le_of_ble_eq_true rfl) ?_
  intro p e s m args below meth c Q R A ls Xf hR hA hS hP hD hK hn hl ret
  have hx := Xf.1
  have hb := Xf.2.1
  have hown : s.vm.findClass "ScalarScribeModel" = some m.cls := Xf.2.2.2.1
  have hw := Xf.2.2.2.2
  have hl : lv_has ls 5 [(0, .ref mo), (1, .int (nI 1))] := hl
  have hcM : M.length ≤ 120 := by rw [List.length_map] at hcL; exact hcL
  have hcG : G.length ≤ 120 := by rw [List.length_map] at hcK; exact hcK
  refine lv_iconst (v := nI 0) hx hb dMo_compare_0 (by decide) ?_
  refine lv_istore_n (lv' := [(2, .int (nI 0)), (0, .ref mo), (1, .int (nI 1))]) hx hb dMo_compare_1 rfl hl (by decide) rfl (fun ls hl => ?_)
  have loop1 : ∀ (n_ : Nat) (i : Nat) (ls : Array Slot) (H : Heap) (locs : List Loc), M.length - i < n_ → i ≤ M.length → i ≤ G.length → cmS oo16 (M.drop i) (G.drop i) = cmS oo16 M G → lv_has ls 5 [(2, .int (nI i)), (0, .ref mo), (1, .int (nI 1))] → va_P D vwCl [(mo, .inr (5, [.int (nI I.length), .ref xI, .int (nI ((M.map nI).length)), .ref xL, .int (nI O.length), .ref xO, .int (nI ((G.map nI).length)), .ref xK, .int md, .ref xR, .int wr, .ref xW, .int at_, .long nu, .long vl, .long pc_, .int bs, .int tk, .int gd])), (xI, .inl (cA, 120, .inl gI)), (xL, .inl (cA, 120, .inl gL)), (xO, .inl (cA, 400, .inl gO)), (xK, .inl (cA, 120, .inl gK)), (xR, .inl (cA, 121, .inl gR)), (xW, .inl (cA, 1000, .inl gW))] H → va_D A [(mo, .inr (5, [.int (nI I.length), .ref xI, .int (nI ((M.map nI).length)), .ref xL, .int (nI O.length), .ref xO, .int (nI ((G.map nI).length)), .ref xK, .int md, .ref xR, .int wr, .ref xW, .int at_, .long nu, .long vl, .long pc_, .int bs, .int tk, .int gd])), (xI, .inl (cA, 120, .inl gI)), (xL, .inl (cA, 120, .inl gL)), (xO, .inl (cA, 400, .inl gO)), (xK, .inl (cA, 120, .inl gK)), (xR, .inl (cA, 121, .inl gR)), (xW, .inl (cA, 1000, .inl gW))] → va_S A s.heap H locs → W p l e R s m args below meth c H locs 0 0 Q (F0 m 2 ls []) := by
    intro n_
    induction n_ with
    | zero => intro i ls H locs hm_; exact absurd hm_ (Nat.not_lt_zero _)
    | succ n_ ih_loop1 =>
      intro i ls H locs hm_ hiM hiG hF hl hP hD hS
      refine lv_iload_n hx hb dMo_compare_2 rfl (lv_at hl 0 rfl) ?_
      refine lv_aload_n hx hb dMo_compare_3 rfl (lv_at hl 1 rfl) ?_
      refine va_get (D := D) (ci := 5) (v := .int (nI ((M.map nI).length))) (C := R_Mo) (T := T_Mo) (N := 19) hx hb hw in_Mo hown hK hP 0 rfl rfl 2 (by decide) (hw _ w_366) (fun _ h9 => h9) rfl dMo_compare_4 ?_
      refine lv_icmp_ge (tgt := 40) hx hb dMo_compare_7 (by decide) (fun h7 => ?_) (fun h7 => ?_)
      · skip
        replace h7 := nt_le (a := (M.map nI).length) (b := i) (by omega) (by omega) h7
        rw [List.length_map] at h7
        refine lv_iload_n hx hb dMo_compare_40 rfl (lv_at hl 0 rfl) ?_
        refine lv_aload_n hx hb dMo_compare_41 rfl (lv_at hl 1 rfl) ?_
        refine va_get (D := D) (ci := 5) (v := .int (nI ((M.map nI).length))) (C := R_Mo) (T := T_Mo) (N := 19) hx hb hw in_Mo hown hK hP 0 rfl rfl 2 (by decide) (hw _ w_366) (fun _ h9 => h9) rfl dMo_compare_42 ?_
        refine lv_icmp_eq (tgt := 56) hx hb dMo_compare_45 (by decide) (fun h45 => ?_) (fun h45 => ?_)
        · skip
          refine lv_aload_n hx hb dMo_compare_56 rfl (lv_at hl 1 rfl) ?_
          refine va_get (D := D) (ci := 5) (v := .int (nI ((M.map nI).length))) (C := R_Mo) (T := T_Mo) (N := 19) hx hb hw in_Mo hown hK hP 0 rfl rfl 2 (by decide) (hw _ w_366) (fun _ h9 => h9) rfl dMo_compare_57 ?_
          refine lv_aload_n hx hb dMo_compare_60 rfl (lv_at hl 1 rfl) ?_
          refine va_get (D := D) (ci := 5) (v := .int (nI ((G.map nI).length))) (C := R_Mo) (T := T_Mo) (N := 19) hx hb hw in_Mo hown hK hP 0 rfl rfl 6 (by decide) (hw _ w_370) (fun _ h9 => h9) rfl dMo_compare_61 ?_
          refine lv_icmp_ne (tgt := 71) hx hb dMo_compare_64 (by decide) (fun h64 => ?_) (fun h64 => ?_)
          · skip
            replace h64 := nt_ne (a := (M.map nI).length) (b := (G.map nI).length) (by omega) (by omega) h64
            rw [List.length_map, List.length_map] at h64
            refine lv_aload_n hx hb dMo_compare_71 rfl (lv_at hl 1 rfl) ?_
            refine va_get (D := D) (ci := 5) (v := .int (nI ((M.map nI).length))) (C := R_Mo) (T := T_Mo) (N := 19) hx hb hw in_Mo hown hK hP 0 rfl rfl 2 (by decide) (hw _ w_366) (fun _ h9 => h9) rfl dMo_compare_72 ?_
            refine lv_aload_n hx hb dMo_compare_75 rfl (lv_at hl 1 rfl) ?_
            refine va_get (D := D) (ci := 5) (v := .int (nI ((G.map nI).length))) (C := R_Mo) (T := T_Mo) (N := 19) hx hb hw in_Mo hown hK hP 0 rfl rfl 6 (by decide) (hw _ w_370) (fun _ h9 => h9) rfl dMo_compare_76 ?_
            refine lv_icmp_ge (tgt := 86) hx hb dMo_compare_79 (by decide) (fun h79 => ?_) (fun h79 => ?_)
            · skip
              replace h79 := nt_le (a := (G.map nI).length) (b := (M.map nI).length) (by omega) (by omega) h79
              rw [List.length_map, List.length_map] at h79
              refine lv_iconst (v := 1) hx hb dMo_compare_86 (by decide) ?_
              exact ret () dMo_compare_87 rfl (by rw [← hF, cmS_end (by omega)]; unfold ooN; (repeat' split) <;> first | omega | rfl) hP hD hS
            · skip
              replace h79 := nt_nle (a := (G.map nI).length) (b := (M.map nI).length) (by omega) (by omega) h79
              rw [List.length_map, List.length_map] at h79
              refine lv_iconst (v := (-1)) hx hb dMo_compare_82 (by decide) ?_
              refine lv_goto (tgt := 87) hx hb dMo_compare_83 (by decide) ?_
              exact ret () dMo_compare_87 rfl (by rw [← hF, cmS_end (by omega)]; unfold ooN; (repeat' split) <;> first | omega | rfl) hP hD hS
          · skip
            replace h64 := nt_eq (a := (M.map nI).length) (b := (G.map nI).length) (by omega) (by omega) h64
            rw [List.length_map, List.length_map] at h64
            refine lv_iconst (v := 0) hx hb dMo_compare_67 (by decide) ?_
            refine lv_goto (tgt := 87) hx hb dMo_compare_68 (by decide) ?_
            exact ret () dMo_compare_87 rfl (by rw [← hF, cmS_end (by omega)]; unfold ooN; (repeat' split) <;> first | omega | rfl) hP hD hS
        · skip
          exact absurd (show i = (M.map nI).length by rw [List.length_map]; omega) (nt_ne (by omega) (by omega) h45)
      · skip
        replace h7 := nt_nle (a := (M.map nI).length) (b := i) (by omega) (by omega) h7
        rw [List.length_map] at h7
        refine lv_iload_n hx hb dMo_compare_10 rfl (lv_at hl 0 rfl) ?_
        refine lv_aload_n hx hb dMo_compare_11 rfl (lv_at hl 1 rfl) ?_
        refine va_get (D := D) (ci := 5) (v := .int (nI ((G.map nI).length))) (C := R_Mo) (T := T_Mo) (N := 19) hx hb hw in_Mo hown hK hP 0 rfl rfl 6 (by decide) (hw _ w_370) (fun _ h9 => h9) rfl dMo_compare_12 ?_
        refine lv_icmp_ge (tgt := 40) hx hb dMo_compare_15 (by decide) (fun h15 => ?_) (fun h15 => ?_)
        · skip
          replace h15 := nt_le (a := (G.map nI).length) (b := i) (by omega) (by omega) h15
          rw [List.length_map] at h15
          refine lv_iload_n hx hb dMo_compare_40 rfl (lv_at hl 0 rfl) ?_
          refine lv_aload_n hx hb dMo_compare_41 rfl (lv_at hl 1 rfl) ?_
          refine va_get (D := D) (ci := 5) (v := .int (nI ((M.map nI).length))) (C := R_Mo) (T := T_Mo) (N := 19) hx hb hw in_Mo hown hK hP 0 rfl rfl 2 (by decide) (hw _ w_366) (fun _ h9 => h9) rfl dMo_compare_42 ?_
          refine lv_icmp_eq (tgt := 56) hx hb dMo_compare_45 (by decide) (fun h45 => ?_) (fun h45 => ?_)
          · skip
            exact absurd (nt_eq (a := i) (b := (M.map nI).length) (by omega) (by omega) h45) (by rw [List.length_map]; omega)
          · skip
            refine lv_iload_n hx hb dMo_compare_48 rfl (lv_at hl 0 rfl) ?_
            refine lv_aload_n hx hb dMo_compare_49 rfl (lv_at hl 1 rfl) ?_
            refine va_get (D := D) (ci := 5) (v := .int (nI ((G.map nI).length))) (C := R_Mo) (T := T_Mo) (N := 19) hx hb hw in_Mo hown hK hP 0 rfl rfl 6 (by decide) (hw _ w_370) (fun _ h9 => h9) rfl dMo_compare_50 ?_
            refine lv_icmp_ne (tgt := 88) hx hb dMo_compare_53 (by decide) (fun h53 => ?_) (fun h53 => ?_)
            · skip
              exact absurd (show i = (G.map nI).length by rw [List.length_map]; omega) (nt_ne (by omega) (by omega) h53)
            · skip
              refine lv_aload_n hx hb dMo_compare_56 rfl (lv_at hl 1 rfl) ?_
              refine va_get (D := D) (ci := 5) (v := .int (nI ((M.map nI).length))) (C := R_Mo) (T := T_Mo) (N := 19) hx hb hw in_Mo hown hK hP 0 rfl rfl 2 (by decide) (hw _ w_366) (fun _ h9 => h9) rfl dMo_compare_57 ?_
              refine lv_aload_n hx hb dMo_compare_60 rfl (lv_at hl 1 rfl) ?_
              refine va_get (D := D) (ci := 5) (v := .int (nI ((G.map nI).length))) (C := R_Mo) (T := T_Mo) (N := 19) hx hb hw in_Mo hown hK hP 0 rfl rfl 6 (by decide) (hw _ w_370) (fun _ h9 => h9) rfl dMo_compare_61 ?_
              refine lv_icmp_ne (tgt := 71) hx hb dMo_compare_64 (by decide) (fun h64 => ?_) (fun h64 => ?_)
              · skip
                replace h64 := nt_ne (a := (M.map nI).length) (b := (G.map nI).length) (by omega) (by omega) h64
                rw [List.length_map, List.length_map] at h64
                refine lv_aload_n hx hb dMo_compare_71 rfl (lv_at hl 1 rfl) ?_
                refine va_get (D := D) (ci := 5) (v := .int (nI ((M.map nI).length))) (C := R_Mo) (T := T_Mo) (N := 19) hx hb hw in_Mo hown hK hP 0 rfl rfl 2 (by decide) (hw _ w_366) (fun _ h9 => h9) rfl dMo_compare_72 ?_
                refine lv_aload_n hx hb dMo_compare_75 rfl (lv_at hl 1 rfl) ?_
                refine va_get (D := D) (ci := 5) (v := .int (nI ((G.map nI).length))) (C := R_Mo) (T := T_Mo) (N := 19) hx hb hw in_Mo hown hK hP 0 rfl rfl 6 (by decide) (hw _ w_370) (fun _ h9 => h9) rfl dMo_compare_76 ?_
                refine lv_icmp_ge (tgt := 86) hx hb dMo_compare_79 (by decide) (fun h79 => ?_) (fun h79 => ?_)
                · skip
                  replace h79 := nt_le (a := (G.map nI).length) (b := (M.map nI).length) (by omega) (by omega) h79
                  rw [List.length_map, List.length_map] at h79
                  refine lv_iconst (v := 1) hx hb dMo_compare_86 (by decide) ?_
                  exact ret () dMo_compare_87 rfl (by rw [← hF, cmS_end (by omega)]; unfold ooN; (repeat' split) <;> first | omega | rfl) hP hD hS
                · skip
                  replace h79 := nt_nle (a := (G.map nI).length) (b := (M.map nI).length) (by omega) (by omega) h79
                  rw [List.length_map, List.length_map] at h79
                  refine lv_iconst (v := (-1)) hx hb dMo_compare_82 (by decide) ?_
                  refine lv_goto (tgt := 87) hx hb dMo_compare_83 (by decide) ?_
                  exact ret () dMo_compare_87 rfl (by rw [← hF, cmS_end (by omega)]; unfold ooN; (repeat' split) <;> first | omega | rfl) hP hD hS
              · skip
                replace h64 := nt_eq (a := (M.map nI).length) (b := (G.map nI).length) (by omega) (by omega) h64
                rw [List.length_map, List.length_map] at h64
                refine lv_iconst (v := 0) hx hb dMo_compare_67 (by decide) ?_
                refine lv_goto (tgt := 87) hx hb dMo_compare_68 (by decide) ?_
                exact ret () dMo_compare_87 rfl (by rw [← hF, cmS_end (by omega)]; unfold ooN; (repeat' split) <;> first | omega | rfl) hP hD hS
        · skip
          replace h15 := nt_nle (a := (G.map nI).length) (b := i) (by omega) (by omega) h15
          rw [List.length_map] at h15
          refine lv_aload_n hx hb dMo_compare_18 rfl (lv_at hl 1 rfl) ?_
          refine va_get (D := D) (ci := 5) (v := .ref xL) (C := R_Mo) (T := T_Mo) (N := 19) hx hb hw in_Mo hown hK hP 0 rfl rfl 3 (by decide) (hw _ w_367) (fun _ h9 => h9) rfl dMo_compare_19 ?_
          refine lv_iload_n hx hb dMo_compare_22 rfl (lv_at hl 0 rfl) ?_
          refine va_iald hx hb hK hP 2 0 rfl rfl (vp_in_nI (by omega) (by omega)) dMo_compare_23 ?_
          refine lv_rei (y := gL i) (by rw [nI_clamp (by omega)]) ?_
          refine lv_rei (y := nI (M.getD i 0)) ((Hd_un hfL (by rw [List.length_map]; omega)).trans (un_map (by omega))) ?_
          refine lv_aload_n hx hb dMo_compare_24 rfl (lv_at hl 1 rfl) ?_
          refine va_get (D := D) (ci := 5) (v := .ref xK) (C := R_Mo) (T := T_Mo) (N := 19) hx hb hw in_Mo hown hK hP 0 rfl rfl 7 (by decide) (hw _ w_371) (fun _ h9 => h9) rfl dMo_compare_25 ?_
          refine lv_iload_n hx hb dMo_compare_28 rfl (lv_at hl 0 rfl) ?_
          refine va_iald hx hb hK hP 4 0 rfl rfl (vp_in_nI (by omega) (by omega)) dMo_compare_29 ?_
          refine lv_rei (y := gK i) (by rw [nI_clamp (by omega)]) ?_
          refine lv_rei (y := nI (G.getD i 0)) ((Hd_un hfK (by rw [List.length_map]; omega)).trans (un_map (by omega))) ?_
          have hvb : M.getD i 0 ≤ 1114111 := getD_b (fun x hx => (hMs x hx).1) (by omega)
          have hwb : G.getD i 0 ≤ 1114111 := getD_b (fun x hx => (hGs x hx).1) (by omega)
          refine lv_icmp_ne (tgt := 40) hx hb dMo_compare_30 (by decide) (fun h30 => ?_) (fun h30 => ?_)
          · skip
            replace h30 := nt_ne (a := M.getD i 0) (b := G.getD i 0) (by omega) (by omega) h30
            refine lv_iload_n hx hb dMo_compare_40 rfl (lv_at hl 0 rfl) ?_
            refine lv_aload_n hx hb dMo_compare_41 rfl (lv_at hl 1 rfl) ?_
            refine va_get (D := D) (ci := 5) (v := .int (nI ((M.map nI).length))) (C := R_Mo) (T := T_Mo) (N := 19) hx hb hw in_Mo hown hK hP 0 rfl rfl 2 (by decide) (hw _ w_366) (fun _ h9 => h9) rfl dMo_compare_42 ?_
            refine lv_icmp_eq (tgt := 56) hx hb dMo_compare_45 (by decide) (fun h45 => ?_) (fun h45 => ?_)
            · skip
              exact absurd (nt_eq (a := i) (b := (M.map nI).length) (by omega) (by omega) h45) (by rw [List.length_map]; omega)
            · skip
              refine lv_iload_n hx hb dMo_compare_48 rfl (lv_at hl 0 rfl) ?_
              refine lv_aload_n hx hb dMo_compare_49 rfl (lv_at hl 1 rfl) ?_
              refine va_get (D := D) (ci := 5) (v := .int (nI ((G.map nI).length))) (C := R_Mo) (T := T_Mo) (N := 19) hx hb hw in_Mo hown hK hP 0 rfl rfl 6 (by decide) (hw _ w_370) (fun _ h9 => h9) rfl dMo_compare_50 ?_
              refine lv_icmp_ne (tgt := 88) hx hb dMo_compare_53 (by decide) (fun h53 => ?_) (fun h53 => ?_)
              · skip
                refine lv_iload_n hx hb dMo_compare_88 rfl (lv_at hl 2 rfl) ?_
                refine lv_if_eq (tgt := 104) hx hb dMo_compare_89 (by decide) (fun h89 => ?_) (fun h89 => ?_)
                · skip
                  exact absurd h89 (by decide)
                · skip
                  refine lv_aload_n hx hb dMo_compare_92 rfl (lv_at hl 1 rfl) ?_
                  refine va_get (D := D) (ci := 5) (v := .ref xL) (C := R_Mo) (T := T_Mo) (N := 19) hx hb hw in_Mo hown hK hP 0 rfl rfl 3 (by decide) (hw _ w_367) (fun _ h9 => h9) rfl dMo_compare_93 ?_
                  refine lv_iload_n hx hb dMo_compare_96 rfl (lv_at hl 0 rfl) ?_
                  refine va_iald hx hb hK hP 2 0 rfl rfl (vp_in_nI (by omega) (by omega)) dMo_compare_97 ?_
                  refine lv_rei (y := gL i) (by rw [nI_clamp (by omega)]) ?_
                  refine lv_rei (y := nI (M.getD i 0)) ((Hd_un hfL (by rw [List.length_map]; omega)).trans (un_map (by omega))) ?_
                  refine ca_i (wr := [(mo, .inr (5, [.int (nI I.length), .ref xI, .int (nI ((M.map nI).length)), .ref xL, .int (nI O.length), .ref xO, .int (nI ((G.map nI).length)), .ref xK, .int md, .ref xR, .int wr, .ref xW, .int at_, .long nu, .long vl, .long pc_, .int bs, .int tk, .int gd])), (xI, .inl (cA, 120, .inl gI)), (xL, .inl (cA, 120, .inl gL)), (xO, .inl (cA, 400, .inl gO)), (xK, .inl (cA, 120, .inl gK)), (xR, .inl (cA, 121, .inl gR)), (xW, .inl (cA, 1000, .inl gW))]) (va_runS (As := [.int (nI (M.getD i 0))]) (rest := []) Xf (k_Mo_rank l D cA _ (M.getD i 0) (by omega)) ⟨cb_of 1 hw w_582 w_7 w_580 (by decide +kernel) (by rw [hR]; exact ⟨Nat.le_of_ble_eq_true rfl, Nat.le_of_ble_eq_true rfl⟩), hw _ w_581⟩ (pre_S hP hD hK hn [] rfl (by decide)) rfl rfl hl.1 rfl (lv_room (Nat.le_of_ble_eq_true rfl)) dMo_compare_98 ⟨Nat.zero_le _, Nat.zero_le _⟩) hP hD hS hA [] [0, 1, 2, 3, 4, 5, 6] rfl rfl (by decide) (by decide) (fun r98 u_ H locs hq_ hP hD hS => ?_)
                  obtain rfl : r98 = nI (rkN (M.getD i 0)) := hq_
                  replace hP : va_P D vwCl [(mo, .inr (5, [.int (nI I.length), .ref xI, .int (nI ((M.map nI).length)), .ref xL, .int (nI O.length), .ref xO, .int (nI ((G.map nI).length)), .ref xK, .int md, .ref xR, .int wr, .ref xW, .int at_, .long nu, .long vl, .long pc_, .int bs, .int tk, .int gd])), (xI, .inl (cA, 120, .inl gI)), (xL, .inl (cA, 120, .inl gL)), (xO, .inl (cA, 400, .inl gO)), (xK, .inl (cA, 120, .inl gK)), (xR, .inl (cA, 121, .inl gR)), (xW, .inl (cA, 1000, .inl gW))] H := hP.sub [0, 1, 2, 3, 4, 5, 6] rfl
                  replace hD : va_D A [(mo, .inr (5, [.int (nI I.length), .ref xI, .int (nI ((M.map nI).length)), .ref xL, .int (nI O.length), .ref xO, .int (nI ((G.map nI).length)), .ref xK, .int md, .ref xR, .int wr, .ref xW, .int at_, .long nu, .long vl, .long pc_, .int bs, .int tk, .int gd])), (xI, .inl (cA, 120, .inl gI)), (xL, .inl (cA, 120, .inl gL)), (xO, .inl (cA, 400, .inl gO)), (xK, .inl (cA, 120, .inl gK)), (xR, .inl (cA, 121, .inl gR)), (xW, .inl (cA, 1000, .inl gW))] := hD.sub [0, 1, 2, 3, 4, 5, 6] (by decide) rfl
                  refine lv_goto (tgt := 110) hx hb dMo_compare_101 (by decide) ?_
                  refine lv_istore_n (lv' := [(3, .int (nI (rkN (M.getD i 0)))), (2, .int (nI i)), (0, .ref mo), (1, .int (nI 1))]) hx hb dMo_compare_110 rfl hl (by decide) rfl (fun ls hl => ?_)
                  refine lv_iload_n hx hb dMo_compare_111 rfl (lv_at hl 3 rfl) ?_
                  refine lv_if_eq (tgt := 127) hx hb dMo_compare_112 (by decide) (fun h112 => ?_) (fun h112 => ?_)
                  · skip
                    exact absurd h112 (by decide)
                  · skip
                    refine lv_aload_n hx hb dMo_compare_115 rfl (lv_at hl 2 rfl) ?_
                    refine va_get (D := D) (ci := 5) (v := .ref xK) (C := R_Mo) (T := T_Mo) (N := 19) hx hb hw in_Mo hown hK hP 0 rfl rfl 7 (by decide) (hw _ w_371) (fun _ h9 => h9) rfl dMo_compare_116 ?_
                    refine lv_iload_n hx hb dMo_compare_119 rfl (lv_at hl 1 rfl) ?_
                    refine va_iald hx hb hK hP 4 0 rfl rfl (vp_in_nI (by omega) (by omega)) dMo_compare_120 ?_
                    refine lv_rei (y := gK i) (by rw [nI_clamp (by omega)]) ?_
                    refine lv_rei (y := nI (G.getD i 0)) ((Hd_un hfK (by rw [List.length_map]; omega)).trans (un_map (by omega))) ?_
                    refine ca_i (wr := [(mo, .inr (5, [.int (nI I.length), .ref xI, .int (nI ((M.map nI).length)), .ref xL, .int (nI O.length), .ref xO, .int (nI ((G.map nI).length)), .ref xK, .int md, .ref xR, .int wr, .ref xW, .int at_, .long nu, .long vl, .long pc_, .int bs, .int tk, .int gd])), (xI, .inl (cA, 120, .inl gI)), (xL, .inl (cA, 120, .inl gL)), (xO, .inl (cA, 400, .inl gO)), (xK, .inl (cA, 120, .inl gK)), (xR, .inl (cA, 121, .inl gR)), (xW, .inl (cA, 1000, .inl gW))]) (va_runS (As := [.int (nI (G.getD i 0))]) (rest := []) Xf (k_Mo_rank l D cA _ (G.getD i 0) (by omega)) ⟨cb_of 1 hw w_582 w_7 w_580 (by decide +kernel) (by rw [hR]; exact ⟨Nat.le_of_ble_eq_true rfl, Nat.le_of_ble_eq_true rfl⟩), hw _ w_581⟩ (pre_S hP hD hK hn [] rfl (by decide)) rfl rfl hl.1 rfl (lv_room (Nat.le_of_ble_eq_true rfl)) dMo_compare_121 ⟨Nat.zero_le _, Nat.zero_le _⟩) hP hD hS hA [] [0, 1, 2, 3, 4, 5, 6] rfl rfl (by decide) (by decide) (fun r121 u_ H locs hq_ hP hD hS => ?_)
                    obtain rfl : r121 = nI (rkN (G.getD i 0)) := hq_
                    replace hP : va_P D vwCl [(mo, .inr (5, [.int (nI I.length), .ref xI, .int (nI ((M.map nI).length)), .ref xL, .int (nI O.length), .ref xO, .int (nI ((G.map nI).length)), .ref xK, .int md, .ref xR, .int wr, .ref xW, .int at_, .long nu, .long vl, .long pc_, .int bs, .int tk, .int gd])), (xI, .inl (cA, 120, .inl gI)), (xL, .inl (cA, 120, .inl gL)), (xO, .inl (cA, 400, .inl gO)), (xK, .inl (cA, 120, .inl gK)), (xR, .inl (cA, 121, .inl gR)), (xW, .inl (cA, 1000, .inl gW))] H := hP.sub [0, 1, 2, 3, 4, 5, 6] rfl
                    replace hD : va_D A [(mo, .inr (5, [.int (nI I.length), .ref xI, .int (nI ((M.map nI).length)), .ref xL, .int (nI O.length), .ref xO, .int (nI ((G.map nI).length)), .ref xK, .int md, .ref xR, .int wr, .ref xW, .int at_, .long nu, .long vl, .long pc_, .int bs, .int tk, .int gd])), (xI, .inl (cA, 120, .inl gI)), (xL, .inl (cA, 120, .inl gL)), (xO, .inl (cA, 400, .inl gO)), (xK, .inl (cA, 120, .inl gK)), (xR, .inl (cA, 121, .inl gR)), (xW, .inl (cA, 1000, .inl gW))] := hD.sub [0, 1, 2, 3, 4, 5, 6] (by decide) rfl
                    refine lv_goto (tgt := 133) hx hb dMo_compare_124 (by decide) ?_
                    refine lv_istore (lv' := [(4, .int (nI (rkN (G.getD i 0)))), (3, .int (nI (rkN (M.getD i 0)))), (2, .int (nI i)), (0, .ref mo), (1, .int (nI 1))]) hx hb dMo_compare_133 hl (by decide) rfl (fun ls hl => ?_)
                    have hrx := rk_b hvb
                    have hry := rk_b hwb
                    refine lv_iload_n hx hb dMo_compare_135 rfl (lv_at hl 1 rfl) ?_
                    refine lv_iload hx hb dMo_compare_136 (lv_at hl 0 rfl) ?_
                    refine lv_icmp_ge (tgt := 145) hx hb dMo_compare_138 (by decide) (fun h138 => ?_) (fun h138 => ?_)
                    · skip
                      replace h138 := nt_le (a := rkN (G.getD i 0)) (b := rkN (M.getD i 0)) (by omega) (by omega) h138
                      refine lv_iconst (v := 1) hx hb dMo_compare_145 (by decide) ?_
                      have hs1 : sca (M.getD i 0) := getD_s hMs (by omega)
                      have hs2 : sca (G.getD i 0) := getD_s hGs (by omega)
                      exact ret () dMo_compare_146 rfl (by rw [← hF, cmS_step (by omega) (by omega), if_neg (oo16_ne hs1 hs2 h30), oo16_rk hs1 hs2 h30]; split <;> first | omega | rfl) hP hD hS
                    · skip
                      replace h138 := nt_nle (a := rkN (G.getD i 0)) (b := rkN (M.getD i 0)) (by omega) (by omega) h138
                      refine lv_iconst (v := (-1)) hx hb dMo_compare_141 (by decide) ?_
                      refine lv_goto (tgt := 146) hx hb dMo_compare_142 (by decide) ?_
                      have hs1 : sca (M.getD i 0) := getD_s hMs (by omega)
                      have hs2 : sca (G.getD i 0) := getD_s hGs (by omega)
                      exact ret () dMo_compare_146 rfl (by rw [← hF, cmS_step (by omega) (by omega), if_neg (oo16_ne hs1 hs2 h30), oo16_rk hs1 hs2 h30]; split <;> first | omega | rfl) hP hD hS
              · skip
                exact absurd (nt_eq (a := i) (b := (G.map nI).length) (by omega) (by omega) h53) (by rw [List.length_map]; omega)
          · skip
            replace h30 := nt_eq (a := M.getD i 0) (b := G.getD i 0) (by omega) (by omega) h30
            refine lv_iload_n hx hb dMo_compare_33 rfl (lv_at hl 0 rfl) ?_
            refine lv_iconst (v := nI 1) hx hb dMo_compare_34 (by decide) ?_
            refine lv_iadd hx hb dMo_compare_35 ?_
            refine lv_rei (y := nI (i + 1)) (nI_add _ _) ?_
            refine lv_istore_n (lv' := [(2, .int (nI (i + 1))), (0, .ref mo), (1, .int (nI 1))]) hx hb dMo_compare_36 rfl hl (by decide) rfl (fun ls hl => ?_)
            refine lv_goto (tgt := 2) hx hb dMo_compare_37 (by decide) ?_
            rw [cmS_step (by omega) (by omega), h30, if_pos oo16_0] at hF
            exact ih_loop1 (i + 1) _ _ _ (by omega) (by omega) (by omega) hF (lv_sub hl [0, 1, 2] rfl) hP hD hS
  exact loop1 _ 0 _ _ _ (Nat.lt_succ_self _) (Nat.zero_le _) (Nat.zero_le _) rfl (lv_sub hl [0, 1, 2] rfl) hP hD hS
