set_option maxHeartbeats 4000000 in
set_option maxRecDepth 100000 in
theorem k_Mo_put (l : Launch) (D : va_G) (cA : ClassId) (sz : Nat) (mo xI xL xO xK xR xW : Nat) (I L O K : List Int32) (gI gL gO gK gR gW : Nat → Int32) (md at_ : Int32) (nu vl pc_ : Int64) (bs tk gd : Int32) (Wl : List Int32) (x : Int32) (hfI : Hd gI I) (hcI : I.length ≤ 120) (hfL : Hd gL L) (hcL : L.length ≤ 120) (hfO : Hd gO O) (hcO : O.length ≤ 400) (hfK : Hd gK K) (hcK : K.length ≤ 120) (hW : Hw gW Wl) (hWb : Wl.length < 2 ^ 30) : KV l D cA y_Mo_put c_Mo_put 2 0 0 [.ref mo, .int x] sz [(mo, .inr (5, [.int (nI I.length), .ref xI, .int (nI L.length), .ref xL, .int (nI O.length), .ref xO, .int (nI K.length), .ref xK, .int md, .ref xR, .int (nI Wl.length), .ref xW, .int at_, .long nu, .long vl, .long pc_, .int bs, .int tk, .int gd])), (xI, .inl (cA, 120, .inl gI)), (xL, .inl (cA, 120, .inl gL)), (xO, .inl (cA, 400, .inl gO)), (xK, .inl (cA, 120, .inl gK)), (xR, .inl (cA, 121, .inl gR)), (xW, .inl (cA, 1000, .inl gW))] (S := (Nat → Int32)) (fun gW2 => Hw gW2 (Wl ++ [x])) (fun gW2 => [(mo, .inr (5, [.int (nI I.length), .ref xI, .int (nI L.length), .ref xL, .int (nI O.length), .ref xO, .int (nI K.length), .ref xK, .int md, .ref xR, .int (nI ((Wl ++ [x]).length)), .ref xW, .int at_, .long nu, .long vl, .long pc_, .int bs, .int tk, .int gd])), (xI, .inl (cA, 120, .inl gI)), (xL, .inl (cA, 120, .inl gL)), (xO, .inl (cA, 400, .inl gO)), (xK, .inl (cA, 120, .inl gK)), (xR, .inl (cA, 121, .inl gR)), (xW, .inl (cA, 1000, .inl gW2))]) := by
  refine KV.of (by decide) (Nat.le_of_ble_eq_true rfl) ?_
  intro p e s m args below meth c Q R A ls Xf hR hA hS hP hD hK hn hl ret
  have hx := Xf.1
  have hb := Xf.2.1
  have hown : s.vm.findClass "ScalarScribeModel" = some m.cls := Xf.2.2.2.1
  have hw := Xf.2.2.2.2
  have hl : lv_has ls 2 [(0, .ref mo), (1, .int x)] := hl
  refine lv_aload_n hx hb dMo_put_0 rfl (lv_at hl 0 rfl) ?_
  refine va_get (D := D) (ci := 5) (v := .int (nI Wl.length)) (C := R_Mo) (T := T_Mo) (N := 19) hx hb hw in_Mo hown hK hP 0 rfl rfl 10 (by decide) (hw _ w_374) (fun _ h9 => h9) rfl dMo_put_1 ?_
  refine lv_sipush (v := nI 1000) hx hb dMo_put_4 (by decide) ?_
  refine lv_icmp_ge (tgt := 20) hx hb dMo_put_7 (by decide) (fun h7 => ?_) (fun h7 => ?_)
  · skip
    replace h7 := nt_le (a := 1000) (b := Wl.length) (by omega) (by omega) h7
    refine lv_aload_n hx hb dMo_put_20 rfl (lv_at hl 0 rfl) ?_
    refine lv_aload_n hx hb dMo_put_21 rfl (lv_at hl 0 rfl) ?_
    refine va_get (D := D) (ci := 5) (v := .int (nI Wl.length)) (C := R_Mo) (T := T_Mo) (N := 19) hx hb hw in_Mo hown hK hP 0 rfl rfl 10 (by decide) (hw _ w_374) (fun _ h9 => h9) rfl dMo_put_22 ?_
    refine lv_iconst (v := nI 1) hx hb dMo_put_25 (by decide) ?_
    refine lv_iadd hx hb dMo_put_26 ?_
    refine lv_rei (y := nI (Wl.length + 1)) (nI_add _ _) ?_
    refine va_put (D := D) (ci := 5) (v := .int (nI (Wl.length + 1))) (ty := .int) (C := R_Mo) (T := T_Mo) (N := 19) hx hb hw in_Mo ty_Mo ty_Mo_ok nm_Mo hown hK hP hD hS 0 rfl rfl 10 (by decide) (hw _ w_374) (fun _ h9 => h9) rfl (by decide +kernel) rfl rfl (Nat.le_of_ble_eq_true rfl) dMo_put_27 (fun H locs hP hD hS => ?_)
    have hP : va_P D vwCl [(mo, .inr (5, [.int (nI I.length), .ref xI, .int (nI L.length), .ref xL, .int (nI O.length), .ref xO, .int (nI K.length), .ref xK, .int md, .ref xR, .int (nI (Wl.length + 1)), .ref xW, .int at_, .long nu, .long vl, .long pc_, .int bs, .int tk, .int gd])), (xI, .inl (cA, 120, .inl gI)), (xL, .inl (cA, 120, .inl gL)), (xO, .inl (cA, 400, .inl gO)), (xK, .inl (cA, 120, .inl gK)), (xR, .inl (cA, 121, .inl gR)), (xW, .inl (cA, 1000, .inl gW))] H := hP
    have hD : va_D A [(mo, .inr (5, [.int (nI I.length), .ref xI, .int (nI L.length), .ref xL, .int (nI O.length), .ref xO, .int (nI K.length), .ref xK, .int md, .ref xR, .int (nI (Wl.length + 1)), .ref xW, .int at_, .long nu, .long vl, .long pc_, .int bs, .int tk, .int gd])), (xI, .inl (cA, 120, .inl gI)), (xL, .inl (cA, 120, .inl gL)), (xO, .inl (cA, 400, .inl gO)), (xK, .inl (cA, 120, .inl gK)), (xR, .inl (cA, 121, .inl gR)), (xW, .inl (cA, 1000, .inl gW))] := hD
    have el : Wl.length + 1 = (Wl ++ [x]).length := by rw [List.length_append, List.length_singleton]
    rw [el] at hP hD
    exact ret (gW) dMo_put_30 (Hw_hi hW h7) hP hD hS
  · skip
    replace h7 := nt_nle (a := 1000) (b := Wl.length) (by omega) (by omega) h7
    refine lv_aload_n hx hb dMo_put_10 rfl (lv_at hl 0 rfl) ?_
    refine va_get (D := D) (ci := 5) (v := .ref xW) (C := R_Mo) (T := T_Mo) (N := 19) hx hb hw in_Mo hown hK hP 0 rfl rfl 11 (by decide) (hw _ w_375) (fun _ h9 => h9) rfl dMo_put_11 ?_
    refine lv_aload_n hx hb dMo_put_14 rfl (lv_at hl 0 rfl) ?_
    refine va_get (D := D) (ci := 5) (v := .int (nI Wl.length)) (C := R_Mo) (T := T_Mo) (N := 19) hx hb hw in_Mo hown hK hP 0 rfl rfl 10 (by decide) (hw _ w_374) (fun _ h9 => h9) rfl dMo_put_15 ?_
    refine lv_iload_n hx hb dMo_put_18 rfl (lv_at hl 1 rfl) ?_
    refine va_iast hx hb hK hP hD hS 6 0 rfl rfl (vp_in_nI (by omega) (by omega)) dMo_put_19 (fun H locs hP hD hS => ?_)
    rw [nI_clamp (by omega)] at hP hD
    have hP : va_P D vwCl [(mo, .inr (5, [.int (nI I.length), .ref xI, .int (nI L.length), .ref xL, .int (nI O.length), .ref xO, .int (nI K.length), .ref xK, .int md, .ref xR, .int (nI Wl.length), .ref xW, .int at_, .long nu, .long vl, .long pc_, .int bs, .int tk, .int gd])), (xI, .inl (cA, 120, .inl gI)), (xL, .inl (cA, 120, .inl gL)), (xO, .inl (cA, 400, .inl gO)), (xK, .inl (cA, 120, .inl gK)), (xR, .inl (cA, 121, .inl gR)), (xW, .inl (cA, 1000, .inl (upd gW Wl.length x)))] H := hP
    have hD : va_D A [(mo, .inr (5, [.int (nI I.length), .ref xI, .int (nI L.length), .ref xL, .int (nI O.length), .ref xO, .int (nI K.length), .ref xK, .int md, .ref xR, .int (nI Wl.length), .ref xW, .int at_, .long nu, .long vl, .long pc_, .int bs, .int tk, .int gd])), (xI, .inl (cA, 120, .inl gI)), (xL, .inl (cA, 120, .inl gL)), (xO, .inl (cA, 400, .inl gO)), (xK, .inl (cA, 120, .inl gK)), (xR, .inl (cA, 121, .inl gR)), (xW, .inl (cA, 1000, .inl (upd gW Wl.length x)))] := hD
    refine lv_aload_n hx hb dMo_put_20 rfl (lv_at hl 0 rfl) ?_
    refine lv_aload_n hx hb dMo_put_21 rfl (lv_at hl 0 rfl) ?_
    refine va_get (D := D) (ci := 5) (v := .int (nI Wl.length)) (C := R_Mo) (T := T_Mo) (N := 19) hx hb hw in_Mo hown hK hP 0 rfl rfl 10 (by decide) (hw _ w_374) (fun _ h9 => h9) rfl dMo_put_22 ?_
    refine lv_iconst (v := nI 1) hx hb dMo_put_25 (by decide) ?_
    refine lv_iadd hx hb dMo_put_26 ?_
    refine lv_rei (y := nI (Wl.length + 1)) (nI_add _ _) ?_
    refine va_put (D := D) (ci := 5) (v := .int (nI (Wl.length + 1))) (ty := .int) (C := R_Mo) (T := T_Mo) (N := 19) hx hb hw in_Mo ty_Mo ty_Mo_ok nm_Mo hown hK hP hD hS 0 rfl rfl 10 (by decide) (hw _ w_374) (fun _ h9 => h9) rfl (by decide +kernel) rfl rfl (Nat.le_of_ble_eq_true rfl) dMo_put_27 (fun H locs hP hD hS => ?_)
    have hP : va_P D vwCl [(mo, .inr (5, [.int (nI I.length), .ref xI, .int (nI L.length), .ref xL, .int (nI O.length), .ref xO, .int (nI K.length), .ref xK, .int md, .ref xR, .int (nI (Wl.length + 1)), .ref xW, .int at_, .long nu, .long vl, .long pc_, .int bs, .int tk, .int gd])), (xI, .inl (cA, 120, .inl gI)), (xL, .inl (cA, 120, .inl gL)), (xO, .inl (cA, 400, .inl gO)), (xK, .inl (cA, 120, .inl gK)), (xR, .inl (cA, 121, .inl gR)), (xW, .inl (cA, 1000, .inl (upd gW Wl.length x)))] H := hP
    have hD : va_D A [(mo, .inr (5, [.int (nI I.length), .ref xI, .int (nI L.length), .ref xL, .int (nI O.length), .ref xO, .int (nI K.length), .ref xK, .int md, .ref xR, .int (nI (Wl.length + 1)), .ref xW, .int at_, .long nu, .long vl, .long pc_, .int bs, .int tk, .int gd])), (xI, .inl (cA, 120, .inl gI)), (xL, .inl (cA, 120, .inl gL)), (xO, .inl (cA, 400, .inl gO)), (xK, .inl (cA, 120, .inl gK)), (xR, .inl (cA, 121, .inl gR)), (xW, .inl (cA, 1000, .inl (upd gW Wl.length x)))] := hD
    have el : Wl.length + 1 = (Wl ++ [x]).length := by rw [List.length_append, List.length_singleton]
    rw [el] at hP hD
    exact ret (upd gW Wl.length x) dMo_put_30 (Hw_lo hW) hP hD hS
set_option maxHeartbeats 4000000 in
set_option maxRecDepth 100000 in
theorem k_Mo_give (l : Launch) (D : va_G) (cA : ClassId) (sz : Nat) (mo xI xL xO xK xR xW : Nat) (I L O K : List Int32) (gI gL gO gK gR gW : Nat → Int32) (md at_ : Int32) (nu vl pc_ : Int64) (bs tk gd : Int32) (Wl : List Int32) (hfI : Hd gI I) (hcI : I.length ≤ 120) (hfL : Hd gL L) (hcL : L.length ≤ 120) (hfO : Hd gO O) (hcO : O.length ≤ 400) (hfK : Hd gK K) (hcK : K.length ≤ 120) (hW : Hw gW Wl) (hWb : Wl.length < 2 ^ 30) : KI l D cA y_Mo_give c_Mo_give 2 .int 0 0 [.ref mo] sz [(mo, .inr (5, [.int (nI I.length), .ref xI, .int (nI L.length), .ref xL, .int (nI O.length), .ref xO, .int (nI K.length), .ref xK, .int md, .ref xR, .int (nI Wl.length), .ref xW, .int at_, .long nu, .long vl, .long pc_, .int bs, .int tk, .int gd])), (xI, .inl (cA, 120, .inl gI)), (xL, .inl (cA, 120, .inl gL)), (xO, .inl (cA, 400, .inl gO)), (xK, .inl (cA, 120, .inl gK)), (xR, .inl (cA, 121, .inl gR)), (xW, .inl (cA, 1000, .inl gW))] (S := List Int32 × (Nat → Int32)) (fun r u => match u with | (O2, gO2) => (Wl.length ≤ 400 ∧ r = nI Wl.length ∧ O2 = Wl ∧ Hd gO2 O2) ∨ (400 < Wl.length ∧ r = -1 ∧ O2 = O ∧ Hd gO2 O2)) (fun u => match u with | (O2, gO2) => [(mo, .inr (5, [.int (nI I.length), .ref xI, .int (nI L.length), .ref xL, .int (nI O2.length), .ref xO, .int (nI K.length), .ref xK, .int md, .ref xR, .int (nI Wl.length), .ref xW, .int at_, .long nu, .long vl, .long pc_, .int bs, .int tk, .int gd])), (xI, .inl (cA, 120, .inl gI)), (xL, .inl (cA, 120, .inl gL)), (xO, .inl (cA, 400, .inl gO2)), (xK, .inl (cA, 120, .inl gK)), (xR, .inl (cA, 121, .inl gR)), (xW, .inl (cA, 1000, .inl gW))]) := by
  refine KI.of (by decide) (Nat.le_of_ble_eq_true rfl) ?_
  intro p e s m args below meth c Q R A ls Xf hR hA hS hP hD hK hn hl ret
  have hx := Xf.1
  have hb := Xf.2.1
  have hown : s.vm.findClass "ScalarScribeModel" = some m.cls := Xf.2.2.2.1
  have hw := Xf.2.2.2.2
  have hl : lv_has ls 2 [(0, .ref mo)] := hl
  refine lv_aload_n hx hb dMo_give_0 rfl (lv_at hl 0 rfl) ?_
  refine va_get (D := D) (ci := 5) (v := .int (nI Wl.length)) (C := R_Mo) (T := T_Mo) (N := 19) hx hb hw in_Mo hown hK hP 0 rfl rfl 10 (by decide) (hw _ w_374) (fun _ h9 => h9) rfl dMo_give_1 ?_
  refine lv_sipush (v := nI 400) hx hb dMo_give_4 (by decide) ?_
  refine lv_icmp_le (tgt := 12) hx hb dMo_give_7 (by decide) (fun h7 => ?_) (fun h7 => ?_)
  · skip
    replace h7 := nt_le (a := Wl.length) (b := 400) (by omega) (by omega) h7
    refine lv_aload_n hx hb dMo_give_12 rfl (lv_at hl 0 rfl) ?_
    refine lv_aload_n hx hb dMo_give_13 rfl (lv_at hl 0 rfl) ?_
    refine va_get (D := D) (ci := 5) (v := .int (nI Wl.length)) (C := R_Mo) (T := T_Mo) (N := 19) hx hb hw in_Mo hown hK hP 0 rfl rfl 10 (by decide) (hw _ w_374) (fun _ h9 => h9) rfl dMo_give_14 ?_
    refine va_put (D := D) (ci := 5) (v := .int (nI Wl.length)) (ty := .int) (C := R_Mo) (T := T_Mo) (N := 19) hx hb hw in_Mo ty_Mo ty_Mo_ok nm_Mo hown hK hP hD hS 0 rfl rfl 4 (by decide) (hw _ w_368) (fun _ h9 => h9) rfl (by decide +kernel) rfl rfl (Nat.le_of_ble_eq_true rfl) dMo_give_17 (fun H locs hP hD hS => ?_)
    have hP : va_P D vwCl [(mo, .inr (5, [.int (nI I.length), .ref xI, .int (nI L.length), .ref xL, .int (nI Wl.length), .ref xO, .int (nI K.length), .ref xK, .int md, .ref xR, .int (nI Wl.length), .ref xW, .int at_, .long nu, .long vl, .long pc_, .int bs, .int tk, .int gd])), (xI, .inl (cA, 120, .inl gI)), (xL, .inl (cA, 120, .inl gL)), (xO, .inl (cA, 400, .inl gO)), (xK, .inl (cA, 120, .inl gK)), (xR, .inl (cA, 121, .inl gR)), (xW, .inl (cA, 1000, .inl gW))] H := hP
    have hD : va_D A [(mo, .inr (5, [.int (nI I.length), .ref xI, .int (nI L.length), .ref xL, .int (nI Wl.length), .ref xO, .int (nI K.length), .ref xK, .int md, .ref xR, .int (nI Wl.length), .ref xW, .int at_, .long nu, .long vl, .long pc_, .int bs, .int tk, .int gd])), (xI, .inl (cA, 120, .inl gI)), (xL, .inl (cA, 120, .inl gL)), (xO, .inl (cA, 400, .inl gO)), (xK, .inl (cA, 120, .inl gK)), (xR, .inl (cA, 121, .inl gR)), (xW, .inl (cA, 1000, .inl gW))] := hD
    refine lv_iconst (v := nI 0) hx hb dMo_give_20 (by decide) ?_
    refine lv_istore_n (lv' := [(1, .int (nI 0)), (0, .ref mo)]) hx hb dMo_give_21 rfl hl (by decide) rfl (fun ls hl => ?_)
    replace hP : va_P D vwCl [(mo, .inr (5, [.int (nI I.length), .ref xI, .int (nI L.length), .ref xL, .int (nI Wl.length), .ref xO, .int (nI K.length), .ref xK, .int md, .ref xR, .int (nI Wl.length), .ref xW, .int at_, .long nu, .long vl, .long pc_, .int bs, .int tk, .int gd])), (xI, .inl (cA, 120, .inl gI)), (xL, .inl (cA, 120, .inl gL)), (xO, .inl (cA, 400, .inl (va_cpy gW gO 0 0 0))), (xK, .inl (cA, 120, .inl gK)), (xR, .inl (cA, 121, .inl gR)), (xW, .inl (cA, 1000, .inl gW))] H := by rw [cpy_0]; exact hP
    replace hD : va_D A [(mo, .inr (5, [.int (nI I.length), .ref xI, .int (nI L.length), .ref xL, .int (nI Wl.length), .ref xO, .int (nI K.length), .ref xK, .int md, .ref xR, .int (nI Wl.length), .ref xW, .int at_, .long nu, .long vl, .long pc_, .int bs, .int tk, .int gd])), (xI, .inl (cA, 120, .inl gI)), (xL, .inl (cA, 120, .inl gL)), (xO, .inl (cA, 400, .inl (va_cpy gW gO 0 0 0))), (xK, .inl (cA, 120, .inl gK)), (xR, .inl (cA, 121, .inl gR)), (xW, .inl (cA, 1000, .inl gW))] := by rw [cpy_0]; exact hD
    have loopc : ∀ (n_ : Nat) (i : Nat) (ls : Array Slot) (H : Heap) (locs : List Loc), Wl.length - i < n_ → i ≤ Wl.length → lv_has ls 2 [(1, .int (nI i)), (0, .ref mo)] → va_P D vwCl [(mo, .inr (5, [.int (nI I.length), .ref xI, .int (nI L.length), .ref xL, .int (nI Wl.length), .ref xO, .int (nI K.length), .ref xK, .int md, .ref xR, .int (nI Wl.length), .ref xW, .int at_, .long nu, .long vl, .long pc_, .int bs, .int tk, .int gd])), (xI, .inl (cA, 120, .inl gI)), (xL, .inl (cA, 120, .inl gL)), (xO, .inl (cA, 400, .inl (va_cpy gW gO 0 0 i))), (xK, .inl (cA, 120, .inl gK)), (xR, .inl (cA, 121, .inl gR)), (xW, .inl (cA, 1000, .inl gW))] H → va_D A [(mo, .inr (5, [.int (nI I.length), .ref xI, .int (nI L.length), .ref xL, .int (nI Wl.length), .ref xO, .int (nI K.length), .ref xK, .int md, .ref xR, .int (nI Wl.length), .ref xW, .int at_, .long nu, .long vl, .long pc_, .int bs, .int tk, .int gd])), (xI, .inl (cA, 120, .inl gI)), (xL, .inl (cA, 120, .inl gL)), (xO, .inl (cA, 400, .inl (va_cpy gW gO 0 0 i))), (xK, .inl (cA, 120, .inl gK)), (xR, .inl (cA, 121, .inl gR)), (xW, .inl (cA, 1000, .inl gW))] → va_S A s.heap H locs → W p l e R s m args below meth c H locs 0 0 Q (F0 m 22 ls []) := by
      intro n_
      induction n_ with
      | zero => intro i ls H locs hm_; exact absurd hm_ (Nat.not_lt_zero _)
      | succ n_ ih_loopc =>
        intro i ls H locs hm_ hi hl hP hD hS
        refine lv_iload_n hx hb dMo_give_22 rfl (lv_at hl 0 rfl) ?_
        refine lv_aload_n hx hb dMo_give_23 rfl (lv_at hl 1 rfl) ?_
        refine va_get (D := D) (ci := 5) (v := .int (nI Wl.length)) (C := R_Mo) (T := T_Mo) (N := 19) hx hb hw in_Mo hown hK hP 0 rfl rfl 10 (by decide) (hw _ w_374) (fun _ h9 => h9) rfl dMo_give_24 ?_
        refine lv_icmp_ge (tgt := 48) hx hb dMo_give_27 (by decide) (fun h27 => ?_) (fun h27 => ?_)
        · skip
          replace h27 := nt_le (a := Wl.length) (b := i) (by omega) (by omega) h27
          refine lv_aload_n hx hb dMo_give_48 rfl (lv_at hl 1 rfl) ?_
          refine va_get (D := D) (ci := 5) (v := .int (nI Wl.length)) (C := R_Mo) (T := T_Mo) (N := 19) hx hb hw in_Mo hown hK hP 0 rfl rfl 10 (by decide) (hw _ w_374) (fun _ h9 => h9) rfl dMo_give_49 ?_
          obtain rfl : i = Wl.length := by omega
          exact ret (Wl, va_cpy gW gO 0 0 Wl.length) dMo_give_52 rfl (Or.inl ⟨h7, rfl, rfl, Hd_cpy (Hw_Hd hW (by omega))⟩) hP hD hS
        · skip
          replace h27 := nt_nle (a := Wl.length) (b := i) (by omega) (by omega) h27
          refine lv_aload_n hx hb dMo_give_30 rfl (lv_at hl 1 rfl) ?_
          refine va_get (D := D) (ci := 5) (v := .ref xO) (C := R_Mo) (T := T_Mo) (N := 19) hx hb hw in_Mo hown hK hP 0 rfl rfl 5 (by decide) (hw _ w_369) (fun _ h9 => h9) rfl dMo_give_31 ?_
          refine lv_iload_n hx hb dMo_give_34 rfl (lv_at hl 0 rfl) ?_
          refine lv_aload_n hx hb dMo_give_35 rfl (lv_at hl 1 rfl) ?_
          refine va_get (D := D) (ci := 5) (v := .ref xW) (C := R_Mo) (T := T_Mo) (N := 19) hx hb hw in_Mo hown hK hP 0 rfl rfl 11 (by decide) (hw _ w_375) (fun _ h9 => h9) rfl dMo_give_36 ?_
          refine lv_iload_n hx hb dMo_give_39 rfl (lv_at hl 0 rfl) ?_
          refine va_iald hx hb hK hP 6 0 rfl rfl (vp_in_nI (by omega) (by omega)) dMo_give_40 ?_
          refine lv_rei (y := gW i) (by rw [nI_clamp (by omega)]) ?_
          refine va_iast hx hb hK hP hD hS 3 0 rfl rfl (vp_in_nI (by omega) (by omega)) dMo_give_41 (fun H locs hP hD hS => ?_)
          rw [nI_clamp (by omega)] at hP hD
          have hP : va_P D vwCl [(mo, .inr (5, [.int (nI I.length), .ref xI, .int (nI L.length), .ref xL, .int (nI Wl.length), .ref xO, .int (nI K.length), .ref xK, .int md, .ref xR, .int (nI Wl.length), .ref xW, .int at_, .long nu, .long vl, .long pc_, .int bs, .int tk, .int gd])), (xI, .inl (cA, 120, .inl gI)), (xL, .inl (cA, 120, .inl gL)), (xO, .inl (cA, 400, .inl (upd (va_cpy gW gO 0 0 i) i (gW i)))), (xK, .inl (cA, 120, .inl gK)), (xR, .inl (cA, 121, .inl gR)), (xW, .inl (cA, 1000, .inl gW))] H := hP
          have hD : va_D A [(mo, .inr (5, [.int (nI I.length), .ref xI, .int (nI L.length), .ref xL, .int (nI Wl.length), .ref xO, .int (nI K.length), .ref xK, .int md, .ref xR, .int (nI Wl.length), .ref xW, .int at_, .long nu, .long vl, .long pc_, .int bs, .int tk, .int gd])), (xI, .inl (cA, 120, .inl gI)), (xL, .inl (cA, 120, .inl gL)), (xO, .inl (cA, 400, .inl (upd (va_cpy gW gO 0 0 i) i (gW i)))), (xK, .inl (cA, 120, .inl gK)), (xR, .inl (cA, 121, .inl gR)), (xW, .inl (cA, 1000, .inl gW))] := hD
          rw [cpy_s] at hP hD
          refine lv_iinc (k := 0) (v := nI (i + 1)) (lv' := [(1, .int (nI (i + 1))), (0, .ref mo)]) hx hb dMo_give_42 hl rfl (nI_1 _) (by decide) rfl (fun ls hl => ?_)
          refine lv_goto (tgt := 22) hx hb dMo_give_45 (by decide) ?_
          exact ih_loopc (i + 1) _ _ _ (by omega) (by omega) (lv_sub hl [0, 1] rfl) hP hD hS
    exact loopc _ 0 _ _ _ (Nat.lt_succ_self _) (Nat.zero_le _) (lv_sub hl [0, 1] rfl) hP hD hS
  · skip
    replace h7 := nt_nle (a := Wl.length) (b := 400) (by omega) (by omega) h7
    refine lv_iconst (v := (-1)) hx hb dMo_give_10 (by decide) ?_
    exact ret (O, gO) dMo_give_11 rfl (Or.inr ⟨h7, rfl, rfl, hfO⟩) hP hD hS
set_option maxHeartbeats 4000000 in
set_option maxRecDepth 100000 in
theorem k_Mo_toEights (l : Launch) (D : va_G) (cA : ClassId) (sz : Nat) (mo xI xL xO xK xR xW : Nat) (I O K : List Int32) (gI gL gO gK gR gW : Nat → Int32) (md wr at_ : Int32) (nu vl pc_ : Int64) (bs tk gd : Int32) (M : List Nat) (hfI : Hd gI I) (hcI : I.length ≤ 120) (hfL : Hd gL (M.map nI)) (hcL : (M.map nI).length ≤ 120) (hfO : Hd gO O) (hcO : O.length ≤ 400) (hfK : Hd gK K) (hcK : K.length ≤ 120) (hMb : ∀ x ∈ M, x ≤ 1114111) : KI l D cA y_Mo_toEights c_Mo_toEights 3 .int 1 21 [.ref mo] sz [(mo, .inr (5, [.int (nI I.length), .ref xI, .int (nI ((M.map nI).length)), .ref xL, .int (nI O.length), .ref xO, .int (nI K.length), .ref xK, .int md, .ref xR, .int wr, .ref xW, .int at_, .long nu, .long vl, .long pc_, .int bs, .int tk, .int gd])), (xI, .inl (cA, 120, .inl gI)), (xL, .inl (cA, 120, .inl gL)), (xO, .inl (cA, 400, .inl gO)), (xK, .inl (cA, 120, .inl gK)), (xR, .inl (cA, 121, .inl gR)), (xW, .inl (cA, 1000, .inl gW))] (S := List Int32 × (Nat → Int32) × Int32 × (Nat → Int32)) (fun r u => match u with | (O2, gO2, wr2, gW2) => r = (spW en8 M O).1 ∧ O2 = (spW en8 M O).2 ∧ Hd gO2 O2 ∧ O2.length ≤ 400) (fun u => match u with | (O2, gO2, wr2, gW2) => [(mo, .inr (5, [.int (nI I.length), .ref xI, .int (nI ((M.map nI).length)), .ref xL, .int (nI O2.length), .ref xO, .int (nI K.length), .ref xK, .int md, .ref xR, .int wr2, .ref xW, .int at_, .long nu, .long vl, .long pc_, .int bs, .int tk, .int gd])), (xI, .inl (cA, 120, .inl gI)), (xL, .inl (cA, 120, .inl gL)), (xO, .inl (cA, 400, .inl gO2)), (xK, .inl (cA, 120, .inl gK)), (xR, .inl (cA, 121, .inl gR)), (xW, .inl (cA, 1000, .inl gW2))]) := by
  refine KI.of (by decide) (Nat.le_of_ble_eq_true rfl) ?_
  intro p e s m args below meth c Q R A ls Xf hR hA hS hP hD hK hn hl ret
  have hx := Xf.1
  have hb := Xf.2.1
  have hown : s.vm.findClass "ScalarScribeModel" = some m.cls := Xf.2.2.2.1
  have hw := Xf.2.2.2.2
  have hl : lv_has ls 3 [(0, .ref mo)] := hl
  have hcM : M.length ≤ 120 := by rw [List.length_map] at hcL; exact hcL
  refine lv_aload_n hx hb dMo_toEights_0 rfl (lv_at hl 0 rfl) ?_
  refine lv_iconst (v := nI 0) hx hb dMo_toEights_1 (by decide) ?_
  refine va_put (D := D) (ci := 5) (v := .int (nI 0)) (ty := .int) (C := R_Mo) (T := T_Mo) (N := 19) hx hb hw in_Mo ty_Mo ty_Mo_ok nm_Mo hown hK hP hD hS 0 rfl rfl 10 (by decide) (hw _ w_374) (fun _ h9 => h9) rfl (by decide +kernel) rfl rfl (Nat.le_of_ble_eq_true rfl) dMo_toEights_2 (fun H locs hP hD hS => ?_)
  have hP : va_P D vwCl [(mo, .inr (5, [.int (nI I.length), .ref xI, .int (nI ((M.map nI).length)), .ref xL, .int (nI O.length), .ref xO, .int (nI K.length), .ref xK, .int md, .ref xR, .int (nI 0), .ref xW, .int at_, .long nu, .long vl, .long pc_, .int bs, .int tk, .int gd])), (xI, .inl (cA, 120, .inl gI)), (xL, .inl (cA, 120, .inl gL)), (xO, .inl (cA, 400, .inl gO)), (xK, .inl (cA, 120, .inl gK)), (xR, .inl (cA, 121, .inl gR)), (xW, .inl (cA, 1000, .inl gW))] H := hP
  have hD : va_D A [(mo, .inr (5, [.int (nI I.length), .ref xI, .int (nI ((M.map nI).length)), .ref xL, .int (nI O.length), .ref xO, .int (nI K.length), .ref xK, .int md, .ref xR, .int (nI 0), .ref xW, .int at_, .long nu, .long vl, .long pc_, .int bs, .int tk, .int gd])), (xI, .inl (cA, 120, .inl gI)), (xL, .inl (cA, 120, .inl gL)), (xO, .inl (cA, 400, .inl gO)), (xK, .inl (cA, 120, .inl gK)), (xR, .inl (cA, 121, .inl gR)), (xW, .inl (cA, 1000, .inl gW))] := hD
  refine lv_iconst (v := nI 0) hx hb dMo_toEights_5 (by decide) ?_
  refine lv_istore_n (lv' := [(1, .int (nI 0)), (0, .ref mo)]) hx hb dMo_toEights_6 rfl hl (by decide) rfl (fun ls hl => ?_)
  have loop1 : ∀ (n_ : Nat) (i : Nat) (hW_ : Nat → Int32) (ls : Array Slot) (H : Heap) (locs : List Loc), M.length - i < n_ → Hw hW_ (((M.take i).flatMap en8).map nI) → (((M.take i).flatMap en8).map nI).length ≤ 4 * i → i ≤ M.length → lv_has ls 3 [(1, .int (nI i)), (0, .ref mo)] → va_P D vwCl [(mo, .inr (5, [.int (nI I.length), .ref xI, .int (nI ((M.map nI).length)), .ref xL, .int (nI O.length), .ref xO, .int (nI K.length), .ref xK, .int md, .ref xR, .int (nI ((((M.take i).flatMap en8).map nI).length)), .ref xW, .int at_, .long nu, .long vl, .long pc_, .int bs, .int tk, .int gd])), (xI, .inl (cA, 120, .inl gI)), (xL, .inl (cA, 120, .inl gL)), (xO, .inl (cA, 400, .inl gO)), (xK, .inl (cA, 120, .inl gK)), (xR, .inl (cA, 121, .inl gR)), (xW, .inl (cA, 1000, .inl hW_))] H → va_D A [(mo, .inr (5, [.int (nI I.length), .ref xI, .int (nI ((M.map nI).length)), .ref xL, .int (nI O.length), .ref xO, .int (nI K.length), .ref xK, .int md, .ref xR, .int (nI ((((M.take i).flatMap en8).map nI).length)), .ref xW, .int at_, .long nu, .long vl, .long pc_, .int bs, .int tk, .int gd])), (xI, .inl (cA, 120, .inl gI)), (xL, .inl (cA, 120, .inl gL)), (xO, .inl (cA, 400, .inl gO)), (xK, .inl (cA, 120, .inl gK)), (xR, .inl (cA, 121, .inl gR)), (xW, .inl (cA, 1000, .inl hW_))] → va_S A s.heap H locs → W p l e R s m args below meth c H locs 0 0 Q (F0 m 7 ls []) := by
    intro n_
    induction n_ with
    | zero => intro i hW_ ls H locs hm_; exact absurd hm_ (Nat.not_lt_zero _)
    | succ n_ ih_loop1 =>
      intro i hW_ ls H locs hm_ hW hwl hi hl hP hD hS
      refine lv_iload_n hx hb dMo_toEights_7 rfl (lv_at hl 0 rfl) ?_
      refine lv_aload_n hx hb dMo_toEights_8 rfl (lv_at hl 1 rfl) ?_
      refine va_get (D := D) (ci := 5) (v := .int (nI ((M.map nI).length))) (C := R_Mo) (T := T_Mo) (N := 19) hx hb hw in_Mo hown hK hP 0 rfl rfl 2 (by decide) (hw _ w_366) (fun _ h9 => h9) rfl dMo_toEights_9 ?_
      refine lv_icmp_ge (tgt := 181) hx hb dMo_toEights_12 (by decide) (fun h12 => ?_) (fun h12 => ?_)
      · skip
        replace h12 := nt_le (a := (M.map nI).length) (b := i) (by omega) (by omega) h12
        rw [List.length_map] at h12
        have ei : M.take i = M := List.take_of_length_le (by omega)
        rw [ei] at hP hD hW hwl
        refine lv_aload_n hx hb dMo_toEights_181 rfl (lv_at hl 1 rfl) ?_
        refine ca_i (wr := []) (va_runV (As := []) (rest := []) Xf (k_Mo_give l D cA _ mo xI xL xO xK xR xW I (M.map nI) O K gI gL gO gK gR hW_ md at_ nu vl pc_ bs tk gd ((M.flatMap en8).map nI) hfI hcI hfL hcL hfO hcO hfK hcK hW (by omega)) ⟨cb_of 0 hw w_532 w_7 w_529 (by decide +kernel) (by rw [hR]; exact ⟨Nat.le_of_ble_eq_true rfl, Nat.le_of_ble_eq_true rfl⟩), hw _ w_531, hw _ ws_23⟩ (pre_V (As := []) hP hD hK hn [0, 1, 2, 3, 4, 5, 6] rfl (by decide) 0 5 rfl rfl) rfl rfl hl.1 rfl (lv_room (Nat.le_of_ble_eq_true rfl)) dMo_toEights_182 ⟨Nat.zero_le _, Nat.zero_le _⟩) hP hD hS hA [0, 1, 2, 3, 4, 5, 6] [] rfl rfl (by decide) (by decide) (fun r182 u_ H locs hq_ hP hD hS => ?_)
        obtain ⟨O_, gO_⟩ := u_
        dsimp only at hq_ hP hD
        rcases hq_ with ⟨hgl, rfl, hO_, hfO_⟩ | ⟨hgl, rfl, hO_, hfO_⟩
        · skip
          subst O_
          replace hP : va_P D vwCl [(mo, .inr (5, [.int (nI I.length), .ref xI, .int (nI ((M.map nI).length)), .ref xL, .int (nI (((M.flatMap en8).map nI).length)), .ref xO, .int (nI K.length), .ref xK, .int md, .ref xR, .int (nI (((M.flatMap en8).map nI).length)), .ref xW, .int at_, .long nu, .long vl, .long pc_, .int bs, .int tk, .int gd])), (xI, .inl (cA, 120, .inl gI)), (xL, .inl (cA, 120, .inl gL)), (xO, .inl (cA, 400, .inl gO_)), (xK, .inl (cA, 120, .inl gK)), (xR, .inl (cA, 121, .inl gR)), (xW, .inl (cA, 1000, .inl hW_))] H := hP.sub [0, 1, 2, 3, 4, 5, 6] rfl
          replace hD : va_D A [(mo, .inr (5, [.int (nI I.length), .ref xI, .int (nI ((M.map nI).length)), .ref xL, .int (nI (((M.flatMap en8).map nI).length)), .ref xO, .int (nI K.length), .ref xK, .int md, .ref xR, .int (nI (((M.flatMap en8).map nI).length)), .ref xW, .int at_, .long nu, .long vl, .long pc_, .int bs, .int tk, .int gd])), (xI, .inl (cA, 120, .inl gI)), (xL, .inl (cA, 120, .inl gL)), (xO, .inl (cA, 400, .inl gO_)), (xK, .inl (cA, 120, .inl gK)), (xR, .inl (cA, 121, .inl gR)), (xW, .inl (cA, 1000, .inl hW_))] := hD.sub [0, 1, 2, 3, 4, 5, 6] (by decide) rfl
          rw [List.length_map] at hgl
          exact ret (((M.flatMap en8).map nI), gO_, nI (((M.flatMap en8).map nI).length), hW_) dMo_toEights_185 rfl ⟨by unfold spW; rw [if_pos hgl, List.length_map], by unfold spW; rw [if_pos hgl], hfO_, by rw [List.length_map]; exact hgl⟩ hP hD hS
        · skip
          subst O_
          replace hP : va_P D vwCl [(mo, .inr (5, [.int (nI I.length), .ref xI, .int (nI ((M.map nI).length)), .ref xL, .int (nI O.length), .ref xO, .int (nI K.length), .ref xK, .int md, .ref xR, .int (nI (((M.flatMap en8).map nI).length)), .ref xW, .int at_, .long nu, .long vl, .long pc_, .int bs, .int tk, .int gd])), (xI, .inl (cA, 120, .inl gI)), (xL, .inl (cA, 120, .inl gL)), (xO, .inl (cA, 400, .inl gO_)), (xK, .inl (cA, 120, .inl gK)), (xR, .inl (cA, 121, .inl gR)), (xW, .inl (cA, 1000, .inl hW_))] H := hP.sub [0, 1, 2, 3, 4, 5, 6] rfl
          replace hD : va_D A [(mo, .inr (5, [.int (nI I.length), .ref xI, .int (nI ((M.map nI).length)), .ref xL, .int (nI O.length), .ref xO, .int (nI K.length), .ref xK, .int md, .ref xR, .int (nI (((M.flatMap en8).map nI).length)), .ref xW, .int at_, .long nu, .long vl, .long pc_, .int bs, .int tk, .int gd])), (xI, .inl (cA, 120, .inl gI)), (xL, .inl (cA, 120, .inl gL)), (xO, .inl (cA, 400, .inl gO_)), (xK, .inl (cA, 120, .inl gK)), (xR, .inl (cA, 121, .inl gR)), (xW, .inl (cA, 1000, .inl hW_))] := hD.sub [0, 1, 2, 3, 4, 5, 6] (by decide) rfl
          rw [List.length_map] at hgl
          exact ret (O, gO_, nI (((M.flatMap en8).map nI).length), hW_) dMo_toEights_185 rfl ⟨by unfold spW; rw [if_neg (by omega)], by unfold spW; rw [if_neg (by omega)], hfO_, hcO⟩ hP hD hS
      · skip
        replace h12 := nt_nle (a := (M.map nI).length) (b := i) (by omega) (by omega) h12
        rw [List.length_map] at h12
        simp only [List.length_map] at hwl
        refine lv_aload_n hx hb dMo_toEights_15 rfl (lv_at hl 1 rfl) ?_
        refine va_get (D := D) (ci := 5) (v := .ref xL) (C := R_Mo) (T := T_Mo) (N := 19) hx hb hw in_Mo hown hK hP 0 rfl rfl 3 (by decide) (hw _ w_367) (fun _ h9 => h9) rfl dMo_toEights_16 ?_
        refine lv_iload_n hx hb dMo_toEights_19 rfl (lv_at hl 0 rfl) ?_
        refine va_iald hx hb hK hP 2 0 rfl rfl (vp_in_nI (by omega) (by omega)) dMo_toEights_20 ?_
        refine lv_rei (y := gL i) (by rw [nI_clamp (by omega)]) ?_
        refine lv_rei (y := nI (M.getD i 0)) ((Hd_un hfL (by rw [List.length_map]; omega)).trans (un_map (by omega))) ?_
        have hvb : M.getD i 0 ≤ 1114111 := getD_b hMb (by omega)
        refine lv_istore_n (lv' := [(2, .int (nI (M.getD i 0))), (1, .int (nI i)), (0, .ref mo)]) hx hb dMo_toEights_21 rfl hl (by decide) rfl (fun ls hl => ?_)
        refine lv_iload_n hx hb dMo_toEights_22 rfl (lv_at hl 0 rfl) ?_
        refine lv_sipush (v := nI 128) hx hb dMo_toEights_23 (by decide) ?_
        refine lv_icmp_ge (tgt := 37) hx hb dMo_toEights_26 (by decide) (fun h26 => ?_) (fun h26 => ?_)
        · skip
          replace h26 := nt_le (a := 128) (b := M.getD i 0) (by omega) (by omega) h26
          refine lv_iload_n hx hb dMo_toEights_37 rfl (lv_at hl 0 rfl) ?_
          refine lv_sipush (v := nI 2048) hx hb dMo_toEights_38 (by decide) ?_
          refine lv_icmp_ge (tgt := 71) hx hb dMo_toEights_41 (by decide) (fun h41 => ?_) (fun h41 => ?_)
          · skip
            replace h41 := nt_le (a := 2048) (b := M.getD i 0) (by omega) (by omega) h41
            refine lv_iload_n hx hb dMo_toEights_71 rfl (lv_at hl 0 rfl) ?_
            refine lv_ldc (v := nI 65536) hx hb hown (hw _ w_471) dMo_toEights_72 ?_
            refine lv_icmp_ge (tgt := 120) hx hb dMo_toEights_74 (by decide) (fun h74 => ?_) (fun h74 => ?_)
            · skip
              replace h74 := nt_le (a := 65536) (b := M.getD i 0) (by omega) (by omega) h74
              refine lv_aload_n hx hb dMo_toEights_120 rfl (lv_at hl 2 rfl) ?_
              refine lv_sipush (v := nI 240) hx hb dMo_toEights_121 (by decide) ?_
              refine lv_iload_n hx hb dMo_toEights_124 rfl (lv_at hl 0 rfl) ?_
              refine lv_ldc (v := nI 262144) hx hb hown (hw _ w_528) dMo_toEights_125 ?_
              refine lv_idiv hx hb dMo_toEights_127 (by decide) ?_
              refine lv_rei (y := nI ((M.getD i 0) / 262144)) (pk_div (by omega) (by omega) (by omega)) ?_
              refine lv_iadd hx hb dMo_toEights_128 ?_
              refine lv_rei (y := nI (240 + ((M.getD i 0) / 262144))) (nI_add _ _) ?_
              refine ca_v (wr := []) (va_runV (As := [.int (nI (240 + ((M.getD i 0) / 262144)))]) (rest := []) Xf (k_Mo_put l D cA _ mo xI xL xO xK xR xW I (M.map nI) O K gI gL gO gK gR hW_ md at_ nu vl pc_ bs tk gd (((M.take i).flatMap en8).map nI) (nI (240 + ((M.getD i 0) / 262144))) hfI hcI hfL hcL hfO hcO hfK hcK hW (by simp only [List.length_append, List.length_singleton, List.length_nil, List.length_map, List.length_cons]; omega)) ⟨cb_of 1 hw w_527 w_7 w_524 (by decide +kernel) (by rw [hR]; exact ⟨Nat.le_of_ble_eq_true rfl, Nat.le_of_ble_eq_true rfl⟩), hw _ w_526, hw _ ws_22⟩ (pre_V (As := [.int (nI (240 + ((M.getD i 0) / 262144)))]) hP hD hK hn [0, 1, 2, 3, 4, 5, 6] rfl (by decide) 0 5 rfl rfl) rfl rfl hl.1 rfl (lv_room (Nat.le_of_ble_eq_true rfl)) dMo_toEights_129 ⟨Nat.zero_le _, Nat.zero_le _⟩) hP hD hS hA [0, 1, 2, 3, 4, 5, 6] [] rfl rfl (by decide) (by decide) (fun u_ H locs hq_ hP hD hS => ?_)
              obtain ⟨gW1, hgW1⟩ : ∃ z, z = u_ := ⟨_, rfl⟩
              rw [← hgW1] at hP hD hq_
              have hW1 := hq_
              replace hP : va_P D vwCl [(mo, .inr (5, [.int (nI I.length), .ref xI, .int (nI ((M.map nI).length)), .ref xL, .int (nI O.length), .ref xO, .int (nI K.length), .ref xK, .int md, .ref xR, .int (nI (((((M.take i).flatMap en8).map nI) ++ [nI (240 + ((M.getD i 0) / 262144))]).length)), .ref xW, .int at_, .long nu, .long vl, .long pc_, .int bs, .int tk, .int gd])), (xI, .inl (cA, 120, .inl gI)), (xL, .inl (cA, 120, .inl gL)), (xO, .inl (cA, 400, .inl gO)), (xK, .inl (cA, 120, .inl gK)), (xR, .inl (cA, 121, .inl gR)), (xW, .inl (cA, 1000, .inl gW1))] H := hP.sub [0, 1, 2, 3, 4, 5, 6] rfl
              replace hD : va_D A [(mo, .inr (5, [.int (nI I.length), .ref xI, .int (nI ((M.map nI).length)), .ref xL, .int (nI O.length), .ref xO, .int (nI K.length), .ref xK, .int md, .ref xR, .int (nI (((((M.take i).flatMap en8).map nI) ++ [nI (240 + ((M.getD i 0) / 262144))]).length)), .ref xW, .int at_, .long nu, .long vl, .long pc_, .int bs, .int tk, .int gd])), (xI, .inl (cA, 120, .inl gI)), (xL, .inl (cA, 120, .inl gL)), (xO, .inl (cA, 400, .inl gO)), (xK, .inl (cA, 120, .inl gK)), (xR, .inl (cA, 121, .inl gR)), (xW, .inl (cA, 1000, .inl gW1))] := hD.sub [0, 1, 2, 3, 4, 5, 6] (by decide) rfl
              refine lv_aload_n hx hb dMo_toEights_132 rfl (lv_at hl 2 rfl) ?_
              refine lv_sipush (v := nI 128) hx hb dMo_toEights_133 (by decide) ?_
              refine lv_iload_n hx hb dMo_toEights_136 rfl (lv_at hl 0 rfl) ?_
              refine lv_sipush (v := nI 4096) hx hb dMo_toEights_137 (by decide) ?_
              refine lv_idiv hx hb dMo_toEights_140 (by decide) ?_
              refine lv_rei (y := nI ((M.getD i 0) / 4096)) (pk_div (by omega) (by omega) (by omega)) ?_
              refine lv_bipush (v := nI 64) hx hb dMo_toEights_141 (by decide) ?_
              refine lv_irem hx hb dMo_toEights_143 (by decide) ?_
              refine lv_rei (y := nI (((M.getD i 0) / 4096) % 64)) (pk_rem (by omega) (by omega) (by omega)) ?_
              refine lv_iadd hx hb dMo_toEights_144 ?_
              refine lv_rei (y := nI (128 + (((M.getD i 0) / 4096) % 64))) (nI_add _ _) ?_
              refine ca_v (wr := []) (va_runV (As := [.int (nI (128 + (((M.getD i 0) / 4096) % 64)))]) (rest := []) Xf (k_Mo_put l D cA _ mo xI xL xO xK xR xW I (M.map nI) O K gI gL gO gK gR gW1 md at_ nu vl pc_ bs tk gd ((((M.take i).flatMap en8).map nI) ++ [nI (240 + ((M.getD i 0) / 262144))]) (nI (128 + (((M.getD i 0) / 4096) % 64))) hfI hcI hfL hcL hfO hcO hfK hcK hW1 (by simp only [List.length_append, List.length_singleton, List.length_nil, List.length_map, List.length_cons]; omega)) ⟨cb_of 1 hw w_527 w_7 w_524 (by decide +kernel) (by rw [hR]; exact ⟨Nat.le_of_ble_eq_true rfl, Nat.le_of_ble_eq_true rfl⟩), hw _ w_526, hw _ ws_22⟩ (pre_V (As := [.int (nI (128 + (((M.getD i 0) / 4096) % 64)))]) hP hD hK hn [0, 1, 2, 3, 4, 5, 6] rfl (by decide) 0 5 rfl rfl) rfl rfl hl.1 rfl (lv_room (Nat.le_of_ble_eq_true rfl)) dMo_toEights_145 ⟨Nat.zero_le _, Nat.zero_le _⟩) hP hD hS hA [0, 1, 2, 3, 4, 5, 6] [] rfl rfl (by decide) (by decide) (fun u_ H locs hq_ hP hD hS => ?_)
              obtain ⟨gW2, hgW2⟩ : ∃ z, z = u_ := ⟨_, rfl⟩
              rw [← hgW2] at hP hD hq_
              have hW2 := hq_
              replace hP : va_P D vwCl [(mo, .inr (5, [.int (nI I.length), .ref xI, .int (nI ((M.map nI).length)), .ref xL, .int (nI O.length), .ref xO, .int (nI K.length), .ref xK, .int md, .ref xR, .int (nI ((((((M.take i).flatMap en8).map nI) ++ [nI (240 + ((M.getD i 0) / 262144))]) ++ [nI (128 + (((M.getD i 0) / 4096) % 64))]).length)), .ref xW, .int at_, .long nu, .long vl, .long pc_, .int bs, .int tk, .int gd])), (xI, .inl (cA, 120, .inl gI)), (xL, .inl (cA, 120, .inl gL)), (xO, .inl (cA, 400, .inl gO)), (xK, .inl (cA, 120, .inl gK)), (xR, .inl (cA, 121, .inl gR)), (xW, .inl (cA, 1000, .inl gW2))] H := hP.sub [0, 1, 2, 3, 4, 5, 6] rfl
              replace hD : va_D A [(mo, .inr (5, [.int (nI I.length), .ref xI, .int (nI ((M.map nI).length)), .ref xL, .int (nI O.length), .ref xO, .int (nI K.length), .ref xK, .int md, .ref xR, .int (nI ((((((M.take i).flatMap en8).map nI) ++ [nI (240 + ((M.getD i 0) / 262144))]) ++ [nI (128 + (((M.getD i 0) / 4096) % 64))]).length)), .ref xW, .int at_, .long nu, .long vl, .long pc_, .int bs, .int tk, .int gd])), (xI, .inl (cA, 120, .inl gI)), (xL, .inl (cA, 120, .inl gL)), (xO, .inl (cA, 400, .inl gO)), (xK, .inl (cA, 120, .inl gK)), (xR, .inl (cA, 121, .inl gR)), (xW, .inl (cA, 1000, .inl gW2))] := hD.sub [0, 1, 2, 3, 4, 5, 6] (by decide) rfl
              refine lv_aload_n hx hb dMo_toEights_148 rfl (lv_at hl 2 rfl) ?_
              refine lv_sipush (v := nI 128) hx hb dMo_toEights_149 (by decide) ?_
              refine lv_iload_n hx hb dMo_toEights_152 rfl (lv_at hl 0 rfl) ?_
              refine lv_bipush (v := nI 64) hx hb dMo_toEights_153 (by decide) ?_
              refine lv_idiv hx hb dMo_toEights_155 (by decide) ?_
              refine lv_rei (y := nI ((M.getD i 0) / 64)) (pk_div (by omega) (by omega) (by omega)) ?_
              refine lv_bipush (v := nI 64) hx hb dMo_toEights_156 (by decide) ?_
              refine lv_irem hx hb dMo_toEights_158 (by decide) ?_
              refine lv_rei (y := nI (((M.getD i 0) / 64) % 64)) (pk_rem (by omega) (by omega) (by omega)) ?_
              refine lv_iadd hx hb dMo_toEights_159 ?_
              refine lv_rei (y := nI (128 + (((M.getD i 0) / 64) % 64))) (nI_add _ _) ?_
              refine ca_v (wr := []) (va_runV (As := [.int (nI (128 + (((M.getD i 0) / 64) % 64)))]) (rest := []) Xf (k_Mo_put l D cA _ mo xI xL xO xK xR xW I (M.map nI) O K gI gL gO gK gR gW2 md at_ nu vl pc_ bs tk gd (((((M.take i).flatMap en8).map nI) ++ [nI (240 + ((M.getD i 0) / 262144))]) ++ [nI (128 + (((M.getD i 0) / 4096) % 64))]) (nI (128 + (((M.getD i 0) / 64) % 64))) hfI hcI hfL hcL hfO hcO hfK hcK hW2 (by simp only [List.length_append, List.length_singleton, List.length_nil, List.length_map, List.length_cons]; omega)) ⟨cb_of 1 hw w_527 w_7 w_524 (by decide +kernel) (by rw [hR]; exact ⟨Nat.le_of_ble_eq_true rfl, Nat.le_of_ble_eq_true rfl⟩), hw _ w_526, hw _ ws_22⟩ (pre_V (As := [.int (nI (128 + (((M.getD i 0) / 64) % 64)))]) hP hD hK hn [0, 1, 2, 3, 4, 5, 6] rfl (by decide) 0 5 rfl rfl) rfl rfl hl.1 rfl (lv_room (Nat.le_of_ble_eq_true rfl)) dMo_toEights_160 ⟨Nat.zero_le _, Nat.zero_le _⟩) hP hD hS hA [0, 1, 2, 3, 4, 5, 6] [] rfl rfl (by decide) (by decide) (fun u_ H locs hq_ hP hD hS => ?_)
              obtain ⟨gW3, hgW3⟩ : ∃ z, z = u_ := ⟨_, rfl⟩
              rw [← hgW3] at hP hD hq_
              have hW3 := hq_
              replace hP : va_P D vwCl [(mo, .inr (5, [.int (nI I.length), .ref xI, .int (nI ((M.map nI).length)), .ref xL, .int (nI O.length), .ref xO, .int (nI K.length), .ref xK, .int md, .ref xR, .int (nI (((((((M.take i).flatMap en8).map nI) ++ [nI (240 + ((M.getD i 0) / 262144))]) ++ [nI (128 + (((M.getD i 0) / 4096) % 64))]) ++ [nI (128 + (((M.getD i 0) / 64) % 64))]).length)), .ref xW, .int at_, .long nu, .long vl, .long pc_, .int bs, .int tk, .int gd])), (xI, .inl (cA, 120, .inl gI)), (xL, .inl (cA, 120, .inl gL)), (xO, .inl (cA, 400, .inl gO)), (xK, .inl (cA, 120, .inl gK)), (xR, .inl (cA, 121, .inl gR)), (xW, .inl (cA, 1000, .inl gW3))] H := hP.sub [0, 1, 2, 3, 4, 5, 6] rfl
              replace hD : va_D A [(mo, .inr (5, [.int (nI I.length), .ref xI, .int (nI ((M.map nI).length)), .ref xL, .int (nI O.length), .ref xO, .int (nI K.length), .ref xK, .int md, .ref xR, .int (nI (((((((M.take i).flatMap en8).map nI) ++ [nI (240 + ((M.getD i 0) / 262144))]) ++ [nI (128 + (((M.getD i 0) / 4096) % 64))]) ++ [nI (128 + (((M.getD i 0) / 64) % 64))]).length)), .ref xW, .int at_, .long nu, .long vl, .long pc_, .int bs, .int tk, .int gd])), (xI, .inl (cA, 120, .inl gI)), (xL, .inl (cA, 120, .inl gL)), (xO, .inl (cA, 400, .inl gO)), (xK, .inl (cA, 120, .inl gK)), (xR, .inl (cA, 121, .inl gR)), (xW, .inl (cA, 1000, .inl gW3))] := hD.sub [0, 1, 2, 3, 4, 5, 6] (by decide) rfl
              refine lv_aload_n hx hb dMo_toEights_163 rfl (lv_at hl 2 rfl) ?_
              refine lv_sipush (v := nI 128) hx hb dMo_toEights_164 (by decide) ?_
              refine lv_iload_n hx hb dMo_toEights_167 rfl (lv_at hl 0 rfl) ?_
              refine lv_bipush (v := nI 64) hx hb dMo_toEights_168 (by decide) ?_
              refine lv_irem hx hb dMo_toEights_170 (by decide) ?_
              refine lv_rei (y := nI ((M.getD i 0) % 64)) (pk_rem (by omega) (by omega) (by omega)) ?_
              refine lv_iadd hx hb dMo_toEights_171 ?_
              refine lv_rei (y := nI (128 + ((M.getD i 0) % 64))) (nI_add _ _) ?_
              refine ca_v (wr := []) (va_runV (As := [.int (nI (128 + ((M.getD i 0) % 64)))]) (rest := []) Xf (k_Mo_put l D cA _ mo xI xL xO xK xR xW I (M.map nI) O K gI gL gO gK gR gW3 md at_ nu vl pc_ bs tk gd ((((((M.take i).flatMap en8).map nI) ++ [nI (240 + ((M.getD i 0) / 262144))]) ++ [nI (128 + (((M.getD i 0) / 4096) % 64))]) ++ [nI (128 + (((M.getD i 0) / 64) % 64))]) (nI (128 + ((M.getD i 0) % 64))) hfI hcI hfL hcL hfO hcO hfK hcK hW3 (by simp only [List.length_append, List.length_singleton, List.length_nil, List.length_map, List.length_cons]; omega)) ⟨cb_of 1 hw w_527 w_7 w_524 (by decide +kernel) (by rw [hR]; exact ⟨Nat.le_of_ble_eq_true rfl, Nat.le_of_ble_eq_true rfl⟩), hw _ w_526, hw _ ws_22⟩ (pre_V (As := [.int (nI (128 + ((M.getD i 0) % 64)))]) hP hD hK hn [0, 1, 2, 3, 4, 5, 6] rfl (by decide) 0 5 rfl rfl) rfl rfl hl.1 rfl (lv_room (Nat.le_of_ble_eq_true rfl)) dMo_toEights_172 ⟨Nat.zero_le _, Nat.zero_le _⟩) hP hD hS hA [0, 1, 2, 3, 4, 5, 6] [] rfl rfl (by decide) (by decide) (fun u_ H locs hq_ hP hD hS => ?_)
              obtain ⟨gW4, hgW4⟩ : ∃ z, z = u_ := ⟨_, rfl⟩
              rw [← hgW4] at hP hD hq_
              have hW4 := hq_
              replace hP : va_P D vwCl [(mo, .inr (5, [.int (nI I.length), .ref xI, .int (nI ((M.map nI).length)), .ref xL, .int (nI O.length), .ref xO, .int (nI K.length), .ref xK, .int md, .ref xR, .int (nI ((((((((M.take i).flatMap en8).map nI) ++ [nI (240 + ((M.getD i 0) / 262144))]) ++ [nI (128 + (((M.getD i 0) / 4096) % 64))]) ++ [nI (128 + (((M.getD i 0) / 64) % 64))]) ++ [nI (128 + ((M.getD i 0) % 64))]).length)), .ref xW, .int at_, .long nu, .long vl, .long pc_, .int bs, .int tk, .int gd])), (xI, .inl (cA, 120, .inl gI)), (xL, .inl (cA, 120, .inl gL)), (xO, .inl (cA, 400, .inl gO)), (xK, .inl (cA, 120, .inl gK)), (xR, .inl (cA, 121, .inl gR)), (xW, .inl (cA, 1000, .inl gW4))] H := hP.sub [0, 1, 2, 3, 4, 5, 6] rfl
              replace hD : va_D A [(mo, .inr (5, [.int (nI I.length), .ref xI, .int (nI ((M.map nI).length)), .ref xL, .int (nI O.length), .ref xO, .int (nI K.length), .ref xK, .int md, .ref xR, .int (nI ((((((((M.take i).flatMap en8).map nI) ++ [nI (240 + ((M.getD i 0) / 262144))]) ++ [nI (128 + (((M.getD i 0) / 4096) % 64))]) ++ [nI (128 + (((M.getD i 0) / 64) % 64))]) ++ [nI (128 + ((M.getD i 0) % 64))]).length)), .ref xW, .int at_, .long nu, .long vl, .long pc_, .int bs, .int tk, .int gd])), (xI, .inl (cA, 120, .inl gI)), (xL, .inl (cA, 120, .inl gL)), (xO, .inl (cA, 400, .inl gO)), (xK, .inl (cA, 120, .inl gK)), (xR, .inl (cA, 121, .inl gR)), (xW, .inl (cA, 1000, .inl gW4))] := hD.sub [0, 1, 2, 3, 4, 5, 6] (by decide) rfl
              refine lv_iinc (k := 1) (v := nI (i + 1)) (lv' := [(1, .int (nI (i + 1))), (2, .int (nI (M.getD i 0))), (0, .ref mo)]) hx hb dMo_toEights_175 hl rfl (nI_1 _) (by decide) rfl (fun ls hl => ?_)
              refine lv_goto (tgt := 7) hx hb dMo_toEights_178 (by decide) ?_
              have em : (((((((M.take i).flatMap en8).map nI) ++ [nI (240 + ((M.getD i 0) / 262144))]) ++ [nI (128 + (((M.getD i 0) / 4096) % 64))]) ++ [nI (128 + (((M.getD i 0) / 64) % 64))]) ++ [nI (128 + ((M.getD i 0) % 64))]) = ((M.take (i + 1)).flatMap en8).map nI := by rw [fm_take h12, en8_4 h74]; simp
              rw [em] at hP hD hW4
              exact ih_loop1 (i + 1) gW4 _ _ _ (by omega) hW4 (by rw [← em]; simp only [List.length_append, List.length_singleton, List.length_nil, List.length_map, List.length_cons] at hwl ⊢; omega) (by omega) (lv_sub hl [0, 2] rfl) hP hD hS
            · skip
              replace h74 := nt_nle (a := 65536) (b := M.getD i 0) (by omega) (by omega) h74
              refine lv_aload_n hx hb dMo_toEights_77 rfl (lv_at hl 2 rfl) ?_
              refine lv_sipush (v := nI 224) hx hb dMo_toEights_78 (by decide) ?_
              refine lv_iload_n hx hb dMo_toEights_81 rfl (lv_at hl 0 rfl) ?_
              refine lv_sipush (v := nI 4096) hx hb dMo_toEights_82 (by decide) ?_
              refine lv_idiv hx hb dMo_toEights_85 (by decide) ?_
              refine lv_rei (y := nI ((M.getD i 0) / 4096)) (pk_div (by omega) (by omega) (by omega)) ?_
              refine lv_iadd hx hb dMo_toEights_86 ?_
              refine lv_rei (y := nI (224 + ((M.getD i 0) / 4096))) (nI_add _ _) ?_
              refine ca_v (wr := []) (va_runV (As := [.int (nI (224 + ((M.getD i 0) / 4096)))]) (rest := []) Xf (k_Mo_put l D cA _ mo xI xL xO xK xR xW I (M.map nI) O K gI gL gO gK gR hW_ md at_ nu vl pc_ bs tk gd (((M.take i).flatMap en8).map nI) (nI (224 + ((M.getD i 0) / 4096))) hfI hcI hfL hcL hfO hcO hfK hcK hW (by simp only [List.length_append, List.length_singleton, List.length_nil, List.length_map, List.length_cons]; omega)) ⟨cb_of 1 hw w_527 w_7 w_524 (by decide +kernel) (by rw [hR]; exact ⟨Nat.le_of_ble_eq_true rfl, Nat.le_of_ble_eq_true rfl⟩), hw _ w_526, hw _ ws_22⟩ (pre_V (As := [.int (nI (224 + ((M.getD i 0) / 4096)))]) hP hD hK hn [0, 1, 2, 3, 4, 5, 6] rfl (by decide) 0 5 rfl rfl) rfl rfl hl.1 rfl (lv_room (Nat.le_of_ble_eq_true rfl)) dMo_toEights_87 ⟨Nat.zero_le _, Nat.zero_le _⟩) hP hD hS hA [0, 1, 2, 3, 4, 5, 6] [] rfl rfl (by decide) (by decide) (fun u_ H locs hq_ hP hD hS => ?_)
              obtain ⟨gW5, hgW5⟩ : ∃ z, z = u_ := ⟨_, rfl⟩
              rw [← hgW5] at hP hD hq_
              have hW5 := hq_
              replace hP : va_P D vwCl [(mo, .inr (5, [.int (nI I.length), .ref xI, .int (nI ((M.map nI).length)), .ref xL, .int (nI O.length), .ref xO, .int (nI K.length), .ref xK, .int md, .ref xR, .int (nI (((((M.take i).flatMap en8).map nI) ++ [nI (224 + ((M.getD i 0) / 4096))]).length)), .ref xW, .int at_, .long nu, .long vl, .long pc_, .int bs, .int tk, .int gd])), (xI, .inl (cA, 120, .inl gI)), (xL, .inl (cA, 120, .inl gL)), (xO, .inl (cA, 400, .inl gO)), (xK, .inl (cA, 120, .inl gK)), (xR, .inl (cA, 121, .inl gR)), (xW, .inl (cA, 1000, .inl gW5))] H := hP.sub [0, 1, 2, 3, 4, 5, 6] rfl
              replace hD : va_D A [(mo, .inr (5, [.int (nI I.length), .ref xI, .int (nI ((M.map nI).length)), .ref xL, .int (nI O.length), .ref xO, .int (nI K.length), .ref xK, .int md, .ref xR, .int (nI (((((M.take i).flatMap en8).map nI) ++ [nI (224 + ((M.getD i 0) / 4096))]).length)), .ref xW, .int at_, .long nu, .long vl, .long pc_, .int bs, .int tk, .int gd])), (xI, .inl (cA, 120, .inl gI)), (xL, .inl (cA, 120, .inl gL)), (xO, .inl (cA, 400, .inl gO)), (xK, .inl (cA, 120, .inl gK)), (xR, .inl (cA, 121, .inl gR)), (xW, .inl (cA, 1000, .inl gW5))] := hD.sub [0, 1, 2, 3, 4, 5, 6] (by decide) rfl
              refine lv_aload_n hx hb dMo_toEights_90 rfl (lv_at hl 2 rfl) ?_
              refine lv_sipush (v := nI 128) hx hb dMo_toEights_91 (by decide) ?_
              refine lv_iload_n hx hb dMo_toEights_94 rfl (lv_at hl 0 rfl) ?_
              refine lv_bipush (v := nI 64) hx hb dMo_toEights_95 (by decide) ?_
              refine lv_idiv hx hb dMo_toEights_97 (by decide) ?_
              refine lv_rei (y := nI ((M.getD i 0) / 64)) (pk_div (by omega) (by omega) (by omega)) ?_
              refine lv_bipush (v := nI 64) hx hb dMo_toEights_98 (by decide) ?_
              refine lv_irem hx hb dMo_toEights_100 (by decide) ?_
              refine lv_rei (y := nI (((M.getD i 0) / 64) % 64)) (pk_rem (by omega) (by omega) (by omega)) ?_
              refine lv_iadd hx hb dMo_toEights_101 ?_
              refine lv_rei (y := nI (128 + (((M.getD i 0) / 64) % 64))) (nI_add _ _) ?_
              refine ca_v (wr := []) (va_runV (As := [.int (nI (128 + (((M.getD i 0) / 64) % 64)))]) (rest := []) Xf (k_Mo_put l D cA _ mo xI xL xO xK xR xW I (M.map nI) O K gI gL gO gK gR gW5 md at_ nu vl pc_ bs tk gd ((((M.take i).flatMap en8).map nI) ++ [nI (224 + ((M.getD i 0) / 4096))]) (nI (128 + (((M.getD i 0) / 64) % 64))) hfI hcI hfL hcL hfO hcO hfK hcK hW5 (by simp only [List.length_append, List.length_singleton, List.length_nil, List.length_map, List.length_cons]; omega)) ⟨cb_of 1 hw w_527 w_7 w_524 (by decide +kernel) (by rw [hR]; exact ⟨Nat.le_of_ble_eq_true rfl, Nat.le_of_ble_eq_true rfl⟩), hw _ w_526, hw _ ws_22⟩ (pre_V (As := [.int (nI (128 + (((M.getD i 0) / 64) % 64)))]) hP hD hK hn [0, 1, 2, 3, 4, 5, 6] rfl (by decide) 0 5 rfl rfl) rfl rfl hl.1 rfl (lv_room (Nat.le_of_ble_eq_true rfl)) dMo_toEights_102 ⟨Nat.zero_le _, Nat.zero_le _⟩) hP hD hS hA [0, 1, 2, 3, 4, 5, 6] [] rfl rfl (by decide) (by decide) (fun u_ H locs hq_ hP hD hS => ?_)
              obtain ⟨gW6, hgW6⟩ : ∃ z, z = u_ := ⟨_, rfl⟩
              rw [← hgW6] at hP hD hq_
              have hW6 := hq_
              replace hP : va_P D vwCl [(mo, .inr (5, [.int (nI I.length), .ref xI, .int (nI ((M.map nI).length)), .ref xL, .int (nI O.length), .ref xO, .int (nI K.length), .ref xK, .int md, .ref xR, .int (nI ((((((M.take i).flatMap en8).map nI) ++ [nI (224 + ((M.getD i 0) / 4096))]) ++ [nI (128 + (((M.getD i 0) / 64) % 64))]).length)), .ref xW, .int at_, .long nu, .long vl, .long pc_, .int bs, .int tk, .int gd])), (xI, .inl (cA, 120, .inl gI)), (xL, .inl (cA, 120, .inl gL)), (xO, .inl (cA, 400, .inl gO)), (xK, .inl (cA, 120, .inl gK)), (xR, .inl (cA, 121, .inl gR)), (xW, .inl (cA, 1000, .inl gW6))] H := hP.sub [0, 1, 2, 3, 4, 5, 6] rfl
              replace hD : va_D A [(mo, .inr (5, [.int (nI I.length), .ref xI, .int (nI ((M.map nI).length)), .ref xL, .int (nI O.length), .ref xO, .int (nI K.length), .ref xK, .int md, .ref xR, .int (nI ((((((M.take i).flatMap en8).map nI) ++ [nI (224 + ((M.getD i 0) / 4096))]) ++ [nI (128 + (((M.getD i 0) / 64) % 64))]).length)), .ref xW, .int at_, .long nu, .long vl, .long pc_, .int bs, .int tk, .int gd])), (xI, .inl (cA, 120, .inl gI)), (xL, .inl (cA, 120, .inl gL)), (xO, .inl (cA, 400, .inl gO)), (xK, .inl (cA, 120, .inl gK)), (xR, .inl (cA, 121, .inl gR)), (xW, .inl (cA, 1000, .inl gW6))] := hD.sub [0, 1, 2, 3, 4, 5, 6] (by decide) rfl
              refine lv_aload_n hx hb dMo_toEights_105 rfl (lv_at hl 2 rfl) ?_
              refine lv_sipush (v := nI 128) hx hb dMo_toEights_106 (by decide) ?_
              refine lv_iload_n hx hb dMo_toEights_109 rfl (lv_at hl 0 rfl) ?_
              refine lv_bipush (v := nI 64) hx hb dMo_toEights_110 (by decide) ?_
              refine lv_irem hx hb dMo_toEights_112 (by decide) ?_
              refine lv_rei (y := nI ((M.getD i 0) % 64)) (pk_rem (by omega) (by omega) (by omega)) ?_
              refine lv_iadd hx hb dMo_toEights_113 ?_
              refine lv_rei (y := nI (128 + ((M.getD i 0) % 64))) (nI_add _ _) ?_
              refine ca_v (wr := []) (va_runV (As := [.int (nI (128 + ((M.getD i 0) % 64)))]) (rest := []) Xf (k_Mo_put l D cA _ mo xI xL xO xK xR xW I (M.map nI) O K gI gL gO gK gR gW6 md at_ nu vl pc_ bs tk gd (((((M.take i).flatMap en8).map nI) ++ [nI (224 + ((M.getD i 0) / 4096))]) ++ [nI (128 + (((M.getD i 0) / 64) % 64))]) (nI (128 + ((M.getD i 0) % 64))) hfI hcI hfL hcL hfO hcO hfK hcK hW6 (by simp only [List.length_append, List.length_singleton, List.length_nil, List.length_map, List.length_cons]; omega)) ⟨cb_of 1 hw w_527 w_7 w_524 (by decide +kernel) (by rw [hR]; exact ⟨Nat.le_of_ble_eq_true rfl, Nat.le_of_ble_eq_true rfl⟩), hw _ w_526, hw _ ws_22⟩ (pre_V (As := [.int (nI (128 + ((M.getD i 0) % 64)))]) hP hD hK hn [0, 1, 2, 3, 4, 5, 6] rfl (by decide) 0 5 rfl rfl) rfl rfl hl.1 rfl (lv_room (Nat.le_of_ble_eq_true rfl)) dMo_toEights_114 ⟨Nat.zero_le _, Nat.zero_le _⟩) hP hD hS hA [0, 1, 2, 3, 4, 5, 6] [] rfl rfl (by decide) (by decide) (fun u_ H locs hq_ hP hD hS => ?_)
              obtain ⟨gW7, hgW7⟩ : ∃ z, z = u_ := ⟨_, rfl⟩
              rw [← hgW7] at hP hD hq_
              have hW7 := hq_
              replace hP : va_P D vwCl [(mo, .inr (5, [.int (nI I.length), .ref xI, .int (nI ((M.map nI).length)), .ref xL, .int (nI O.length), .ref xO, .int (nI K.length), .ref xK, .int md, .ref xR, .int (nI (((((((M.take i).flatMap en8).map nI) ++ [nI (224 + ((M.getD i 0) / 4096))]) ++ [nI (128 + (((M.getD i 0) / 64) % 64))]) ++ [nI (128 + ((M.getD i 0) % 64))]).length)), .ref xW, .int at_, .long nu, .long vl, .long pc_, .int bs, .int tk, .int gd])), (xI, .inl (cA, 120, .inl gI)), (xL, .inl (cA, 120, .inl gL)), (xO, .inl (cA, 400, .inl gO)), (xK, .inl (cA, 120, .inl gK)), (xR, .inl (cA, 121, .inl gR)), (xW, .inl (cA, 1000, .inl gW7))] H := hP.sub [0, 1, 2, 3, 4, 5, 6] rfl
              replace hD : va_D A [(mo, .inr (5, [.int (nI I.length), .ref xI, .int (nI ((M.map nI).length)), .ref xL, .int (nI O.length), .ref xO, .int (nI K.length), .ref xK, .int md, .ref xR, .int (nI (((((((M.take i).flatMap en8).map nI) ++ [nI (224 + ((M.getD i 0) / 4096))]) ++ [nI (128 + (((M.getD i 0) / 64) % 64))]) ++ [nI (128 + ((M.getD i 0) % 64))]).length)), .ref xW, .int at_, .long nu, .long vl, .long pc_, .int bs, .int tk, .int gd])), (xI, .inl (cA, 120, .inl gI)), (xL, .inl (cA, 120, .inl gL)), (xO, .inl (cA, 400, .inl gO)), (xK, .inl (cA, 120, .inl gK)), (xR, .inl (cA, 121, .inl gR)), (xW, .inl (cA, 1000, .inl gW7))] := hD.sub [0, 1, 2, 3, 4, 5, 6] (by decide) rfl
              refine lv_goto (tgt := 175) hx hb dMo_toEights_117 (by decide) ?_
              refine lv_iinc (k := 1) (v := nI (i + 1)) (lv' := [(1, .int (nI (i + 1))), (2, .int (nI (M.getD i 0))), (0, .ref mo)]) hx hb dMo_toEights_175 hl rfl (nI_1 _) (by decide) rfl (fun ls hl => ?_)
              refine lv_goto (tgt := 7) hx hb dMo_toEights_178 (by decide) ?_
              have em : ((((((M.take i).flatMap en8).map nI) ++ [nI (224 + ((M.getD i 0) / 4096))]) ++ [nI (128 + (((M.getD i 0) / 64) % 64))]) ++ [nI (128 + ((M.getD i 0) % 64))]) = ((M.take (i + 1)).flatMap en8).map nI := by rw [fm_take h12, en8_3 h41 h74]; simp
              rw [em] at hP hD hW7
              exact ih_loop1 (i + 1) gW7 _ _ _ (by omega) hW7 (by rw [← em]; simp only [List.length_append, List.length_singleton, List.length_nil, List.length_map, List.length_cons] at hwl ⊢; omega) (by omega) (lv_sub hl [0, 2] rfl) hP hD hS
          · skip
            replace h41 := nt_nle (a := 2048) (b := M.getD i 0) (by omega) (by omega) h41
            refine lv_aload_n hx hb dMo_toEights_44 rfl (lv_at hl 2 rfl) ?_
            refine lv_sipush (v := nI 192) hx hb dMo_toEights_45 (by decide) ?_
            refine lv_iload_n hx hb dMo_toEights_48 rfl (lv_at hl 0 rfl) ?_
            refine lv_bipush (v := nI 64) hx hb dMo_toEights_49 (by decide) ?_
            refine lv_idiv hx hb dMo_toEights_51 (by decide) ?_
            refine lv_rei (y := nI ((M.getD i 0) / 64)) (pk_div (by omega) (by omega) (by omega)) ?_
            refine lv_iadd hx hb dMo_toEights_52 ?_
            refine lv_rei (y := nI (192 + ((M.getD i 0) / 64))) (nI_add _ _) ?_
            refine ca_v (wr := []) (va_runV (As := [.int (nI (192 + ((M.getD i 0) / 64)))]) (rest := []) Xf (k_Mo_put l D cA _ mo xI xL xO xK xR xW I (M.map nI) O K gI gL gO gK gR hW_ md at_ nu vl pc_ bs tk gd (((M.take i).flatMap en8).map nI) (nI (192 + ((M.getD i 0) / 64))) hfI hcI hfL hcL hfO hcO hfK hcK hW (by simp only [List.length_append, List.length_singleton, List.length_nil, List.length_map, List.length_cons]; omega)) ⟨cb_of 1 hw w_527 w_7 w_524 (by decide +kernel) (by rw [hR]; exact ⟨Nat.le_of_ble_eq_true rfl, Nat.le_of_ble_eq_true rfl⟩), hw _ w_526, hw _ ws_22⟩ (pre_V (As := [.int (nI (192 + ((M.getD i 0) / 64)))]) hP hD hK hn [0, 1, 2, 3, 4, 5, 6] rfl (by decide) 0 5 rfl rfl) rfl rfl hl.1 rfl (lv_room (Nat.le_of_ble_eq_true rfl)) dMo_toEights_53 ⟨Nat.zero_le _, Nat.zero_le _⟩) hP hD hS hA [0, 1, 2, 3, 4, 5, 6] [] rfl rfl (by decide) (by decide) (fun u_ H locs hq_ hP hD hS => ?_)
            obtain ⟨gW8, hgW8⟩ : ∃ z, z = u_ := ⟨_, rfl⟩
            rw [← hgW8] at hP hD hq_
            have hW8 := hq_
            replace hP : va_P D vwCl [(mo, .inr (5, [.int (nI I.length), .ref xI, .int (nI ((M.map nI).length)), .ref xL, .int (nI O.length), .ref xO, .int (nI K.length), .ref xK, .int md, .ref xR, .int (nI (((((M.take i).flatMap en8).map nI) ++ [nI (192 + ((M.getD i 0) / 64))]).length)), .ref xW, .int at_, .long nu, .long vl, .long pc_, .int bs, .int tk, .int gd])), (xI, .inl (cA, 120, .inl gI)), (xL, .inl (cA, 120, .inl gL)), (xO, .inl (cA, 400, .inl gO)), (xK, .inl (cA, 120, .inl gK)), (xR, .inl (cA, 121, .inl gR)), (xW, .inl (cA, 1000, .inl gW8))] H := hP.sub [0, 1, 2, 3, 4, 5, 6] rfl
            replace hD : va_D A [(mo, .inr (5, [.int (nI I.length), .ref xI, .int (nI ((M.map nI).length)), .ref xL, .int (nI O.length), .ref xO, .int (nI K.length), .ref xK, .int md, .ref xR, .int (nI (((((M.take i).flatMap en8).map nI) ++ [nI (192 + ((M.getD i 0) / 64))]).length)), .ref xW, .int at_, .long nu, .long vl, .long pc_, .int bs, .int tk, .int gd])), (xI, .inl (cA, 120, .inl gI)), (xL, .inl (cA, 120, .inl gL)), (xO, .inl (cA, 400, .inl gO)), (xK, .inl (cA, 120, .inl gK)), (xR, .inl (cA, 121, .inl gR)), (xW, .inl (cA, 1000, .inl gW8))] := hD.sub [0, 1, 2, 3, 4, 5, 6] (by decide) rfl
            refine lv_aload_n hx hb dMo_toEights_56 rfl (lv_at hl 2 rfl) ?_
            refine lv_sipush (v := nI 128) hx hb dMo_toEights_57 (by decide) ?_
            refine lv_iload_n hx hb dMo_toEights_60 rfl (lv_at hl 0 rfl) ?_
            refine lv_bipush (v := nI 64) hx hb dMo_toEights_61 (by decide) ?_
            refine lv_irem hx hb dMo_toEights_63 (by decide) ?_
            refine lv_rei (y := nI ((M.getD i 0) % 64)) (pk_rem (by omega) (by omega) (by omega)) ?_
            refine lv_iadd hx hb dMo_toEights_64 ?_
            refine lv_rei (y := nI (128 + ((M.getD i 0) % 64))) (nI_add _ _) ?_
            refine ca_v (wr := []) (va_runV (As := [.int (nI (128 + ((M.getD i 0) % 64)))]) (rest := []) Xf (k_Mo_put l D cA _ mo xI xL xO xK xR xW I (M.map nI) O K gI gL gO gK gR gW8 md at_ nu vl pc_ bs tk gd ((((M.take i).flatMap en8).map nI) ++ [nI (192 + ((M.getD i 0) / 64))]) (nI (128 + ((M.getD i 0) % 64))) hfI hcI hfL hcL hfO hcO hfK hcK hW8 (by simp only [List.length_append, List.length_singleton, List.length_nil, List.length_map, List.length_cons]; omega)) ⟨cb_of 1 hw w_527 w_7 w_524 (by decide +kernel) (by rw [hR]; exact ⟨Nat.le_of_ble_eq_true rfl, Nat.le_of_ble_eq_true rfl⟩), hw _ w_526, hw _ ws_22⟩ (pre_V (As := [.int (nI (128 + ((M.getD i 0) % 64)))]) hP hD hK hn [0, 1, 2, 3, 4, 5, 6] rfl (by decide) 0 5 rfl rfl) rfl rfl hl.1 rfl (lv_room (Nat.le_of_ble_eq_true rfl)) dMo_toEights_65 ⟨Nat.zero_le _, Nat.zero_le _⟩) hP hD hS hA [0, 1, 2, 3, 4, 5, 6] [] rfl rfl (by decide) (by decide) (fun u_ H locs hq_ hP hD hS => ?_)
            obtain ⟨gW9, hgW9⟩ : ∃ z, z = u_ := ⟨_, rfl⟩
            rw [← hgW9] at hP hD hq_
            have hW9 := hq_
            replace hP : va_P D vwCl [(mo, .inr (5, [.int (nI I.length), .ref xI, .int (nI ((M.map nI).length)), .ref xL, .int (nI O.length), .ref xO, .int (nI K.length), .ref xK, .int md, .ref xR, .int (nI ((((((M.take i).flatMap en8).map nI) ++ [nI (192 + ((M.getD i 0) / 64))]) ++ [nI (128 + ((M.getD i 0) % 64))]).length)), .ref xW, .int at_, .long nu, .long vl, .long pc_, .int bs, .int tk, .int gd])), (xI, .inl (cA, 120, .inl gI)), (xL, .inl (cA, 120, .inl gL)), (xO, .inl (cA, 400, .inl gO)), (xK, .inl (cA, 120, .inl gK)), (xR, .inl (cA, 121, .inl gR)), (xW, .inl (cA, 1000, .inl gW9))] H := hP.sub [0, 1, 2, 3, 4, 5, 6] rfl
            replace hD : va_D A [(mo, .inr (5, [.int (nI I.length), .ref xI, .int (nI ((M.map nI).length)), .ref xL, .int (nI O.length), .ref xO, .int (nI K.length), .ref xK, .int md, .ref xR, .int (nI ((((((M.take i).flatMap en8).map nI) ++ [nI (192 + ((M.getD i 0) / 64))]) ++ [nI (128 + ((M.getD i 0) % 64))]).length)), .ref xW, .int at_, .long nu, .long vl, .long pc_, .int bs, .int tk, .int gd])), (xI, .inl (cA, 120, .inl gI)), (xL, .inl (cA, 120, .inl gL)), (xO, .inl (cA, 400, .inl gO)), (xK, .inl (cA, 120, .inl gK)), (xR, .inl (cA, 121, .inl gR)), (xW, .inl (cA, 1000, .inl gW9))] := hD.sub [0, 1, 2, 3, 4, 5, 6] (by decide) rfl
            refine lv_goto (tgt := 175) hx hb dMo_toEights_68 (by decide) ?_
            refine lv_iinc (k := 1) (v := nI (i + 1)) (lv' := [(1, .int (nI (i + 1))), (2, .int (nI (M.getD i 0))), (0, .ref mo)]) hx hb dMo_toEights_175 hl rfl (nI_1 _) (by decide) rfl (fun ls hl => ?_)
            refine lv_goto (tgt := 7) hx hb dMo_toEights_178 (by decide) ?_
            have em : (((((M.take i).flatMap en8).map nI) ++ [nI (192 + ((M.getD i 0) / 64))]) ++ [nI (128 + ((M.getD i 0) % 64))]) = ((M.take (i + 1)).flatMap en8).map nI := by rw [fm_take h12, en8_2 h26 h41]; simp
            rw [em] at hP hD hW9
            exact ih_loop1 (i + 1) gW9 _ _ _ (by omega) hW9 (by rw [← em]; simp only [List.length_append, List.length_singleton, List.length_nil, List.length_map, List.length_cons] at hwl ⊢; omega) (by omega) (lv_sub hl [0, 2] rfl) hP hD hS
        · skip
          replace h26 := nt_nle (a := 128) (b := M.getD i 0) (by omega) (by omega) h26
          refine lv_aload_n hx hb dMo_toEights_29 rfl (lv_at hl 2 rfl) ?_
          refine lv_iload_n hx hb dMo_toEights_30 rfl (lv_at hl 0 rfl) ?_
          refine ca_v (wr := []) (va_runV (As := [.int (nI (M.getD i 0))]) (rest := []) Xf (k_Mo_put l D cA _ mo xI xL xO xK xR xW I (M.map nI) O K gI gL gO gK gR hW_ md at_ nu vl pc_ bs tk gd (((M.take i).flatMap en8).map nI) (nI (M.getD i 0)) hfI hcI hfL hcL hfO hcO hfK hcK hW (by simp only [List.length_append, List.length_singleton, List.length_nil, List.length_map, List.length_cons]; omega)) ⟨cb_of 1 hw w_527 w_7 w_524 (by decide +kernel) (by rw [hR]; exact ⟨Nat.le_of_ble_eq_true rfl, Nat.le_of_ble_eq_true rfl⟩), hw _ w_526, hw _ ws_22⟩ (pre_V (As := [.int (nI (M.getD i 0))]) hP hD hK hn [0, 1, 2, 3, 4, 5, 6] rfl (by decide) 0 5 rfl rfl) rfl rfl hl.1 rfl (lv_room (Nat.le_of_ble_eq_true rfl)) dMo_toEights_31 ⟨Nat.zero_le _, Nat.zero_le _⟩) hP hD hS hA [0, 1, 2, 3, 4, 5, 6] [] rfl rfl (by decide) (by decide) (fun u_ H locs hq_ hP hD hS => ?_)
          obtain ⟨gW10, hgW10⟩ : ∃ z, z = u_ := ⟨_, rfl⟩
          rw [← hgW10] at hP hD hq_
          have hW10 := hq_
          replace hP : va_P D vwCl [(mo, .inr (5, [.int (nI I.length), .ref xI, .int (nI ((M.map nI).length)), .ref xL, .int (nI O.length), .ref xO, .int (nI K.length), .ref xK, .int md, .ref xR, .int (nI (((((M.take i).flatMap en8).map nI) ++ [nI (M.getD i 0)]).length)), .ref xW, .int at_, .long nu, .long vl, .long pc_, .int bs, .int tk, .int gd])), (xI, .inl (cA, 120, .inl gI)), (xL, .inl (cA, 120, .inl gL)), (xO, .inl (cA, 400, .inl gO)), (xK, .inl (cA, 120, .inl gK)), (xR, .inl (cA, 121, .inl gR)), (xW, .inl (cA, 1000, .inl gW10))] H := hP.sub [0, 1, 2, 3, 4, 5, 6] rfl
          replace hD : va_D A [(mo, .inr (5, [.int (nI I.length), .ref xI, .int (nI ((M.map nI).length)), .ref xL, .int (nI O.length), .ref xO, .int (nI K.length), .ref xK, .int md, .ref xR, .int (nI (((((M.take i).flatMap en8).map nI) ++ [nI (M.getD i 0)]).length)), .ref xW, .int at_, .long nu, .long vl, .long pc_, .int bs, .int tk, .int gd])), (xI, .inl (cA, 120, .inl gI)), (xL, .inl (cA, 120, .inl gL)), (xO, .inl (cA, 400, .inl gO)), (xK, .inl (cA, 120, .inl gK)), (xR, .inl (cA, 121, .inl gR)), (xW, .inl (cA, 1000, .inl gW10))] := hD.sub [0, 1, 2, 3, 4, 5, 6] (by decide) rfl
          refine lv_goto (tgt := 175) hx hb dMo_toEights_34 (by decide) ?_
          refine lv_iinc (k := 1) (v := nI (i + 1)) (lv' := [(1, .int (nI (i + 1))), (2, .int (nI (M.getD i 0))), (0, .ref mo)]) hx hb dMo_toEights_175 hl rfl (nI_1 _) (by decide) rfl (fun ls hl => ?_)
          refine lv_goto (tgt := 7) hx hb dMo_toEights_178 (by decide) ?_
          have em : ((((M.take i).flatMap en8).map nI) ++ [nI (M.getD i 0)]) = ((M.take (i + 1)).flatMap en8).map nI := by rw [fm_take h12, en8_1 h26]; simp
          rw [em] at hP hD hW10
          exact ih_loop1 (i + 1) gW10 _ _ _ (by omega) hW10 (by rw [← em]; simp only [List.length_append, List.length_singleton, List.length_nil, List.length_map, List.length_cons] at hwl ⊢; omega) (by omega) (lv_sub hl [0, 2] rfl) hP hD hS
  exact loop1 _ 0 gW _ _ _ (Nat.lt_succ_self _) (Hw_nil _) (Nat.le_refl _) (Nat.zero_le _) (lv_sub hl [0, 1] rfl) hP hD hS
set_option maxHeartbeats 4000000 in
set_option maxRecDepth 100000 in
theorem k_Mo_toSixteens (l : Launch) (D : va_G) (cA : ClassId) (sz : Nat) (mo xI xL xO xK xR xW : Nat) (I O K : List Int32) (gI gL gO gK gR gW : Nat → Int32) (md wr at_ : Int32) (nu vl pc_ : Int64) (bs tk gd : Int32) (M : List Nat) (hfI : Hd gI I) (hcI : I.length ≤ 120) (hfL : Hd gL (M.map nI)) (hcL : (M.map nI).length ≤ 120) (hfO : Hd gO O) (hcO : O.length ≤ 400) (hfK : Hd gK K) (hcK : K.length ≤ 120) (hMb : ∀ x ∈ M, x ≤ 1114111) : KI l D cA y_Mo_toSixteens c_Mo_toSixteens 3 .int 1 21 [.ref mo] sz [(mo, .inr (5, [.int (nI I.length), .ref xI, .int (nI ((M.map nI).length)), .ref xL, .int (nI O.length), .ref xO, .int (nI K.length), .ref xK, .int md, .ref xR, .int wr, .ref xW, .int at_, .long nu, .long vl, .long pc_, .int bs, .int tk, .int gd])), (xI, .inl (cA, 120, .inl gI)), (xL, .inl (cA, 120, .inl gL)), (xO, .inl (cA, 400, .inl gO)), (xK, .inl (cA, 120, .inl gK)), (xR, .inl (cA, 121, .inl gR)), (xW, .inl (cA, 1000, .inl gW))] (S := List Int32 × (Nat → Int32) × Int32 × (Nat → Int32)) (fun r u => match u with | (O2, gO2, wr2, gW2) => r = (spW en16 M O).1 ∧ O2 = (spW en16 M O).2 ∧ Hd gO2 O2 ∧ O2.length ≤ 400) (fun u => match u with | (O2, gO2, wr2, gW2) => [(mo, .inr (5, [.int (nI I.length), .ref xI, .int (nI ((M.map nI).length)), .ref xL, .int (nI O2.length), .ref xO, .int (nI K.length), .ref xK, .int md, .ref xR, .int wr2, .ref xW, .int at_, .long nu, .long vl, .long pc_, .int bs, .int tk, .int gd])), (xI, .inl (cA, 120, .inl gI)), (xL, .inl (cA, 120, .inl gL)), (xO, .inl (cA, 400, .inl gO2)), (xK, .inl (cA, 120, .inl gK)), (xR, .inl (cA, 121, .inl gR)), (xW, .inl (cA, 1000, .inl gW2))]) := by
  refine KI.of (by decide) (Nat.le_of_ble_eq_true rfl) ?_
  intro p e s m args below meth c Q R A ls Xf hR hA hS hP hD hK hn hl ret
  have hx := Xf.1
  have hb := Xf.2.1
  have hown : s.vm.findClass "ScalarScribeModel" = some m.cls := Xf.2.2.2.1
  have hw := Xf.2.2.2.2
  have hl : lv_has ls 3 [(0, .ref mo)] := hl
  have hcM : M.length ≤ 120 := by rw [List.length_map] at hcL; exact hcL
  refine lv_aload_n hx hb dMo_toSixteens_0 rfl (lv_at hl 0 rfl) ?_
  refine lv_iconst (v := nI 0) hx hb dMo_toSixteens_1 (by decide) ?_
  refine va_put (D := D) (ci := 5) (v := .int (nI 0)) (ty := .int) (C := R_Mo) (T := T_Mo) (N := 19) hx hb hw in_Mo ty_Mo ty_Mo_ok nm_Mo hown hK hP hD hS 0 rfl rfl 10 (by decide) (hw _ w_374) (fun _ h9 => h9) rfl (by decide +kernel) rfl rfl (Nat.le_of_ble_eq_true rfl) dMo_toSixteens_2 (fun H locs hP hD hS => ?_)
  have hP : va_P D vwCl [(mo, .inr (5, [.int (nI I.length), .ref xI, .int (nI ((M.map nI).length)), .ref xL, .int (nI O.length), .ref xO, .int (nI K.length), .ref xK, .int md, .ref xR, .int (nI 0), .ref xW, .int at_, .long nu, .long vl, .long pc_, .int bs, .int tk, .int gd])), (xI, .inl (cA, 120, .inl gI)), (xL, .inl (cA, 120, .inl gL)), (xO, .inl (cA, 400, .inl gO)), (xK, .inl (cA, 120, .inl gK)), (xR, .inl (cA, 121, .inl gR)), (xW, .inl (cA, 1000, .inl gW))] H := hP
  have hD : va_D A [(mo, .inr (5, [.int (nI I.length), .ref xI, .int (nI ((M.map nI).length)), .ref xL, .int (nI O.length), .ref xO, .int (nI K.length), .ref xK, .int md, .ref xR, .int (nI 0), .ref xW, .int at_, .long nu, .long vl, .long pc_, .int bs, .int tk, .int gd])), (xI, .inl (cA, 120, .inl gI)), (xL, .inl (cA, 120, .inl gL)), (xO, .inl (cA, 400, .inl gO)), (xK, .inl (cA, 120, .inl gK)), (xR, .inl (cA, 121, .inl gR)), (xW, .inl (cA, 1000, .inl gW))] := hD
  refine lv_iconst (v := nI 0) hx hb dMo_toSixteens_5 (by decide) ?_
  refine lv_istore_n (lv' := [(1, .int (nI 0)), (0, .ref mo)]) hx hb dMo_toSixteens_6 rfl hl (by decide) rfl (fun ls hl => ?_)
  have loop1 : ∀ (n_ : Nat) (i : Nat) (hW_ : Nat → Int32) (ls : Array Slot) (H : Heap) (locs : List Loc), M.length - i < n_ → Hw hW_ (((M.take i).flatMap en16).map nI) → (((M.take i).flatMap en16).map nI).length ≤ 4 * i → i ≤ M.length → lv_has ls 3 [(1, .int (nI i)), (0, .ref mo)] → va_P D vwCl [(mo, .inr (5, [.int (nI I.length), .ref xI, .int (nI ((M.map nI).length)), .ref xL, .int (nI O.length), .ref xO, .int (nI K.length), .ref xK, .int md, .ref xR, .int (nI ((((M.take i).flatMap en16).map nI).length)), .ref xW, .int at_, .long nu, .long vl, .long pc_, .int bs, .int tk, .int gd])), (xI, .inl (cA, 120, .inl gI)), (xL, .inl (cA, 120, .inl gL)), (xO, .inl (cA, 400, .inl gO)), (xK, .inl (cA, 120, .inl gK)), (xR, .inl (cA, 121, .inl gR)), (xW, .inl (cA, 1000, .inl hW_))] H → va_D A [(mo, .inr (5, [.int (nI I.length), .ref xI, .int (nI ((M.map nI).length)), .ref xL, .int (nI O.length), .ref xO, .int (nI K.length), .ref xK, .int md, .ref xR, .int (nI ((((M.take i).flatMap en16).map nI).length)), .ref xW, .int at_, .long nu, .long vl, .long pc_, .int bs, .int tk, .int gd])), (xI, .inl (cA, 120, .inl gI)), (xL, .inl (cA, 120, .inl gL)), (xO, .inl (cA, 400, .inl gO)), (xK, .inl (cA, 120, .inl gK)), (xR, .inl (cA, 121, .inl gR)), (xW, .inl (cA, 1000, .inl hW_))] → va_S A s.heap H locs → W p l e R s m args below meth c H locs 0 0 Q (F0 m 7 ls []) := by
    intro n_
    induction n_ with
    | zero => intro i hW_ ls H locs hm_; exact absurd hm_ (Nat.not_lt_zero _)
    | succ n_ ih_loop1 =>
      intro i hW_ ls H locs hm_ hW hwl hi hl hP hD hS
      refine lv_iload_n hx hb dMo_toSixteens_7 rfl (lv_at hl 0 rfl) ?_
      refine lv_aload_n hx hb dMo_toSixteens_8 rfl (lv_at hl 1 rfl) ?_
      refine va_get (D := D) (ci := 5) (v := .int (nI ((M.map nI).length))) (C := R_Mo) (T := T_Mo) (N := 19) hx hb hw in_Mo hown hK hP 0 rfl rfl 2 (by decide) (hw _ w_366) (fun _ h9 => h9) rfl dMo_toSixteens_9 ?_
      refine lv_icmp_ge (tgt := 69) hx hb dMo_toSixteens_12 (by decide) (fun h12 => ?_) (fun h12 => ?_)
      · skip
        replace h12 := nt_le (a := (M.map nI).length) (b := i) (by omega) (by omega) h12
        rw [List.length_map] at h12
        have ei : M.take i = M := List.take_of_length_le (by omega)
        rw [ei] at hP hD hW hwl
        refine lv_aload_n hx hb dMo_toSixteens_69 rfl (lv_at hl 1 rfl) ?_
        refine ca_i (wr := []) (va_runV (As := []) (rest := []) Xf (k_Mo_give l D cA _ mo xI xL xO xK xR xW I (M.map nI) O K gI gL gO gK gR hW_ md at_ nu vl pc_ bs tk gd ((M.flatMap en16).map nI) hfI hcI hfL hcL hfO hcO hfK hcK hW (by omega)) ⟨cb_of 0 hw w_532 w_7 w_529 (by decide +kernel) (by rw [hR]; exact ⟨Nat.le_of_ble_eq_true rfl, Nat.le_of_ble_eq_true rfl⟩), hw _ w_531, hw _ ws_23⟩ (pre_V (As := []) hP hD hK hn [0, 1, 2, 3, 4, 5, 6] rfl (by decide) 0 5 rfl rfl) rfl rfl hl.1 rfl (lv_room (Nat.le_of_ble_eq_true rfl)) dMo_toSixteens_70 ⟨Nat.zero_le _, Nat.zero_le _⟩) hP hD hS hA [0, 1, 2, 3, 4, 5, 6] [] rfl rfl (by decide) (by decide) (fun r70 u_ H locs hq_ hP hD hS => ?_)
        obtain ⟨O_, gO_⟩ := u_
        dsimp only at hq_ hP hD
        rcases hq_ with ⟨hgl, rfl, hO_, hfO_⟩ | ⟨hgl, rfl, hO_, hfO_⟩
        · skip
          subst O_
          replace hP : va_P D vwCl [(mo, .inr (5, [.int (nI I.length), .ref xI, .int (nI ((M.map nI).length)), .ref xL, .int (nI (((M.flatMap en16).map nI).length)), .ref xO, .int (nI K.length), .ref xK, .int md, .ref xR, .int (nI (((M.flatMap en16).map nI).length)), .ref xW, .int at_, .long nu, .long vl, .long pc_, .int bs, .int tk, .int gd])), (xI, .inl (cA, 120, .inl gI)), (xL, .inl (cA, 120, .inl gL)), (xO, .inl (cA, 400, .inl gO_)), (xK, .inl (cA, 120, .inl gK)), (xR, .inl (cA, 121, .inl gR)), (xW, .inl (cA, 1000, .inl hW_))] H := hP.sub [0, 1, 2, 3, 4, 5, 6] rfl
          replace hD : va_D A [(mo, .inr (5, [.int (nI I.length), .ref xI, .int (nI ((M.map nI).length)), .ref xL, .int (nI (((M.flatMap en16).map nI).length)), .ref xO, .int (nI K.length), .ref xK, .int md, .ref xR, .int (nI (((M.flatMap en16).map nI).length)), .ref xW, .int at_, .long nu, .long vl, .long pc_, .int bs, .int tk, .int gd])), (xI, .inl (cA, 120, .inl gI)), (xL, .inl (cA, 120, .inl gL)), (xO, .inl (cA, 400, .inl gO_)), (xK, .inl (cA, 120, .inl gK)), (xR, .inl (cA, 121, .inl gR)), (xW, .inl (cA, 1000, .inl hW_))] := hD.sub [0, 1, 2, 3, 4, 5, 6] (by decide) rfl
          rw [List.length_map] at hgl
          exact ret (((M.flatMap en16).map nI), gO_, nI (((M.flatMap en16).map nI).length), hW_) dMo_toSixteens_73 rfl ⟨by unfold spW; rw [if_pos hgl, List.length_map], by unfold spW; rw [if_pos hgl], hfO_, by rw [List.length_map]; exact hgl⟩ hP hD hS
        · skip
          subst O_
          replace hP : va_P D vwCl [(mo, .inr (5, [.int (nI I.length), .ref xI, .int (nI ((M.map nI).length)), .ref xL, .int (nI O.length), .ref xO, .int (nI K.length), .ref xK, .int md, .ref xR, .int (nI (((M.flatMap en16).map nI).length)), .ref xW, .int at_, .long nu, .long vl, .long pc_, .int bs, .int tk, .int gd])), (xI, .inl (cA, 120, .inl gI)), (xL, .inl (cA, 120, .inl gL)), (xO, .inl (cA, 400, .inl gO_)), (xK, .inl (cA, 120, .inl gK)), (xR, .inl (cA, 121, .inl gR)), (xW, .inl (cA, 1000, .inl hW_))] H := hP.sub [0, 1, 2, 3, 4, 5, 6] rfl
          replace hD : va_D A [(mo, .inr (5, [.int (nI I.length), .ref xI, .int (nI ((M.map nI).length)), .ref xL, .int (nI O.length), .ref xO, .int (nI K.length), .ref xK, .int md, .ref xR, .int (nI (((M.flatMap en16).map nI).length)), .ref xW, .int at_, .long nu, .long vl, .long pc_, .int bs, .int tk, .int gd])), (xI, .inl (cA, 120, .inl gI)), (xL, .inl (cA, 120, .inl gL)), (xO, .inl (cA, 400, .inl gO_)), (xK, .inl (cA, 120, .inl gK)), (xR, .inl (cA, 121, .inl gR)), (xW, .inl (cA, 1000, .inl hW_))] := hD.sub [0, 1, 2, 3, 4, 5, 6] (by decide) rfl
          rw [List.length_map] at hgl
          exact ret (O, gO_, nI (((M.flatMap en16).map nI).length), hW_) dMo_toSixteens_73 rfl ⟨by unfold spW; rw [if_neg (by omega)], by unfold spW; rw [if_neg (by omega)], hfO_, hcO⟩ hP hD hS
      · skip
        replace h12 := nt_nle (a := (M.map nI).length) (b := i) (by omega) (by omega) h12
        rw [List.length_map] at h12
        simp only [List.length_map] at hwl
        refine lv_aload_n hx hb dMo_toSixteens_15 rfl (lv_at hl 1 rfl) ?_
        refine va_get (D := D) (ci := 5) (v := .ref xL) (C := R_Mo) (T := T_Mo) (N := 19) hx hb hw in_Mo hown hK hP 0 rfl rfl 3 (by decide) (hw _ w_367) (fun _ h9 => h9) rfl dMo_toSixteens_16 ?_
        refine lv_iload_n hx hb dMo_toSixteens_19 rfl (lv_at hl 0 rfl) ?_
        refine va_iald hx hb hK hP 2 0 rfl rfl (vp_in_nI (by omega) (by omega)) dMo_toSixteens_20 ?_
        refine lv_rei (y := gL i) (by rw [nI_clamp (by omega)]) ?_
        refine lv_rei (y := nI (M.getD i 0)) ((Hd_un hfL (by rw [List.length_map]; omega)).trans (un_map (by omega))) ?_
        have hvb : M.getD i 0 ≤ 1114111 := getD_b hMb (by omega)
        refine lv_istore_n (lv' := [(2, .int (nI (M.getD i 0))), (1, .int (nI i)), (0, .ref mo)]) hx hb dMo_toSixteens_21 rfl hl (by decide) rfl (fun ls hl => ?_)
        refine lv_iload_n hx hb dMo_toSixteens_22 rfl (lv_at hl 0 rfl) ?_
        refine lv_ldc (v := nI 65536) hx hb hown (hw _ w_471) dMo_toSixteens_23 ?_
        refine lv_icmp_ge (tgt := 36) hx hb dMo_toSixteens_25 (by decide) (fun h25 => ?_) (fun h25 => ?_)
        · skip
          replace h25 := nt_le (a := 65536) (b := M.getD i 0) (by omega) (by omega) h25
          refine lv_aload_n hx hb dMo_toSixteens_36 rfl (lv_at hl 2 rfl) ?_
          refine lv_ldc (v := nI 55296) hx hb hown (hw _ w_469) dMo_toSixteens_37 ?_
          refine lv_iload_n hx hb dMo_toSixteens_39 rfl (lv_at hl 0 rfl) ?_
          refine lv_ldc (v := nI 65536) hx hb hown (hw _ w_471) dMo_toSixteens_40 ?_
          refine lv_isub hx hb dMo_toSixteens_42 ?_
          refine lv_rei (y := nI (M.getD i 0 - 65536)) (pk_sub (by omega)) ?_
          refine lv_sipush (v := nI 1024) hx hb dMo_toSixteens_43 (by decide) ?_
          refine lv_idiv hx hb dMo_toSixteens_46 (by decide) ?_
          refine lv_rei (y := nI ((M.getD i 0 - 65536) / 1024)) (pk_div (by omega) (by omega) (by omega)) ?_
          refine lv_iadd hx hb dMo_toSixteens_47 ?_
          refine lv_rei (y := nI (55296 + ((M.getD i 0 - 65536) / 1024))) (nI_add _ _) ?_
          refine ca_v (wr := []) (va_runV (As := [.int (nI (55296 + ((M.getD i 0 - 65536) / 1024)))]) (rest := []) Xf (k_Mo_put l D cA _ mo xI xL xO xK xR xW I (M.map nI) O K gI gL gO gK gR hW_ md at_ nu vl pc_ bs tk gd (((M.take i).flatMap en16).map nI) (nI (55296 + ((M.getD i 0 - 65536) / 1024))) hfI hcI hfL hcL hfO hcO hfK hcK hW (by simp only [List.length_append, List.length_singleton, List.length_nil, List.length_map, List.length_cons]; omega)) ⟨cb_of 1 hw w_527 w_7 w_524 (by decide +kernel) (by rw [hR]; exact ⟨Nat.le_of_ble_eq_true rfl, Nat.le_of_ble_eq_true rfl⟩), hw _ w_526, hw _ ws_22⟩ (pre_V (As := [.int (nI (55296 + ((M.getD i 0 - 65536) / 1024)))]) hP hD hK hn [0, 1, 2, 3, 4, 5, 6] rfl (by decide) 0 5 rfl rfl) rfl rfl hl.1 rfl (lv_room (Nat.le_of_ble_eq_true rfl)) dMo_toSixteens_48 ⟨Nat.zero_le _, Nat.zero_le _⟩) hP hD hS hA [0, 1, 2, 3, 4, 5, 6] [] rfl rfl (by decide) (by decide) (fun u_ H locs hq_ hP hD hS => ?_)
          obtain ⟨gW1, hgW1⟩ : ∃ z, z = u_ := ⟨_, rfl⟩
          rw [← hgW1] at hP hD hq_
          have hW1 := hq_
          replace hP : va_P D vwCl [(mo, .inr (5, [.int (nI I.length), .ref xI, .int (nI ((M.map nI).length)), .ref xL, .int (nI O.length), .ref xO, .int (nI K.length), .ref xK, .int md, .ref xR, .int (nI (((((M.take i).flatMap en16).map nI) ++ [nI (55296 + ((M.getD i 0 - 65536) / 1024))]).length)), .ref xW, .int at_, .long nu, .long vl, .long pc_, .int bs, .int tk, .int gd])), (xI, .inl (cA, 120, .inl gI)), (xL, .inl (cA, 120, .inl gL)), (xO, .inl (cA, 400, .inl gO)), (xK, .inl (cA, 120, .inl gK)), (xR, .inl (cA, 121, .inl gR)), (xW, .inl (cA, 1000, .inl gW1))] H := hP.sub [0, 1, 2, 3, 4, 5, 6] rfl
          replace hD : va_D A [(mo, .inr (5, [.int (nI I.length), .ref xI, .int (nI ((M.map nI).length)), .ref xL, .int (nI O.length), .ref xO, .int (nI K.length), .ref xK, .int md, .ref xR, .int (nI (((((M.take i).flatMap en16).map nI) ++ [nI (55296 + ((M.getD i 0 - 65536) / 1024))]).length)), .ref xW, .int at_, .long nu, .long vl, .long pc_, .int bs, .int tk, .int gd])), (xI, .inl (cA, 120, .inl gI)), (xL, .inl (cA, 120, .inl gL)), (xO, .inl (cA, 400, .inl gO)), (xK, .inl (cA, 120, .inl gK)), (xR, .inl (cA, 121, .inl gR)), (xW, .inl (cA, 1000, .inl gW1))] := hD.sub [0, 1, 2, 3, 4, 5, 6] (by decide) rfl
          refine lv_aload_n hx hb dMo_toSixteens_51 rfl (lv_at hl 2 rfl) ?_
          refine lv_ldc (v := nI 56320) hx hb hown (hw _ w_467) dMo_toSixteens_52 ?_
          refine lv_iload_n hx hb dMo_toSixteens_54 rfl (lv_at hl 0 rfl) ?_
          refine lv_sipush (v := nI 1024) hx hb dMo_toSixteens_55 (by decide) ?_
          refine lv_irem hx hb dMo_toSixteens_58 (by decide) ?_
          refine lv_rei (y := nI ((M.getD i 0) % 1024)) (pk_rem (by omega) (by omega) (by omega)) ?_
          refine lv_iadd hx hb dMo_toSixteens_59 ?_
          refine lv_rei (y := nI (56320 + ((M.getD i 0) % 1024))) (nI_add _ _) ?_
          refine ca_v (wr := []) (va_runV (As := [.int (nI (56320 + ((M.getD i 0) % 1024)))]) (rest := []) Xf (k_Mo_put l D cA _ mo xI xL xO xK xR xW I (M.map nI) O K gI gL gO gK gR gW1 md at_ nu vl pc_ bs tk gd ((((M.take i).flatMap en16).map nI) ++ [nI (55296 + ((M.getD i 0 - 65536) / 1024))]) (nI (56320 + ((M.getD i 0) % 1024))) hfI hcI hfL hcL hfO hcO hfK hcK hW1 (by simp only [List.length_append, List.length_singleton, List.length_nil, List.length_map, List.length_cons]; omega)) ⟨cb_of 1 hw w_527 w_7 w_524 (by decide +kernel) (by rw [hR]; exact ⟨Nat.le_of_ble_eq_true rfl, Nat.le_of_ble_eq_true rfl⟩), hw _ w_526, hw _ ws_22⟩ (pre_V (As := [.int (nI (56320 + ((M.getD i 0) % 1024)))]) hP hD hK hn [0, 1, 2, 3, 4, 5, 6] rfl (by decide) 0 5 rfl rfl) rfl rfl hl.1 rfl (lv_room (Nat.le_of_ble_eq_true rfl)) dMo_toSixteens_60 ⟨Nat.zero_le _, Nat.zero_le _⟩) hP hD hS hA [0, 1, 2, 3, 4, 5, 6] [] rfl rfl (by decide) (by decide) (fun u_ H locs hq_ hP hD hS => ?_)
          obtain ⟨gW2, hgW2⟩ : ∃ z, z = u_ := ⟨_, rfl⟩
          rw [← hgW2] at hP hD hq_
          have hW2 := hq_
          replace hP : va_P D vwCl [(mo, .inr (5, [.int (nI I.length), .ref xI, .int (nI ((M.map nI).length)), .ref xL, .int (nI O.length), .ref xO, .int (nI K.length), .ref xK, .int md, .ref xR, .int (nI ((((((M.take i).flatMap en16).map nI) ++ [nI (55296 + ((M.getD i 0 - 65536) / 1024))]) ++ [nI (56320 + ((M.getD i 0) % 1024))]).length)), .ref xW, .int at_, .long nu, .long vl, .long pc_, .int bs, .int tk, .int gd])), (xI, .inl (cA, 120, .inl gI)), (xL, .inl (cA, 120, .inl gL)), (xO, .inl (cA, 400, .inl gO)), (xK, .inl (cA, 120, .inl gK)), (xR, .inl (cA, 121, .inl gR)), (xW, .inl (cA, 1000, .inl gW2))] H := hP.sub [0, 1, 2, 3, 4, 5, 6] rfl
          replace hD : va_D A [(mo, .inr (5, [.int (nI I.length), .ref xI, .int (nI ((M.map nI).length)), .ref xL, .int (nI O.length), .ref xO, .int (nI K.length), .ref xK, .int md, .ref xR, .int (nI ((((((M.take i).flatMap en16).map nI) ++ [nI (55296 + ((M.getD i 0 - 65536) / 1024))]) ++ [nI (56320 + ((M.getD i 0) % 1024))]).length)), .ref xW, .int at_, .long nu, .long vl, .long pc_, .int bs, .int tk, .int gd])), (xI, .inl (cA, 120, .inl gI)), (xL, .inl (cA, 120, .inl gL)), (xO, .inl (cA, 400, .inl gO)), (xK, .inl (cA, 120, .inl gK)), (xR, .inl (cA, 121, .inl gR)), (xW, .inl (cA, 1000, .inl gW2))] := hD.sub [0, 1, 2, 3, 4, 5, 6] (by decide) rfl
          refine lv_iinc (k := 1) (v := nI (i + 1)) (lv' := [(1, .int (nI (i + 1))), (2, .int (nI (M.getD i 0))), (0, .ref mo)]) hx hb dMo_toSixteens_63 hl rfl (nI_1 _) (by decide) rfl (fun ls hl => ?_)
          refine lv_goto (tgt := 7) hx hb dMo_toSixteens_66 (by decide) ?_
          have em : (((((M.take i).flatMap en16).map nI) ++ [nI (55296 + ((M.getD i 0 - 65536) / 1024))]) ++ [nI (56320 + ((M.getD i 0) % 1024))]) = ((M.take (i + 1)).flatMap en16).map nI := by rw [fm_take h12, en16_2 h25, show fu (M.getD i 0) = 55296 + (M.getD i 0 - 65536) / 1024 by unfold fu; rw [if_neg (by omega)]]; simp
          rw [em] at hP hD hW2
          exact ih_loop1 (i + 1) gW2 _ _ _ (by omega) hW2 (by rw [← em]; simp only [List.length_append, List.length_singleton, List.length_nil, List.length_map, List.length_cons] at hwl ⊢; omega) (by omega) (lv_sub hl [0, 2] rfl) hP hD hS
        · skip
          replace h25 := nt_nle (a := 65536) (b := M.getD i 0) (by omega) (by omega) h25
          refine lv_aload_n hx hb dMo_toSixteens_28 rfl (lv_at hl 2 rfl) ?_
          refine lv_iload_n hx hb dMo_toSixteens_29 rfl (lv_at hl 0 rfl) ?_
          refine ca_v (wr := []) (va_runV (As := [.int (nI (M.getD i 0))]) (rest := []) Xf (k_Mo_put l D cA _ mo xI xL xO xK xR xW I (M.map nI) O K gI gL gO gK gR hW_ md at_ nu vl pc_ bs tk gd (((M.take i).flatMap en16).map nI) (nI (M.getD i 0)) hfI hcI hfL hcL hfO hcO hfK hcK hW (by simp only [List.length_append, List.length_singleton, List.length_nil, List.length_map, List.length_cons]; omega)) ⟨cb_of 1 hw w_527 w_7 w_524 (by decide +kernel) (by rw [hR]; exact ⟨Nat.le_of_ble_eq_true rfl, Nat.le_of_ble_eq_true rfl⟩), hw _ w_526, hw _ ws_22⟩ (pre_V (As := [.int (nI (M.getD i 0))]) hP hD hK hn [0, 1, 2, 3, 4, 5, 6] rfl (by decide) 0 5 rfl rfl) rfl rfl hl.1 rfl (lv_room (Nat.le_of_ble_eq_true rfl)) dMo_toSixteens_30 ⟨Nat.zero_le _, Nat.zero_le _⟩) hP hD hS hA [0, 1, 2, 3, 4, 5, 6] [] rfl rfl (by decide) (by decide) (fun u_ H locs hq_ hP hD hS => ?_)
          obtain ⟨gW3, hgW3⟩ : ∃ z, z = u_ := ⟨_, rfl⟩
          rw [← hgW3] at hP hD hq_
          have hW3 := hq_
          replace hP : va_P D vwCl [(mo, .inr (5, [.int (nI I.length), .ref xI, .int (nI ((M.map nI).length)), .ref xL, .int (nI O.length), .ref xO, .int (nI K.length), .ref xK, .int md, .ref xR, .int (nI (((((M.take i).flatMap en16).map nI) ++ [nI (M.getD i 0)]).length)), .ref xW, .int at_, .long nu, .long vl, .long pc_, .int bs, .int tk, .int gd])), (xI, .inl (cA, 120, .inl gI)), (xL, .inl (cA, 120, .inl gL)), (xO, .inl (cA, 400, .inl gO)), (xK, .inl (cA, 120, .inl gK)), (xR, .inl (cA, 121, .inl gR)), (xW, .inl (cA, 1000, .inl gW3))] H := hP.sub [0, 1, 2, 3, 4, 5, 6] rfl
          replace hD : va_D A [(mo, .inr (5, [.int (nI I.length), .ref xI, .int (nI ((M.map nI).length)), .ref xL, .int (nI O.length), .ref xO, .int (nI K.length), .ref xK, .int md, .ref xR, .int (nI (((((M.take i).flatMap en16).map nI) ++ [nI (M.getD i 0)]).length)), .ref xW, .int at_, .long nu, .long vl, .long pc_, .int bs, .int tk, .int gd])), (xI, .inl (cA, 120, .inl gI)), (xL, .inl (cA, 120, .inl gL)), (xO, .inl (cA, 400, .inl gO)), (xK, .inl (cA, 120, .inl gK)), (xR, .inl (cA, 121, .inl gR)), (xW, .inl (cA, 1000, .inl gW3))] := hD.sub [0, 1, 2, 3, 4, 5, 6] (by decide) rfl
          refine lv_goto (tgt := 63) hx hb dMo_toSixteens_33 (by decide) ?_
          refine lv_iinc (k := 1) (v := nI (i + 1)) (lv' := [(1, .int (nI (i + 1))), (2, .int (nI (M.getD i 0))), (0, .ref mo)]) hx hb dMo_toSixteens_63 hl rfl (nI_1 _) (by decide) rfl (fun ls hl => ?_)
          refine lv_goto (tgt := 7) hx hb dMo_toSixteens_66 (by decide) ?_
          have em : ((((M.take i).flatMap en16).map nI) ++ [nI (M.getD i 0)]) = ((M.take (i + 1)).flatMap en16).map nI := by rw [fm_take h12, en16_1 h25, show fu (M.getD i 0) = M.getD i 0 by unfold fu; rw [if_pos h25]]; simp
          rw [em] at hP hD hW3
          exact ih_loop1 (i + 1) gW3 _ _ _ (by omega) hW3 (by rw [← em]; simp only [List.length_append, List.length_singleton, List.length_nil, List.length_map, List.length_cons] at hwl ⊢; omega) (by omega) (lv_sub hl [0, 2] rfl) hP hD hS
  exact loop1 _ 0 gW _ _ _ (Nat.lt_succ_self _) (Hw_nil _) (Nat.le_refl _) (Nat.zero_le _) (lv_sub hl [0, 1] rfl) hP hD hS
set_option maxHeartbeats 4000000 in
set_option maxRecDepth 100000 in
theorem k_Mo_sign (l : Launch) (D : va_G) (cA : ClassId) (sz : Nat) (d : Nat) (hd : d < 2 ^ 30) : KI l D cA y_Mo_sign c_Mo_sign 1 .int 0 0 [.int (nI d)] sz [] (S := Unit) (fun r _ => r = nI (sg d)) (fun _ => []) := by
  refine KI.of (by decide) (Nat.le_of_ble_eq_true rfl) ?_
  intro p e s m args below meth c Q R A ls Xf hR hA hS hP hD hK hn hl ret
  have hx := Xf.1
  have hb := Xf.2.1
  have hown : s.vm.findClass "ScalarScribeModel" = some m.cls := Xf.2.2.2.1
  have hw := Xf.2.2.2.2
  have hl : lv_has ls 1 [(0, .int (nI d))] := hl
  refine lv_iload_n hx hb dMo_sign_0 rfl (lv_at hl 0 rfl) ?_
  refine lv_bipush (v := nI 26) hx hb dMo_sign_1 (by decide) ?_
  refine lv_icmp_ge (tgt := 13) hx hb dMo_sign_3 (by decide) (fun h3 => ?_) (fun h3 => ?_)
  · skip
    replace h3 := nt_le (a := 26) (b := d) (by omega) (by omega) h3
    refine lv_bipush (v := nI 22) hx hb dMo_sign_13 (by decide) ?_
    refine lv_iload_n hx hb dMo_sign_15 rfl (lv_at hl 0 rfl) ?_
    refine lv_iadd hx hb dMo_sign_16 ?_
    refine lv_rei (y := nI (22 + d)) (nI_add _ _) ?_
    exact ret () dMo_sign_17 rfl (congrArg nI (show 22 + d = sg d from by unfold sg; split <;> omega)) hP hD hS
  · skip
    replace h3 := nt_nle (a := 26) (b := d) (by omega) (by omega) h3
    refine lv_bipush (v := nI 97) hx hb dMo_sign_6 (by decide) ?_
    refine lv_iload_n hx hb dMo_sign_8 rfl (lv_at hl 0 rfl) ?_
    refine lv_iadd hx hb dMo_sign_9 ?_
    refine lv_rei (y := nI (97 + d)) (nI_add _ _) ?_
    refine lv_goto (tgt := 17) hx hb dMo_sign_10 (by decide) ?_
    exact ret () dMo_sign_17 rfl (congrArg nI (show 97 + d = sg d from by unfold sg; split <;> omega)) hP hD hS
