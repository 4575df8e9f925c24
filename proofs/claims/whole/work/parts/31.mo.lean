set_option maxHeartbeats 4000000 in
set_option maxRecDepth 100000 in
theorem k_Mo_writeNumber (l : Launch) (D : va_G) (cA : ClassId) (sz : Nat) (mo xI xL xO xK xR xW : Nat) (I L O K : List Int32) (gI gL gO gK gR gW : Nat → Int32) (md at_ : Int32) (nu vl pc_ : Int64) ( tk gd : Int32) (bi : Nat) (w : List Nat) (d : Nat) (hfI : Hd gI I) (hcI : I.length ≤ 120) (hfL : Hd gL L) (hcL : L.length ≤ 120) (hfO : Hd gO O) (hcO : O.length ≤ 400) (hfK : Hd gK K) (hcK : K.length ≤ 120) (hW : Hw gW (w.map nI)) (hWb : (w.map nI).length < 2 ^ 29) (hbi : bi < 2 ^ 20) (hd : d < 2 ^ 30) : KV l D cA y_Mo_writeNumber c_Mo_writeNumber 9 1 22 [.ref mo, .long (lN d)] sz [(mo, .inr (5, [.int (nI I.length), .ref xI, .int (nI L.length), .ref xL, .int (nI O.length), .ref xO, .int (nI K.length), .ref xK, .int md, .ref xR, .int (nI ((w.map nI).length)), .ref xW, .int at_, .long nu, .long vl, .long pc_, .int (nI bi), .int tk, .int gd])), (xI, .inl (cA, 120, .inl gI)), (xL, .inl (cA, 120, .inl gL)), (xO, .inl (cA, 400, .inl gO)), (xK, .inl (cA, 120, .inl gK)), (xR, .inl (cA, 121, .inl gR)), (xW, .inl (cA, 1000, .inl gW))] (S := (Nat → Int32)) (fun gW2 => Hw gW2 ((w ++ wnum bi d).map nI)) (fun gW2 => [(mo, .inr (5, [.int (nI I.length), .ref xI, .int (nI L.length), .ref xL, .int (nI O.length), .ref xO, .int (nI K.length), .ref xK, .int md, .ref xR, .int (nI (((w ++ wnum bi d).map nI).length)), .ref xW, .int at_, .long nu, .long vl, .long pc_, .int (nI bi), .int tk, .int gd])), (xI, .inl (cA, 120, .inl gI)), (xL, .inl (cA, 120, .inl gL)), (xO, .inl (cA, 400, .inl gO)), (xK, .inl (cA, 120, .inl gK)), (xR, .inl (cA, 121, .inl gR)), (xW, .inl (cA, 1000, .inl gW2))]) := by
  refine KV.of (by decide) (Nat.le_of_ble_eq_true rfl) ?_
  intro p e s m args below meth c Q R A ls Xf hR hA hS hP hD hK hn hl ret
  have hx := Xf.1
  have hb := Xf.2.1
  have hown : s.vm.findClass "ScalarScribeModel" = some m.cls := Xf.2.2.2.1
  have hw := Xf.2.2.2.2
  have hl : lv_has ls 9 [(0, .ref mo), (1, .long (lN d))] := hl
  have hwn := wnum_len (b := bi) (d := d) (by omega)
  have hlw : (w.map nI).length = w.length := List.length_map _
  refine lv_lload_n hx hb dMo_writeNumber_0 rfl (lv_at hl 1 rfl) ?_
  refine lv_lstore_n (lv' := [(3, .long (lN d)), (0, .ref mo), (1, .long (lN d))]) hx hb dMo_writeNumber_1 rfl hl (by decide) rfl (fun ls hl => ?_)
  refine lv_iconst (v := nI 1) hx hb dMo_writeNumber_2 (by decide) ?_
  refine lv_aload_n hx hb dMo_writeNumber_3 rfl (lv_at hl 1 rfl) ?_
  refine va_get (D := D) (ci := 5) (v := .int (nI bi)) (C := R_Mo) (T := T_Mo) (N := 19) hx hb hw in_Mo hown hK hP 0 rfl rfl 16 (by decide) (hw _ w_380) (fun _ h9 => h9) rfl dMo_writeNumber_4 ?_
  refine ca_i (wr := [(mo, .inr (5, [.int (nI I.length), .ref xI, .int (nI L.length), .ref xL, .int (nI O.length), .ref xO, .int (nI K.length), .ref xK, .int md, .ref xR, .int (nI ((w.map nI).length)), .ref xW, .int at_, .long nu, .long vl, .long pc_, .int (nI bi), .int tk, .int gd])), (xI, .inl (cA, 120, .inl gI)), (xL, .inl (cA, 120, .inl gL)), (xO, .inl (cA, 400, .inl gO)), (xK, .inl (cA, 120, .inl gK)), (xR, .inl (cA, 121, .inl gR)), (xW, .inl (cA, 1000, .inl gW))]) (va_runS (As := [.int (nI 1), .int (nI bi)]) (rest := []) Xf (k_Mo_threshold l D cA _ 1 bi (by omega) (by omega)) ⟨cb_of 2 hw w_500 w_7 w_498 (by decide +kernel) (by rw [hR]; exact ⟨Nat.le_of_ble_eq_true rfl, Nat.le_of_ble_eq_true rfl⟩), hw _ w_499⟩ (pre_S hP hD hK hn [] rfl (by decide)) rfl rfl hl.1 rfl (lv_room (Nat.le_of_ble_eq_true rfl)) dMo_writeNumber_7 ⟨Nat.zero_le _, Nat.zero_le _⟩) hP hD hS hA [] [0, 1, 2, 3, 4, 5, 6] rfl rfl (by decide) (by decide) (fun r7 u_ H locs hq_ hP hD hS => ?_)
  obtain rfl : r7 = nI (thN bi 1) := hq_
  have hth7 := thN_b bi 1
  replace hP : va_P D vwCl [(mo, .inr (5, [.int (nI I.length), .ref xI, .int (nI L.length), .ref xL, .int (nI O.length), .ref xO, .int (nI K.length), .ref xK, .int md, .ref xR, .int (nI ((w.map nI).length)), .ref xW, .int at_, .long nu, .long vl, .long pc_, .int (nI bi), .int tk, .int gd])), (xI, .inl (cA, 120, .inl gI)), (xL, .inl (cA, 120, .inl gL)), (xO, .inl (cA, 400, .inl gO)), (xK, .inl (cA, 120, .inl gK)), (xR, .inl (cA, 121, .inl gR)), (xW, .inl (cA, 1000, .inl gW))] H := hP.sub [0, 1, 2, 3, 4, 5, 6] rfl
  replace hD : va_D A [(mo, .inr (5, [.int (nI I.length), .ref xI, .int (nI L.length), .ref xL, .int (nI O.length), .ref xO, .int (nI K.length), .ref xK, .int md, .ref xR, .int (nI ((w.map nI).length)), .ref xW, .int at_, .long nu, .long vl, .long pc_, .int (nI bi), .int tk, .int gd])), (xI, .inl (cA, 120, .inl gI)), (xL, .inl (cA, 120, .inl gL)), (xO, .inl (cA, 400, .inl gO)), (xK, .inl (cA, 120, .inl gK)), (xR, .inl (cA, 121, .inl gR)), (xW, .inl (cA, 1000, .inl gW))] := hD.sub [0, 1, 2, 3, 4, 5, 6] (by decide) rfl
  refine lv_istore (lv' := [(5, .int (nI (thN bi 1))), (3, .long (lN d)), (0, .ref mo), (1, .long (lN d))]) hx hb dMo_writeNumber_10 hl (by decide) rfl (fun ls hl => ?_)
  refine lv_iconst (v := nI 1) hx hb dMo_writeNumber_12 (by decide) ?_
  refine lv_istore (lv' := [(6, .int (nI 1)), (5, .int (nI (thN bi 1))), (3, .long (lN d)), (0, .ref mo), (1, .long (lN d))]) hx hb dMo_writeNumber_13 hl (by decide) rfl (fun ls hl => ?_)
  have loop1 : ∀ (n_ : Nat) (k : Nat) (rs : Nat) (W1 : List Nat) (hW_ : Nat → Int32) (kf : Nat) (ep : Nat) (ls : Array Slot) (H : Heap) (locs : List Loc), kf < n_ → Hw hW_ (W1.map nI) → W1 ++ wn bi kf k rs = w ++ wnum bi d → rs < kf → rs < 10 ^ ep → k + ep ≤ 12 → rs ≤ d → lv_has ls 9 [(6, .int (nI k)), (5, .int (nI (thN bi k))), (3, .long (lN rs)), (0, .ref mo)] → va_P D vwCl [(mo, .inr (5, [.int (nI I.length), .ref xI, .int (nI L.length), .ref xL, .int (nI O.length), .ref xO, .int (nI K.length), .ref xK, .int md, .ref xR, .int (nI ((W1.map nI).length)), .ref xW, .int at_, .long nu, .long vl, .long pc_, .int (nI bi), .int tk, .int gd])), (xI, .inl (cA, 120, .inl gI)), (xL, .inl (cA, 120, .inl gL)), (xO, .inl (cA, 400, .inl gO)), (xK, .inl (cA, 120, .inl gK)), (xR, .inl (cA, 121, .inl gR)), (xW, .inl (cA, 1000, .inl hW_))] H → va_D A [(mo, .inr (5, [.int (nI I.length), .ref xI, .int (nI L.length), .ref xL, .int (nI O.length), .ref xO, .int (nI K.length), .ref xK, .int md, .ref xR, .int (nI ((W1.map nI).length)), .ref xW, .int at_, .long nu, .long vl, .long pc_, .int (nI bi), .int tk, .int gd])), (xI, .inl (cA, 120, .inl gI)), (xL, .inl (cA, 120, .inl gL)), (xO, .inl (cA, 400, .inl gO)), (xK, .inl (cA, 120, .inl gK)), (xR, .inl (cA, 121, .inl gR)), (xW, .inl (cA, 1000, .inl hW_))] → va_S A s.heap H locs → W p l e R s m args below meth c H locs 0 0 Q (F0 m 15 ls []) := by
    intro n_
    induction n_ with
    | zero => intro k rs W1 hW_ kf ep ls H locs hm_; exact absurd hm_ (Nat.not_lt_zero _)
    | succ n_ ih_loop1 =>
      intro k rs W1 hW_ kf ep ls H locs hm_ hW hF hkf hep hke hrd hl hP hD hS
      refine lv_lload_n hx hb dMo_writeNumber_15 rfl (lv_at hl 2 rfl) ?_
      refine lv_iload hx hb dMo_writeNumber_16 (lv_at hl 1 rfl) ?_
      have hth := thN_b bi k
      obtain ⟨k2, rfl⟩ : ∃ k2, kf = k2 + 1 := ⟨kf - 1, by omega⟩
      have hle := congrArg List.length hF
      simp only [List.length_append] at hle
      have hlm : (W1.map nI).length = W1.length := List.length_map _
      refine lv_i2l (v := lN (thN bi k)) hx hb dMo_writeNumber_18 (nI_l (by omega)) ?_
      refine W.lcmp hx hb dMo_writeNumber_19 ?_
      refine lv_if_lt (tgt := 83) hx hb dMo_writeNumber_20 (by decide) (fun h20 => ?_) (fun h20 => ?_)
      · skip
        replace h20 := lc_lt (a := rs) (b := thN bi k) (by omega) (by omega) h20
        refine lv_aload_n hx hb dMo_writeNumber_83 rfl (lv_at hl 3 rfl) ?_
        refine lv_lload_n hx hb dMo_writeNumber_84 rfl (lv_at hl 2 rfl) ?_
        refine lv_l2i (v := nI rs) hx hb dMo_writeNumber_85 (lN_i _) ?_
        refine ca_i (wr := [(mo, .inr (5, [.int (nI I.length), .ref xI, .int (nI L.length), .ref xL, .int (nI O.length), .ref xO, .int (nI K.length), .ref xK, .int md, .ref xR, .int (nI ((W1.map nI).length)), .ref xW, .int at_, .long nu, .long vl, .long pc_, .int (nI bi), .int tk, .int gd])), (xI, .inl (cA, 120, .inl gI)), (xL, .inl (cA, 120, .inl gL)), (xO, .inl (cA, 400, .inl gO)), (xK, .inl (cA, 120, .inl gK)), (xR, .inl (cA, 121, .inl gR)), (xW, .inl (cA, 1000, .inl hW_))]) (va_runS (As := [.int (nI rs)]) (rest := [.ref mo]) Xf (k_Mo_sign l D cA _ rs (by omega)) ⟨cb_of 1 hw w_551 w_7 w_549 (by decide +kernel) (by rw [hR]; exact ⟨Nat.le_of_ble_eq_true rfl, Nat.le_of_ble_eq_true rfl⟩), hw _ w_550⟩ (pre_S hP hD hK hn [] rfl (by decide)) rfl rfl hl.1 rfl (lv_room (Nat.le_of_ble_eq_true rfl)) dMo_writeNumber_86 ⟨Nat.zero_le _, Nat.zero_le _⟩) hP hD hS hA [] [0, 1, 2, 3, 4, 5, 6] rfl rfl (by decide) (by decide) (fun r86 u_ H locs hq_ hP hD hS => ?_)
        obtain rfl : r86 = nI (sg rs) := hq_
        replace hP : va_P D vwCl [(mo, .inr (5, [.int (nI I.length), .ref xI, .int (nI L.length), .ref xL, .int (nI O.length), .ref xO, .int (nI K.length), .ref xK, .int md, .ref xR, .int (nI ((W1.map nI).length)), .ref xW, .int at_, .long nu, .long vl, .long pc_, .int (nI bi), .int tk, .int gd])), (xI, .inl (cA, 120, .inl gI)), (xL, .inl (cA, 120, .inl gL)), (xO, .inl (cA, 400, .inl gO)), (xK, .inl (cA, 120, .inl gK)), (xR, .inl (cA, 121, .inl gR)), (xW, .inl (cA, 1000, .inl hW_))] H := hP.sub [0, 1, 2, 3, 4, 5, 6] rfl
        replace hD : va_D A [(mo, .inr (5, [.int (nI I.length), .ref xI, .int (nI L.length), .ref xL, .int (nI O.length), .ref xO, .int (nI K.length), .ref xK, .int md, .ref xR, .int (nI ((W1.map nI).length)), .ref xW, .int at_, .long nu, .long vl, .long pc_, .int (nI bi), .int tk, .int gd])), (xI, .inl (cA, 120, .inl gI)), (xL, .inl (cA, 120, .inl gL)), (xO, .inl (cA, 400, .inl gO)), (xK, .inl (cA, 120, .inl gK)), (xR, .inl (cA, 121, .inl gR)), (xW, .inl (cA, 1000, .inl hW_))] := hD.sub [0, 1, 2, 3, 4, 5, 6] (by decide) rfl
        refine ca_v (wr := []) (va_runV (As := [.int (nI (sg rs))]) (rest := []) Xf (k_Mo_put l D cA _ mo xI xL xO xK xR xW I L O K gI gL gO gK gR hW_ md at_ nu vl pc_ (nI bi) tk gd (W1.map nI) (nI (sg rs)) hfI hcI hfL hcL hfO hcO hfK hcK hW (by omega)) ⟨cb_of 1 hw w_527 w_7 w_524 (by decide +kernel) (by rw [hR]; exact ⟨Nat.le_of_ble_eq_true rfl, Nat.le_of_ble_eq_true rfl⟩), hw _ w_526, hw _ ws_22⟩ (pre_V (As := [.int (nI (sg rs))]) hP hD hK hn [0, 1, 2, 3, 4, 5, 6] rfl (by decide) 0 5 rfl rfl) rfl rfl hl.1 rfl (lv_room (Nat.le_of_ble_eq_true rfl)) dMo_writeNumber_89 ⟨Nat.zero_le _, Nat.zero_le _⟩) hP hD hS hA [0, 1, 2, 3, 4, 5, 6] [] rfl rfl (by decide) (by decide) (fun u_ H locs hq_ hP hD hS => ?_)
        obtain ⟨gW1, hgW1⟩ : ∃ z, z = u_ := ⟨_, rfl⟩
        rw [← hgW1] at hP hD hq_
        have hW1 := hq_
        replace hP : va_P D vwCl [(mo, .inr (5, [.int (nI I.length), .ref xI, .int (nI L.length), .ref xL, .int (nI O.length), .ref xO, .int (nI K.length), .ref xK, .int md, .ref xR, .int (nI (((W1.map nI) ++ [nI (sg rs)]).length)), .ref xW, .int at_, .long nu, .long vl, .long pc_, .int (nI bi), .int tk, .int gd])), (xI, .inl (cA, 120, .inl gI)), (xL, .inl (cA, 120, .inl gL)), (xO, .inl (cA, 400, .inl gO)), (xK, .inl (cA, 120, .inl gK)), (xR, .inl (cA, 121, .inl gR)), (xW, .inl (cA, 1000, .inl gW1))] H := hP.sub [0, 1, 2, 3, 4, 5, 6] rfl
        replace hD : va_D A [(mo, .inr (5, [.int (nI I.length), .ref xI, .int (nI L.length), .ref xL, .int (nI O.length), .ref xO, .int (nI K.length), .ref xK, .int md, .ref xR, .int (nI (((W1.map nI) ++ [nI (sg rs)]).length)), .ref xW, .int at_, .long nu, .long vl, .long pc_, .int (nI bi), .int tk, .int gd])), (xI, .inl (cA, 120, .inl gI)), (xL, .inl (cA, 120, .inl gL)), (xO, .inl (cA, 400, .inl gO)), (xK, .inl (cA, 120, .inl gK)), (xR, .inl (cA, 121, .inl gR)), (xW, .inl (cA, 1000, .inl gW1))] := hD.sub [0, 1, 2, 3, 4, 5, 6] (by decide) rfl
        have hz : W1 ++ [sg rs] = w ++ wnum bi d := by rw [← hF, wn_e h20]
        rw [map_snoc, hz] at hP hD hW1
        exact ret gW1 dMo_writeNumber_92 hW1 hP hD hS
      · skip
        replace h20 := lc_nlt (a := rs) (b := thN bi k) (by omega) (by omega) h20
        have hdl := dv_le hth.1 hth.2 h20
        have hmo : (rs - thN bi k) % (36 - thN bi k) < 36 - thN bi k := Nat.mod_lt _ (by omega)
        refine lv_iload hx hb dMo_writeNumber_23 (lv_at hl 1 rfl) ?_
        refine lv_i2l (v := lN (thN bi k)) hx hb dMo_writeNumber_25 (nI_l (by omega)) ?_
        refine lv_lload_n hx hb dMo_writeNumber_26 rfl (lv_at hl 2 rfl) ?_
        refine lv_iload hx hb dMo_writeNumber_27 (lv_at hl 1 rfl) ?_
        refine lv_i2l (v := lN (thN bi k)) hx hb dMo_writeNumber_29 (nI_l (by omega)) ?_
        refine lv_lsub hx hb dMo_writeNumber_30 ?_
        refine lv_rel (y := lN (rs - (thN bi k))) (lN_sub (by omega)) ?_
        refine lv_bipush (v := nI 36) hx hb dMo_writeNumber_31 (by decide) ?_
        refine lv_iload hx hb dMo_writeNumber_33 (lv_at hl 1 rfl) ?_
        refine lv_isub hx hb dMo_writeNumber_35 ?_
        refine lv_rei (y := nI (36 - (thN bi k))) (pk_sub (by omega)) ?_
        refine lv_i2l (v := lN (36 - (thN bi k))) hx hb dMo_writeNumber_36 (nI_l (by omega)) ?_
        refine lv_lrem hx hb dMo_writeNumber_37 (lN_ne0 (by omega) (by omega)) ?_
        refine lv_rel (y := lN ((rs - (thN bi k)) % (36 - (thN bi k)))) (pk_lRem (by omega) (by omega) (by omega)) ?_
        refine lv_ladd hx hb dMo_writeNumber_38 ?_
        refine lv_rel (y := lN (thN bi k + ((rs - (thN bi k)) % (36 - (thN bi k))))) (lN_add _ _) ?_
        refine lv_lstore (lv' := [(7, .long (lN (thN bi k + ((rs - (thN bi k)) % (36 - (thN bi k)))))), (6, .int (nI k)), (5, .int (nI (thN bi k))), (3, .long (lN rs)), (0, .ref mo)]) hx hb dMo_writeNumber_39 hl (by decide) rfl (fun ls hl => ?_)
        refine lv_lload_n hx hb dMo_writeNumber_41 rfl (lv_at hl 3 rfl) ?_
        refine lv_iload hx hb dMo_writeNumber_42 (lv_at hl 2 rfl) ?_
        refine lv_i2l (v := lN (thN bi k)) hx hb dMo_writeNumber_44 (nI_l (by omega)) ?_
        refine lv_lsub hx hb dMo_writeNumber_45 ?_
        refine lv_rel (y := lN (rs - (thN bi k))) (lN_sub (by omega)) ?_
        refine lv_bipush (v := nI 36) hx hb dMo_writeNumber_46 (by decide) ?_
        refine lv_iload hx hb dMo_writeNumber_48 (lv_at hl 2 rfl) ?_
        refine lv_isub hx hb dMo_writeNumber_50 ?_
        refine lv_rei (y := nI (36 - (thN bi k))) (pk_sub (by omega)) ?_
        refine lv_i2l (v := lN (36 - (thN bi k))) hx hb dMo_writeNumber_51 (nI_l (by omega)) ?_
        refine lv_ldiv hx hb dMo_writeNumber_52 (lN_ne0 (by omega) (by omega)) ?_
        refine lv_rel (y := lN ((rs - (thN bi k)) / (36 - (thN bi k)))) (pk_lDiv (by omega) (by omega) (by omega)) ?_
        refine lv_lstore_n (lv' := [(3, .long (lN ((rs - (thN bi k)) / (36 - (thN bi k))))), (7, .long (lN (thN bi k + ((rs - (thN bi k)) % (36 - (thN bi k)))))), (6, .int (nI k)), (5, .int (nI (thN bi k))), (0, .ref mo)]) hx hb dMo_writeNumber_53 rfl hl (by decide) rfl (fun ls hl => ?_)
        refine lv_aload_n hx hb dMo_writeNumber_54 rfl (lv_at hl 4 rfl) ?_
        refine lv_lload hx hb dMo_writeNumber_55 (lv_at hl 1 rfl) ?_
        refine lv_l2i (v := nI (thN bi k + ((rs - (thN bi k)) % (36 - (thN bi k))))) hx hb dMo_writeNumber_57 (lN_i _) ?_
        refine ca_i (wr := [(mo, .inr (5, [.int (nI I.length), .ref xI, .int (nI L.length), .ref xL, .int (nI O.length), .ref xO, .int (nI K.length), .ref xK, .int md, .ref xR, .int (nI ((W1.map nI).length)), .ref xW, .int at_, .long nu, .long vl, .long pc_, .int (nI bi), .int tk, .int gd])), (xI, .inl (cA, 120, .inl gI)), (xL, .inl (cA, 120, .inl gL)), (xO, .inl (cA, 400, .inl gO)), (xK, .inl (cA, 120, .inl gK)), (xR, .inl (cA, 121, .inl gR)), (xW, .inl (cA, 1000, .inl hW_))]) (va_runS (As := [.int (nI (thN bi k + ((rs - (thN bi k)) % (36 - (thN bi k)))))]) (rest := [.ref mo]) Xf (k_Mo_sign l D cA _ (thN bi k + ((rs - (thN bi k)) % (36 - (thN bi k)))) (by omega)) ⟨cb_of 1 hw w_551 w_7 w_549 (by decide +kernel) (by rw [hR]; exact ⟨Nat.le_of_ble_eq_true rfl, Nat.le_of_ble_eq_true rfl⟩), hw _ w_550⟩ (pre_S hP hD hK hn [] rfl (by decide)) rfl rfl hl.1 rfl (lv_room (Nat.le_of_ble_eq_true rfl)) dMo_writeNumber_58 ⟨Nat.zero_le _, Nat.zero_le _⟩) hP hD hS hA [] [0, 1, 2, 3, 4, 5, 6] rfl rfl (by decide) (by decide) (fun r58 u_ H locs hq_ hP hD hS => ?_)
        obtain rfl : r58 = nI (sg (thN bi k + ((rs - (thN bi k)) % (36 - (thN bi k))))) := hq_
        replace hP : va_P D vwCl [(mo, .inr (5, [.int (nI I.length), .ref xI, .int (nI L.length), .ref xL, .int (nI O.length), .ref xO, .int (nI K.length), .ref xK, .int md, .ref xR, .int (nI ((W1.map nI).length)), .ref xW, .int at_, .long nu, .long vl, .long pc_, .int (nI bi), .int tk, .int gd])), (xI, .inl (cA, 120, .inl gI)), (xL, .inl (cA, 120, .inl gL)), (xO, .inl (cA, 400, .inl gO)), (xK, .inl (cA, 120, .inl gK)), (xR, .inl (cA, 121, .inl gR)), (xW, .inl (cA, 1000, .inl hW_))] H := hP.sub [0, 1, 2, 3, 4, 5, 6] rfl
        replace hD : va_D A [(mo, .inr (5, [.int (nI I.length), .ref xI, .int (nI L.length), .ref xL, .int (nI O.length), .ref xO, .int (nI K.length), .ref xK, .int md, .ref xR, .int (nI ((W1.map nI).length)), .ref xW, .int at_, .long nu, .long vl, .long pc_, .int (nI bi), .int tk, .int gd])), (xI, .inl (cA, 120, .inl gI)), (xL, .inl (cA, 120, .inl gL)), (xO, .inl (cA, 400, .inl gO)), (xK, .inl (cA, 120, .inl gK)), (xR, .inl (cA, 121, .inl gR)), (xW, .inl (cA, 1000, .inl hW_))] := hD.sub [0, 1, 2, 3, 4, 5, 6] (by decide) rfl
        refine ca_v (wr := []) (va_runV (As := [.int (nI (sg (thN bi k + ((rs - (thN bi k)) % (36 - (thN bi k))))))]) (rest := []) Xf (k_Mo_put l D cA _ mo xI xL xO xK xR xW I L O K gI gL gO gK gR hW_ md at_ nu vl pc_ (nI bi) tk gd (W1.map nI) (nI (sg (thN bi k + ((rs - (thN bi k)) % (36 - (thN bi k)))))) hfI hcI hfL hcL hfO hcO hfK hcK hW (by omega)) ⟨cb_of 1 hw w_527 w_7 w_524 (by decide +kernel) (by rw [hR]; exact ⟨Nat.le_of_ble_eq_true rfl, Nat.le_of_ble_eq_true rfl⟩), hw _ w_526, hw _ ws_22⟩ (pre_V (As := [.int (nI (sg (thN bi k + ((rs - (thN bi k)) % (36 - (thN bi k))))))]) hP hD hK hn [0, 1, 2, 3, 4, 5, 6] rfl (by decide) 0 5 rfl rfl) rfl rfl hl.1 rfl (lv_room (Nat.le_of_ble_eq_true rfl)) dMo_writeNumber_61 ⟨Nat.zero_le _, Nat.zero_le _⟩) hP hD hS hA [0, 1, 2, 3, 4, 5, 6] [] rfl rfl (by decide) (by decide) (fun u_ H locs hq_ hP hD hS => ?_)
        obtain ⟨gW2, hgW2⟩ : ∃ z, z = u_ := ⟨_, rfl⟩
        rw [← hgW2] at hP hD hq_
        have hW2 := hq_
        replace hP : va_P D vwCl [(mo, .inr (5, [.int (nI I.length), .ref xI, .int (nI L.length), .ref xL, .int (nI O.length), .ref xO, .int (nI K.length), .ref xK, .int md, .ref xR, .int (nI (((W1.map nI) ++ [nI (sg (thN bi k + ((rs - (thN bi k)) % (36 - (thN bi k)))))]).length)), .ref xW, .int at_, .long nu, .long vl, .long pc_, .int (nI bi), .int tk, .int gd])), (xI, .inl (cA, 120, .inl gI)), (xL, .inl (cA, 120, .inl gL)), (xO, .inl (cA, 400, .inl gO)), (xK, .inl (cA, 120, .inl gK)), (xR, .inl (cA, 121, .inl gR)), (xW, .inl (cA, 1000, .inl gW2))] H := hP.sub [0, 1, 2, 3, 4, 5, 6] rfl
        replace hD : va_D A [(mo, .inr (5, [.int (nI I.length), .ref xI, .int (nI L.length), .ref xL, .int (nI O.length), .ref xO, .int (nI K.length), .ref xK, .int md, .ref xR, .int (nI (((W1.map nI) ++ [nI (sg (thN bi k + ((rs - (thN bi k)) % (36 - (thN bi k)))))]).length)), .ref xW, .int at_, .long nu, .long vl, .long pc_, .int (nI bi), .int tk, .int gd])), (xI, .inl (cA, 120, .inl gI)), (xL, .inl (cA, 120, .inl gL)), (xO, .inl (cA, 400, .inl gO)), (xK, .inl (cA, 120, .inl gK)), (xR, .inl (cA, 121, .inl gR)), (xW, .inl (cA, 1000, .inl gW2))] := hD.sub [0, 1, 2, 3, 4, 5, 6] (by decide) rfl
        refine lv_iload hx hb dMo_writeNumber_64 (lv_at hl 2 rfl) ?_
        refine lv_iconst (v := nI 1) hx hb dMo_writeNumber_66 (by decide) ?_
        refine lv_iadd hx hb dMo_writeNumber_67 ?_
        refine lv_rei (y := nI (k + 1)) (nI_add _ _) ?_
        refine lv_aload_n hx hb dMo_writeNumber_68 rfl (lv_at hl 4 rfl) ?_
        refine va_get (D := D) (ci := 5) (v := .int (nI bi)) (C := R_Mo) (T := T_Mo) (N := 19) hx hb hw in_Mo hown hK hP 0 rfl rfl 16 (by decide) (hw _ w_380) (fun _ h9 => h9) rfl dMo_writeNumber_69 ?_
        refine ca_i (wr := [(mo, .inr (5, [.int (nI I.length), .ref xI, .int (nI L.length), .ref xL, .int (nI O.length), .ref xO, .int (nI K.length), .ref xK, .int md, .ref xR, .int (nI (((W1.map nI) ++ [nI (sg (thN bi k + ((rs - (thN bi k)) % (36 - (thN bi k)))))]).length)), .ref xW, .int at_, .long nu, .long vl, .long pc_, .int (nI bi), .int tk, .int gd])), (xI, .inl (cA, 120, .inl gI)), (xL, .inl (cA, 120, .inl gL)), (xO, .inl (cA, 400, .inl gO)), (xK, .inl (cA, 120, .inl gK)), (xR, .inl (cA, 121, .inl gR)), (xW, .inl (cA, 1000, .inl gW2))]) (va_runS (As := [.int (nI (k + 1)), .int (nI bi)]) (rest := []) Xf (k_Mo_threshold l D cA _ (k + 1) bi (by omega) (by omega)) ⟨cb_of 2 hw w_500 w_7 w_498 (by decide +kernel) (by rw [hR]; exact ⟨Nat.le_of_ble_eq_true rfl, Nat.le_of_ble_eq_true rfl⟩), hw _ w_499⟩ (pre_S hP hD hK hn [] rfl (by decide)) rfl rfl hl.1 rfl (lv_room (Nat.le_of_ble_eq_true rfl)) dMo_writeNumber_72 ⟨Nat.zero_le _, Nat.zero_le _⟩) hP hD hS hA [] [0, 1, 2, 3, 4, 5, 6] rfl rfl (by decide) (by decide) (fun r72 u_ H locs hq_ hP hD hS => ?_)
        obtain rfl : r72 = nI (thN bi (k + 1)) := hq_
        have hth72 := thN_b bi (k + 1)
        replace hP : va_P D vwCl [(mo, .inr (5, [.int (nI I.length), .ref xI, .int (nI L.length), .ref xL, .int (nI O.length), .ref xO, .int (nI K.length), .ref xK, .int md, .ref xR, .int (nI (((W1.map nI) ++ [nI (sg (thN bi k + ((rs - (thN bi k)) % (36 - (thN bi k)))))]).length)), .ref xW, .int at_, .long nu, .long vl, .long pc_, .int (nI bi), .int tk, .int gd])), (xI, .inl (cA, 120, .inl gI)), (xL, .inl (cA, 120, .inl gL)), (xO, .inl (cA, 400, .inl gO)), (xK, .inl (cA, 120, .inl gK)), (xR, .inl (cA, 121, .inl gR)), (xW, .inl (cA, 1000, .inl gW2))] H := hP.sub [0, 1, 2, 3, 4, 5, 6] rfl
        replace hD : va_D A [(mo, .inr (5, [.int (nI I.length), .ref xI, .int (nI L.length), .ref xL, .int (nI O.length), .ref xO, .int (nI K.length), .ref xK, .int md, .ref xR, .int (nI (((W1.map nI) ++ [nI (sg (thN bi k + ((rs - (thN bi k)) % (36 - (thN bi k)))))]).length)), .ref xW, .int at_, .long nu, .long vl, .long pc_, .int (nI bi), .int tk, .int gd])), (xI, .inl (cA, 120, .inl gI)), (xL, .inl (cA, 120, .inl gL)), (xO, .inl (cA, 400, .inl gO)), (xK, .inl (cA, 120, .inl gK)), (xR, .inl (cA, 121, .inl gR)), (xW, .inl (cA, 1000, .inl gW2))] := hD.sub [0, 1, 2, 3, 4, 5, 6] (by decide) rfl
        refine lv_istore (lv' := [(5, .int (nI (thN bi (k + 1)))), (3, .long (lN ((rs - (thN bi k)) / (36 - (thN bi k))))), (7, .long (lN (thN bi k + ((rs - (thN bi k)) % (36 - (thN bi k)))))), (6, .int (nI k)), (0, .ref mo)]) hx hb dMo_writeNumber_75 hl (by decide) rfl (fun ls hl => ?_)
        refine lv_iinc (k := 3) (v := nI (k + 1)) (lv' := [(6, .int (nI (k + 1))), (5, .int (nI (thN bi (k + 1)))), (3, .long (lN ((rs - (thN bi k)) / (36 - (thN bi k))))), (7, .long (lN (thN bi k + ((rs - (thN bi k)) % (36 - (thN bi k)))))), (0, .ref mo)]) hx hb dMo_writeNumber_77 hl rfl (nI_1 _) (by decide) rfl (fun ls hl => ?_)
        refine lv_goto (tgt := 15) hx hb dMo_writeNumber_80 (by decide) ?_
        rw [map_snoc] at hP hD hW2
        obtain ⟨e2, rfl⟩ : ∃ e2, ep = e2 + 1 := by
          cases ep with
          | zero => rw [Nat.pow_zero] at hep; omega
          | succ e2 => exact ⟨e2, rfl⟩
        rw [Nat.pow_succ] at hep
        exact ih_loop1 (k + 1) ((rs - thN bi k) / (36 - thN bi k)) (W1 ++ [sg (thN bi k + (rs - thN bi k) % (36 - thN bi k))]) gW2 k2 e2 _ _ _ (by omega) hW2 (by rw [← hF, wn_s h20, List.append_assoc]; rfl) (by omega) (dv_lt hth.1 hth.2 hep) (by omega) (by omega) (lv_sub hl [0, 1, 2, 4] rfl) hP hD hS
  exact loop1 _ 1 d w gW (d + 1) 10 _ _ _ (Nat.lt_succ_self _) hW rfl (Nat.lt_succ_self _) (by omega) (by omega) (Nat.le_refl _) (lv_sub hl [0, 1, 2, 3] rfl) hP hD hS
set_option maxHeartbeats 4000000 in
set_option maxRecDepth 100000 in
theorem k_Mo_leastFrom (l : Launch) (D : va_G) (cA : ClassId) (sz : Nat) (mo xI xL xO xK xR xW : Nat) (I O K : List Int32) (gI gL gO gK gR gW : Nat → Int32) (md wr at_ : Int32) (nu vl pc_ : Int64) (bs tk gd : Int32) (M : List Nat) (v0 : Nat) (hfI : Hd gI I) (hcI : I.length ≤ 120) (hfL : Hd gL (M.map nI)) (hcL : (M.map nI).length ≤ 120) (hfO : Hd gO O) (hcO : O.length ≤ 400) (hfK : Hd gK K) (hcK : K.length ≤ 120) (hMb : ∀ x ∈ M, x ≤ 1114111) (hv0 : v0 < 2 ^ 31) : KI l D cA y_Mo_leastFrom c_Mo_leastFrom 4 .int 0 0 [.ref mo, .int (nI v0)] sz [(mo, .inr (5, [.int (nI I.length), .ref xI, .int (nI ((M.map nI).length)), .ref xL, .int (nI O.length), .ref xO, .int (nI K.length), .ref xK, .int md, .ref xR, .int wr, .ref xW, .int at_, .long nu, .long vl, .long pc_, .int bs, .int tk, .int gd])), (xI, .inl (cA, 120, .inl gI)), (xL, .inl (cA, 120, .inl gL)), (xO, .inl (cA, 400, .inl gO)), (xK, .inl (cA, 120, .inl gK)), (xR, .inl (cA, 121, .inl gR)), (xW, .inl (cA, 1000, .inl gW))] (S := Unit) (fun r _ => r = ov (lfG M v0 M.length)) (fun _ => [(mo, .inr (5, [.int (nI I.length), .ref xI, .int (nI ((M.map nI).length)), .ref xL, .int (nI O.length), .ref xO, .int (nI K.length), .ref xK, .int md, .ref xR, .int wr, .ref xW, .int at_, .long nu, .long vl, .long pc_, .int bs, .int tk, .int gd])), (xI, .inl (cA, 120, .inl gI)), (xL, .inl (cA, 120, .inl gL)), (xO, .inl (cA, 400, .inl gO)), (xK, .inl (cA, 120, .inl gK)), (xR, .inl (cA, 121, .inl gR)), (xW, .inl (cA, 1000, .inl gW))]) := by
  refine KI.of (by decide) (Nat.le_of_ble_eq_true rfl) ?_
  intro p e s m args below meth c Q R A ls Xf hR hA hS hP hD hK hn hl ret
  have hx := Xf.1
  have hb := Xf.2.1
  have hown : s.vm.findClass "ScalarScribeModel" = some m.cls := Xf.2.2.2.1
  have hw := Xf.2.2.2.2
  have hl : lv_has ls 4 [(0, .ref mo), (1, .int (nI v0))] := hl
  have hcM : M.length ≤ 120 := by rw [List.length_map] at hcL; exact hcL
  refine lv_iconst (v := (-1)) hx hb dMo_leastFrom_0 (by decide) ?_
  refine lv_istore_n (lv' := [(2, .int (-1)), (0, .ref mo), (1, .int (nI v0))]) hx hb dMo_leastFrom_1 rfl hl (by decide) rfl (fun ls hl => ?_)
  refine lv_iconst (v := nI 0) hx hb dMo_leastFrom_2 (by decide) ?_
  refine lv_istore_n (lv' := [(3, .int (nI 0)), (2, .int (-1)), (0, .ref mo), (1, .int (nI v0))]) hx hb dMo_leastFrom_3 rfl hl (by decide) rfl (fun ls hl => ?_)
  have loop1 : ∀ (n_ : Nat) (i : Nat) (ls : Array Slot) (H : Heap) (locs : List Loc), M.length - i < n_ → i ≤ M.length → lv_has ls 4 [(3, .int (nI i)), (2, .int (ov (lfG M v0 i))), (0, .ref mo), (1, .int (nI v0))] → va_P D vwCl [(mo, .inr (5, [.int (nI I.length), .ref xI, .int (nI ((M.map nI).length)), .ref xL, .int (nI O.length), .ref xO, .int (nI K.length), .ref xK, .int md, .ref xR, .int wr, .ref xW, .int at_, .long nu, .long vl, .long pc_, .int bs, .int tk, .int gd])), (xI, .inl (cA, 120, .inl gI)), (xL, .inl (cA, 120, .inl gL)), (xO, .inl (cA, 400, .inl gO)), (xK, .inl (cA, 120, .inl gK)), (xR, .inl (cA, 121, .inl gR)), (xW, .inl (cA, 1000, .inl gW))] H → va_D A [(mo, .inr (5, [.int (nI I.length), .ref xI, .int (nI ((M.map nI).length)), .ref xL, .int (nI O.length), .ref xO, .int (nI K.length), .ref xK, .int md, .ref xR, .int wr, .ref xW, .int at_, .long nu, .long vl, .long pc_, .int bs, .int tk, .int gd])), (xI, .inl (cA, 120, .inl gI)), (xL, .inl (cA, 120, .inl gL)), (xO, .inl (cA, 400, .inl gO)), (xK, .inl (cA, 120, .inl gK)), (xR, .inl (cA, 121, .inl gR)), (xW, .inl (cA, 1000, .inl gW))] → va_S A s.heap H locs → W p l e R s m args below meth c H locs 0 0 Q (F0 m 4 ls []) := by
    intro n_
    induction n_ with
    | zero => intro i ls H locs hm_; exact absurd hm_ (Nat.not_lt_zero _)
    | succ n_ ih_loop1 =>
      intro i ls H locs hm_ hi hl hP hD hS
      refine lv_iload_n hx hb dMo_leastFrom_4 rfl (lv_at hl 0 rfl) ?_
      refine lv_aload_n hx hb dMo_leastFrom_5 rfl (lv_at hl 2 rfl) ?_
      refine va_get (D := D) (ci := 5) (v := .int (nI ((M.map nI).length))) (C := R_Mo) (T := T_Mo) (N := 19) hx hb hw in_Mo hown hK hP 0 rfl rfl 2 (by decide) (hw _ w_366) (fun _ h9 => h9) rfl dMo_leastFrom_6 ?_
      refine lv_icmp_ge (tgt := 53) hx hb dMo_leastFrom_9 (by decide) (fun h9 => ?_) (fun h9 => ?_)
      · skip
        replace h9 := nt_le (a := (M.map nI).length) (b := i) (by omega) (by omega) h9
        rw [List.length_map] at h9
        refine lv_iload_n hx hb dMo_leastFrom_53 rfl (lv_at hl 1 rfl) ?_
        exact ret () dMo_leastFrom_54 rfl (by rw [show i = M.length by omega]) hP hD hS
      · skip
        replace h9 := nt_nle (a := (M.map nI).length) (b := i) (by omega) (by omega) h9
        rw [List.length_map] at h9
        have hvb : M.getD i 0 ≤ 1114111 := getD_b hMb (by omega)
        have hnx : ∃ z, lfG M v0 i = z := ⟨_, rfl⟩
        obtain ⟨z, hnx⟩ := hnx
        rw [hnx] at hl
        rcases z with _ | bv
        · skip
          replace hl : lv_has ls 4 [(3, .int (nI i)), (2, .int (-1)), (0, .ref mo), (1, .int (nI v0))] := hl
          refine lv_aload_n hx hb dMo_leastFrom_12 rfl (lv_at hl 2 rfl) ?_
          refine va_get (D := D) (ci := 5) (v := .ref xL) (C := R_Mo) (T := T_Mo) (N := 19) hx hb hw in_Mo hown hK hP 0 rfl rfl 3 (by decide) (hw _ w_367) (fun _ h9 => h9) rfl dMo_leastFrom_13 ?_
          refine lv_iload_n hx hb dMo_leastFrom_16 rfl (lv_at hl 0 rfl) ?_
          refine va_iald hx hb hK hP 2 0 rfl rfl (vp_in_nI (by omega) (by omega)) dMo_leastFrom_17 ?_
          refine lv_rei (y := gL i) (by rw [nI_clamp (by omega)]) ?_
          refine lv_rei (y := nI (M.getD i 0)) ((Hd_un hfL (by rw [List.length_map]; omega)).trans (un_map (by omega))) ?_
          refine lv_iload_n hx hb dMo_leastFrom_18 rfl (lv_at hl 3 rfl) ?_
          refine lv_icmp_lt (tgt := 45) hx hb dMo_leastFrom_19 (by decide) (fun h19 => ?_) (fun h19 => ?_)
          · skip
            replace h19 := nt_lt (a := M.getD i 0) (b := v0) (by omega) (by omega) h19
            refine lv_iload_n hx hb dMo_leastFrom_45 rfl (lv_at hl 1 rfl) ?_
            refine lv_istore_n (lv' := [(2, .int (-1)), (3, .int (nI i)), (0, .ref mo), (1, .int (nI v0))]) hx hb dMo_leastFrom_46 rfl hl (by decide) rfl (fun ls hl => ?_)
            refine lv_iinc (k := 1) (v := nI (i + 1)) (lv' := [(3, .int (nI (i + 1))), (2, .int (-1)), (0, .ref mo), (1, .int (nI v0))]) hx hb dMo_leastFrom_47 hl rfl (nI_1 _) (by decide) rfl (fun ls hl => ?_)
            refine lv_goto (tgt := 4) hx hb dMo_leastFrom_50 (by decide) ?_
            have en : lfG M v0 (i + 1) = none := by rw [lfG, hnx]; exact if_neg (by omega)
            have eo : (-1) = ov (lfG M v0 (i + 1)) := by rw [en]; rfl
            rw [eo] at hl
            exact ih_loop1 (i + 1) _ _ _ (by omega) (by omega) (lv_sub hl [0, 1, 2, 3] rfl) hP hD hS
          · skip
            replace h19 := nt_nlt (a := M.getD i 0) (b := v0) (by omega) (by omega) h19
            refine lv_iload_n hx hb dMo_leastFrom_22 rfl (lv_at hl 1 rfl) ?_
            refine lv_if_lt (tgt := 36) hx hb dMo_leastFrom_23 (by decide) (fun h23 => ?_) (fun h23 => ?_)
            · skip
              refine lv_aload_n hx hb dMo_leastFrom_36 rfl (lv_at hl 2 rfl) ?_
              refine va_get (D := D) (ci := 5) (v := .ref xL) (C := R_Mo) (T := T_Mo) (N := 19) hx hb hw in_Mo hown hK hP 0 rfl rfl 3 (by decide) (hw _ w_367) (fun _ h9 => h9) rfl dMo_leastFrom_37 ?_
              refine lv_iload_n hx hb dMo_leastFrom_40 rfl (lv_at hl 0 rfl) ?_
              refine va_iald hx hb hK hP 2 0 rfl rfl (vp_in_nI (by omega) (by omega)) dMo_leastFrom_41 ?_
              refine lv_rei (y := gL i) (by rw [nI_clamp (by omega)]) ?_
              refine lv_rei (y := nI (M.getD i 0)) ((Hd_un hfL (by rw [List.length_map]; omega)).trans (un_map (by omega))) ?_
              refine lv_goto (tgt := 46) hx hb dMo_leastFrom_42 (by decide) ?_
              refine lv_istore_n (lv' := [(2, .int (nI (M.getD i 0))), (3, .int (nI i)), (0, .ref mo), (1, .int (nI v0))]) hx hb dMo_leastFrom_46 rfl hl (by decide) rfl (fun ls hl => ?_)
              refine lv_iinc (k := 1) (v := nI (i + 1)) (lv' := [(3, .int (nI (i + 1))), (2, .int (nI (M.getD i 0))), (0, .ref mo), (1, .int (nI v0))]) hx hb dMo_leastFrom_47 hl rfl (nI_1 _) (by decide) rfl (fun ls hl => ?_)
              refine lv_goto (tgt := 4) hx hb dMo_leastFrom_50 (by decide) ?_
              have en : lfG M v0 (i + 1) = some (M.getD i 0) := by rw [lfG, hnx]; exact if_pos (by omega)
              have eo : nI (M.getD i 0) = ov (lfG M v0 (i + 1)) := by rw [en]; rfl
              rw [eo] at hl
              exact ih_loop1 (i + 1) _ _ _ (by omega) (by omega) (lv_sub hl [0, 1, 2, 3] rfl) hP hD hS
            · skip
              exact absurd h23 (by decide)
        · skip
          replace hl : lv_has ls 4 [(3, .int (nI i)), (2, .int (nI bv)), (0, .ref mo), (1, .int (nI v0))] := hl
          obtain ⟨-, ⟨jb, hjb, hjv⟩, -⟩ := lf_so _ _ hnx
          have hbv : bv ≤ 1114111 := by rw [← hjv]; exact getD_b hMb (by omega)
          refine lv_aload_n hx hb dMo_leastFrom_12 rfl (lv_at hl 2 rfl) ?_
          refine va_get (D := D) (ci := 5) (v := .ref xL) (C := R_Mo) (T := T_Mo) (N := 19) hx hb hw in_Mo hown hK hP 0 rfl rfl 3 (by decide) (hw _ w_367) (fun _ h9 => h9) rfl dMo_leastFrom_13 ?_
          refine lv_iload_n hx hb dMo_leastFrom_16 rfl (lv_at hl 0 rfl) ?_
          refine va_iald hx hb hK hP 2 0 rfl rfl (vp_in_nI (by omega) (by omega)) dMo_leastFrom_17 ?_
          refine lv_rei (y := gL i) (by rw [nI_clamp (by omega)]) ?_
          refine lv_rei (y := nI (M.getD i 0)) ((Hd_un hfL (by rw [List.length_map]; omega)).trans (un_map (by omega))) ?_
          refine lv_iload_n hx hb dMo_leastFrom_18 rfl (lv_at hl 3 rfl) ?_
          refine lv_icmp_lt (tgt := 45) hx hb dMo_leastFrom_19 (by decide) (fun h19 => ?_) (fun h19 => ?_)
          · skip
            replace h19 := nt_lt (a := M.getD i 0) (b := v0) (by omega) (by omega) h19
            refine lv_iload_n hx hb dMo_leastFrom_45 rfl (lv_at hl 1 rfl) ?_
            refine lv_istore_n (lv' := [(2, .int (nI bv)), (3, .int (nI i)), (0, .ref mo), (1, .int (nI v0))]) hx hb dMo_leastFrom_46 rfl hl (by decide) rfl (fun ls hl => ?_)
            refine lv_iinc (k := 1) (v := nI (i + 1)) (lv' := [(3, .int (nI (i + 1))), (2, .int (nI bv)), (0, .ref mo), (1, .int (nI v0))]) hx hb dMo_leastFrom_47 hl rfl (nI_1 _) (by decide) rfl (fun ls hl => ?_)
            refine lv_goto (tgt := 4) hx hb dMo_leastFrom_50 (by decide) ?_
            have en : lfG M v0 (i + 1) = some bv := by rw [lfG, hnx]; exact if_neg (by omega)
            have eo : nI bv = ov (lfG M v0 (i + 1)) := by rw [en]; rfl
            rw [eo] at hl
            exact ih_loop1 (i + 1) _ _ _ (by omega) (by omega) (lv_sub hl [0, 1, 2, 3] rfl) hP hD hS
          · skip
            replace h19 := nt_nlt (a := M.getD i 0) (b := v0) (by omega) (by omega) h19
            refine lv_iload_n hx hb dMo_leastFrom_22 rfl (lv_at hl 1 rfl) ?_
            refine lv_if_lt (tgt := 36) hx hb dMo_leastFrom_23 (by decide) (fun h23 => ?_) (fun h23 => ?_)
            · skip
              exact absurd h23 (nI_pos (by omega))
            · skip
              refine lv_aload_n hx hb dMo_leastFrom_26 rfl (lv_at hl 2 rfl) ?_
              refine va_get (D := D) (ci := 5) (v := .ref xL) (C := R_Mo) (T := T_Mo) (N := 19) hx hb hw in_Mo hown hK hP 0 rfl rfl 3 (by decide) (hw _ w_367) (fun _ h9 => h9) rfl dMo_leastFrom_27 ?_
              refine lv_iload_n hx hb dMo_leastFrom_30 rfl (lv_at hl 0 rfl) ?_
              refine va_iald hx hb hK hP 2 0 rfl rfl (vp_in_nI (by omega) (by omega)) dMo_leastFrom_31 ?_
              refine lv_rei (y := gL i) (by rw [nI_clamp (by omega)]) ?_
              refine lv_rei (y := nI (M.getD i 0)) ((Hd_un hfL (by rw [List.length_map]; omega)).trans (un_map (by omega))) ?_
              refine lv_iload_n hx hb dMo_leastFrom_32 rfl (lv_at hl 1 rfl) ?_
              refine lv_icmp_ge (tgt := 45) hx hb dMo_leastFrom_33 (by decide) (fun h33 => ?_) (fun h33 => ?_)
              · skip
                replace h33 := nt_le (a := bv) (b := M.getD i 0) (by omega) (by omega) h33
                refine lv_iload_n hx hb dMo_leastFrom_45 rfl (lv_at hl 1 rfl) ?_
                refine lv_istore_n (lv' := [(2, .int (nI bv)), (3, .int (nI i)), (0, .ref mo), (1, .int (nI v0))]) hx hb dMo_leastFrom_46 rfl hl (by decide) rfl (fun ls hl => ?_)
                refine lv_iinc (k := 1) (v := nI (i + 1)) (lv' := [(3, .int (nI (i + 1))), (2, .int (nI bv)), (0, .ref mo), (1, .int (nI v0))]) hx hb dMo_leastFrom_47 hl rfl (nI_1 _) (by decide) rfl (fun ls hl => ?_)
                refine lv_goto (tgt := 4) hx hb dMo_leastFrom_50 (by decide) ?_
                have en : lfG M v0 (i + 1) = some bv := by rw [lfG, hnx]; exact if_neg (by omega)
                have eo : nI bv = ov (lfG M v0 (i + 1)) := by rw [en]; rfl
                rw [eo] at hl
                exact ih_loop1 (i + 1) _ _ _ (by omega) (by omega) (lv_sub hl [0, 1, 2, 3] rfl) hP hD hS
              · skip
                replace h33 := nt_nle (a := bv) (b := M.getD i 0) (by omega) (by omega) h33
                refine lv_aload_n hx hb dMo_leastFrom_36 rfl (lv_at hl 2 rfl) ?_
                refine va_get (D := D) (ci := 5) (v := .ref xL) (C := R_Mo) (T := T_Mo) (N := 19) hx hb hw in_Mo hown hK hP 0 rfl rfl 3 (by decide) (hw _ w_367) (fun _ h9 => h9) rfl dMo_leastFrom_37 ?_
                refine lv_iload_n hx hb dMo_leastFrom_40 rfl (lv_at hl 0 rfl) ?_
                refine va_iald hx hb hK hP 2 0 rfl rfl (vp_in_nI (by omega) (by omega)) dMo_leastFrom_41 ?_
                refine lv_rei (y := gL i) (by rw [nI_clamp (by omega)]) ?_
                refine lv_rei (y := nI (M.getD i 0)) ((Hd_un hfL (by rw [List.length_map]; omega)).trans (un_map (by omega))) ?_
                refine lv_goto (tgt := 46) hx hb dMo_leastFrom_42 (by decide) ?_
                refine lv_istore_n (lv' := [(2, .int (nI (M.getD i 0))), (3, .int (nI i)), (0, .ref mo), (1, .int (nI v0))]) hx hb dMo_leastFrom_46 rfl hl (by decide) rfl (fun ls hl => ?_)
                refine lv_iinc (k := 1) (v := nI (i + 1)) (lv' := [(3, .int (nI (i + 1))), (2, .int (nI (M.getD i 0))), (0, .ref mo), (1, .int (nI v0))]) hx hb dMo_leastFrom_47 hl rfl (nI_1 _) (by decide) rfl (fun ls hl => ?_)
                refine lv_goto (tgt := 4) hx hb dMo_leastFrom_50 (by decide) ?_
                have en : lfG M v0 (i + 1) = some (M.getD i 0) := by rw [lfG, hnx]; exact if_pos ⟨by omega, by omega⟩
                have eo : nI (M.getD i 0) = ov (lfG M v0 (i + 1)) := by rw [en]; rfl
                rw [eo] at hl
                exact ih_loop1 (i + 1) _ _ _ (by omega) (by omega) (lv_sub hl [0, 1, 2, 3] rfl) hP hD hS
  exact loop1 _ 0 _ _ _ (Nat.lt_succ_self _) (Nat.zero_le _) (lv_sub hl [0, 1, 2, 3] rfl) hP hD hS
set_option maxHeartbeats 4000000 in
set_option maxRecDepth 100000 in
theorem k_Mo_toLetters (l : Launch) (D : va_G) (cA : ClassId) (sz : Nat) (mo xI xL xO xK xR xW : Nat) (I O K : List Int32) (gI gL gO gK gR gW : Nat → Int32) (md wr at_ : Int32) (nu vl pc_ : Int64) (bs tk gd : Int32) (M : List Nat) (hfI : Hd gI I) (hcI : I.length ≤ 120) (hfL : Hd gL (M.map nI)) (hcL : (M.map nI).length ≤ 120) (hfO : Hd gO O) (hcO : O.length ≤ 400) (hfK : Hd gK K) (hcK : K.length ≤ 120) (hMb : ∀ x ∈ M, x ≤ 1114111) : KI l D cA y_Mo_toLetters c_Mo_toLetters 8 .int 2 50 [.ref mo] sz [(mo, .inr (5, [.int (nI I.length), .ref xI, .int (nI ((M.map nI).length)), .ref xL, .int (nI O.length), .ref xO, .int (nI K.length), .ref xK, .int md, .ref xR, .int wr, .ref xW, .int at_, .long nu, .long vl, .long pc_, .int bs, .int tk, .int gd])), (xI, .inl (cA, 120, .inl gI)), (xL, .inl (cA, 120, .inl gL)), (xO, .inl (cA, 400, .inl gO)), (xK, .inl (cA, 120, .inl gK)), (xR, .inl (cA, 121, .inl gR)), (xW, .inl (cA, 1000, .inl gW))] (S := List Int32 × (Nat → Int32) × Int32 × (Nat → Int32) × Int32) (fun r u => match u with | (O2, gO2, wr2, gW2, bs2) => r = (spX (wlS M) O).1 ∧ O2 = (spX (wlS M) O).2 ∧ Hd gO2 O2 ∧ O2.length ≤ 400) (fun u => match u with | (O2, gO2, wr2, gW2, bs2) => [(mo, .inr (5, [.int (nI I.length), .ref xI, .int (nI ((M.map nI).length)), .ref xL, .int (nI O2.length), .ref xO, .int (nI K.length), .ref xK, .int md, .ref xR, .int wr2, .ref xW, .int at_, .long nu, .long vl, .long pc_, .int bs2, .int tk, .int gd])), (xI, .inl (cA, 120, .inl gI)), (xL, .inl (cA, 120, .inl gL)), (xO, .inl (cA, 400, .inl gO2)), (xK, .inl (cA, 120, .inl gK)), (xR, .inl (cA, 121, .inl gR)), (xW, .inl (cA, 1000, .inl gW2))]) := by
  refine KI.of (by decide) (Nat.le_of_ble_eq_true rfl) ?_
  intro p e s m args below meth c Q R A ls Xf hR hA hS hP hD hK hn hl ret
  have hx := Xf.1
  have hb := Xf.2.1
  have hown : s.vm.findClass "ScalarScribeModel" = some m.cls := Xf.2.2.2.1
  have hw := Xf.2.2.2.2
  have hl : lv_has ls 8 [(0, .ref mo)] := hl
  have hcM : M.length ≤ 120 := by rw [List.length_map] at hcL; exact hcL
  refine lv_aload_n hx hb dMo_toLetters_0 rfl (lv_at hl 0 rfl) ?_
  refine lv_iconst (v := nI 0) hx hb dMo_toLetters_1 (by decide) ?_
  refine va_put (D := D) (ci := 5) (v := .int (nI 0)) (ty := .int) (C := R_Mo) (T := T_Mo) (N := 19) hx hb hw in_Mo ty_Mo ty_Mo_ok nm_Mo hown hK hP hD hS 0 rfl rfl 10 (by decide) (hw _ w_374) (fun _ h9 => h9) rfl (by decide +kernel) rfl rfl (Nat.le_of_ble_eq_true rfl) dMo_toLetters_2 (fun H locs hP hD hS => ?_)
  have hP : va_P D vwCl [(mo, .inr (5, [.int (nI I.length), .ref xI, .int (nI ((M.map nI).length)), .ref xL, .int (nI O.length), .ref xO, .int (nI K.length), .ref xK, .int md, .ref xR, .int (nI 0), .ref xW, .int at_, .long nu, .long vl, .long pc_, .int bs, .int tk, .int gd])), (xI, .inl (cA, 120, .inl gI)), (xL, .inl (cA, 120, .inl gL)), (xO, .inl (cA, 400, .inl gO)), (xK, .inl (cA, 120, .inl gK)), (xR, .inl (cA, 121, .inl gR)), (xW, .inl (cA, 1000, .inl gW))] H := hP
  have hD : va_D A [(mo, .inr (5, [.int (nI I.length), .ref xI, .int (nI ((M.map nI).length)), .ref xL, .int (nI O.length), .ref xO, .int (nI K.length), .ref xK, .int md, .ref xR, .int (nI 0), .ref xW, .int at_, .long nu, .long vl, .long pc_, .int bs, .int tk, .int gd])), (xI, .inl (cA, 120, .inl gI)), (xL, .inl (cA, 120, .inl gL)), (xO, .inl (cA, 400, .inl gO)), (xK, .inl (cA, 120, .inl gK)), (xR, .inl (cA, 121, .inl gR)), (xW, .inl (cA, 1000, .inl gW))] := hD
  refine lv_iconst (v := nI 0) hx hb dMo_toLetters_5 (by decide) ?_
  refine lv_istore_n (lv' := [(1, .int (nI 0)), (0, .ref mo)]) hx hb dMo_toLetters_6 rfl hl (by decide) rfl (fun ls hl => ?_)
  have loop1 : ∀ (n_ : Nat) (i : Nat) (hW_ : Nat → Int32) (ls : Array Slot) (H : Heap) (locs : List Loc), M.length - i < n_ → Hw hW_ ((pln (M.take i)).map nI) → i ≤ M.length → lv_has ls 8 [(1, .int (nI i)), (0, .ref mo)] → va_P D vwCl [(mo, .inr (5, [.int (nI I.length), .ref xI, .int (nI ((M.map nI).length)), .ref xL, .int (nI O.length), .ref xO, .int (nI K.length), .ref xK, .int md, .ref xR, .int (nI (((pln (M.take i)).map nI).length)), .ref xW, .int at_, .long nu, .long vl, .long pc_, .int bs, .int tk, .int gd])), (xI, .inl (cA, 120, .inl gI)), (xL, .inl (cA, 120, .inl gL)), (xO, .inl (cA, 400, .inl gO)), (xK, .inl (cA, 120, .inl gK)), (xR, .inl (cA, 121, .inl gR)), (xW, .inl (cA, 1000, .inl hW_))] H → va_D A [(mo, .inr (5, [.int (nI I.length), .ref xI, .int (nI ((M.map nI).length)), .ref xL, .int (nI O.length), .ref xO, .int (nI K.length), .ref xK, .int md, .ref xR, .int (nI (((pln (M.take i)).map nI).length)), .ref xW, .int at_, .long nu, .long vl, .long pc_, .int bs, .int tk, .int gd])), (xI, .inl (cA, 120, .inl gI)), (xL, .inl (cA, 120, .inl gL)), (xO, .inl (cA, 400, .inl gO)), (xK, .inl (cA, 120, .inl gK)), (xR, .inl (cA, 121, .inl gR)), (xW, .inl (cA, 1000, .inl hW_))] → va_S A s.heap H locs → W p l e R s m args below meth c H locs 0 0 Q (F0 m 7 ls []) := by
    intro n_
    induction n_ with
    | zero => intro i hW_ ls H locs hm_; exact absurd hm_ (Nat.not_lt_zero _)
    | succ n_ ih_loop1 =>
      intro i hW_ ls H locs hm_ hW hi hl hP hD hS
      refine lv_iload_n hx hb dMo_toLetters_7 rfl (lv_at hl 0 rfl) ?_
      refine lv_aload_n hx hb dMo_toLetters_8 rfl (lv_at hl 1 rfl) ?_
      refine va_get (D := D) (ci := 5) (v := .int (nI ((M.map nI).length))) (C := R_Mo) (T := T_Mo) (N := 19) hx hb hw in_Mo hown hK hP 0 rfl rfl 2 (by decide) (hw _ w_366) (fun _ h9 => h9) rfl dMo_toLetters_9 ?_
      refine lv_icmp_ge (tgt := 43) hx hb dMo_toLetters_12 (by decide) (fun h12 => ?_) (fun h12 => ?_)
      · skip
        replace h12 := nt_le (a := (M.map nI).length) (b := i) (by omega) (by omega) h12
        rw [List.length_map] at h12
        have ei : M.take i = M := List.take_of_length_le (by omega)
        have hpa := pln_all M
        rw [ei] at hP hD hW
        refine lv_aload_n hx hb dMo_toLetters_43 rfl (lv_at hl 1 rfl) ?_
        refine va_get (D := D) (ci := 5) (v := .int (nI (((pln M).map nI).length))) (C := R_Mo) (T := T_Mo) (N := 19) hx hb hw in_Mo hown hK hP 0 rfl rfl 10 (by decide) (hw _ w_374) (fun _ h9 => h9) rfl dMo_toLetters_44 ?_
        refine lv_rei (y := nI ((pln M).length)) (by rw [List.length_map]) ?_
        refine lv_istore_n (lv' := [(1, .int (nI ((pln M).length))), (0, .ref mo)]) hx hb dMo_toLetters_47 rfl hl (by decide) rfl (fun ls hl => ?_)
        refine lv_aload_n hx hb dMo_toLetters_48 rfl (lv_at hl 1 rfl) ?_
        refine va_get (D := D) (ci := 5) (v := .int (nI (((pln M).map nI).length))) (C := R_Mo) (T := T_Mo) (N := 19) hx hb hw in_Mo hown hK hP 0 rfl rfl 10 (by decide) (hw _ w_374) (fun _ h9 => h9) rfl dMo_toLetters_49 ?_
        refine lv_rei (y := nI ((pln M).length)) (by rw [List.length_map]) ?_
        refine lv_istore_n (lv' := [(2, .int (nI ((pln M).length))), (1, .int (nI ((pln M).length))), (0, .ref mo)]) hx hb dMo_toLetters_52 rfl hl (by decide) rfl (fun ls hl => ?_)
        refine lv_iload_n hx hb dMo_toLetters_53 rfl (lv_at hl 0 rfl) ?_
        refine lv_if_le (tgt := 63) hx hb dMo_toLetters_54 (by decide) (fun h54 => ?_) (fun h54 => ?_)
        · skip
          replace h54 := nt_le (a := (pln M).length) (b := 0) (by omega) (by omega) h54
          have ep : pln M = (if (pln M).length = 0 then pln M else pln M ++ [45]) := by rw [if_pos (by omega)]
          replace hP : va_P D vwCl [(mo, .inr (5, [.int (nI I.length), .ref xI, .int (nI ((M.map nI).length)), .ref xL, .int (nI O.length), .ref xO, .int (nI K.length), .ref xK, .int md, .ref xR, .int (nI (((if (pln M).length = 0 then pln M else pln M ++ [45]).map nI).length)), .ref xW, .int at_, .long nu, .long vl, .long pc_, .int bs, .int tk, .int gd])), (xI, .inl (cA, 120, .inl gI)), (xL, .inl (cA, 120, .inl gL)), (xO, .inl (cA, 400, .inl gO)), (xK, .inl (cA, 120, .inl gK)), (xR, .inl (cA, 121, .inl gR)), (xW, .inl (cA, 1000, .inl hW_))] H := by rw [← ep]; exact hP
          replace hD : va_D A [(mo, .inr (5, [.int (nI I.length), .ref xI, .int (nI ((M.map nI).length)), .ref xL, .int (nI O.length), .ref xO, .int (nI K.length), .ref xK, .int md, .ref xR, .int (nI (((if (pln M).length = 0 then pln M else pln M ++ [45]).map nI).length)), .ref xW, .int at_, .long nu, .long vl, .long pc_, .int bs, .int tk, .int gd])), (xI, .inl (cA, 120, .inl gI)), (xL, .inl (cA, 120, .inl gL)), (xO, .inl (cA, 400, .inl gO)), (xK, .inl (cA, 120, .inl gK)), (xR, .inl (cA, 121, .inl gR)), (xW, .inl (cA, 1000, .inl hW_))] := by rw [← ep]; exact hD
          replace hW : Hw hW_ ((if (pln M).length = 0 then pln M else pln M ++ [45]).map nI) := by rw [← ep]; exact hW
          have hp45 : (if (pln M).length = 0 then pln M else pln M ++ [45]).length ≤ 121 := by rw [← ep]; omega
          refine lv_aload_n hx hb dMo_toLetters_63 rfl (lv_at hl 2 rfl) ?_
          refine lv_bipush (v := nI 72) hx hb dMo_toLetters_64 (by decide) ?_
          refine va_put (D := D) (ci := 5) (v := .int (nI 72)) (ty := .int) (C := R_Mo) (T := T_Mo) (N := 19) hx hb hw in_Mo ty_Mo ty_Mo_ok nm_Mo hown hK hP hD hS 0 rfl rfl 16 (by decide) (hw _ w_380) (fun _ h9 => h9) rfl (by decide +kernel) rfl rfl (Nat.le_of_ble_eq_true rfl) dMo_toLetters_66 (fun H locs hP hD hS => ?_)
          have hP : va_P D vwCl [(mo, .inr (5, [.int (nI I.length), .ref xI, .int (nI ((M.map nI).length)), .ref xL, .int (nI O.length), .ref xO, .int (nI K.length), .ref xK, .int md, .ref xR, .int (nI (((if (pln M).length = 0 then pln M else pln M ++ [45]).map nI).length)), .ref xW, .int at_, .long nu, .long vl, .long pc_, .int (nI 72), .int tk, .int gd])), (xI, .inl (cA, 120, .inl gI)), (xL, .inl (cA, 120, .inl gL)), (xO, .inl (cA, 400, .inl gO)), (xK, .inl (cA, 120, .inl gK)), (xR, .inl (cA, 121, .inl gR)), (xW, .inl (cA, 1000, .inl hW_))] H := hP
          have hD : va_D A [(mo, .inr (5, [.int (nI I.length), .ref xI, .int (nI ((M.map nI).length)), .ref xL, .int (nI O.length), .ref xO, .int (nI K.length), .ref xK, .int md, .ref xR, .int (nI (((if (pln M).length = 0 then pln M else pln M ++ [45]).map nI).length)), .ref xW, .int at_, .long nu, .long vl, .long pc_, .int (nI 72), .int tk, .int gd])), (xI, .inl (cA, 120, .inl gI)), (xL, .inl (cA, 120, .inl gL)), (xO, .inl (cA, 400, .inl gO)), (xK, .inl (cA, 120, .inl gK)), (xR, .inl (cA, 121, .inl gR)), (xW, .inl (cA, 1000, .inl hW_))] := hD
          refine lv_lconst (v := lN 0) hx hb dMo_toLetters_69 (by decide) ?_
          refine lv_lstore_n (lv' := [(3, .long (lN 0)), (2, .int (nI ((pln M).length))), (1, .int (nI ((pln M).length))), (0, .ref mo)]) hx hb dMo_toLetters_70 rfl hl (by decide) rfl (fun ls hl => ?_)
          refine lv_sipush (v := nI 128) hx hb dMo_toLetters_71 (by decide) ?_
          refine lv_istore (lv' := [(5, .int (nI 128)), (3, .long (lN 0)), (2, .int (nI ((pln M).length))), (1, .int (nI ((pln M).length))), (0, .ref mo)]) hx hb dMo_toLetters_74 hl (by decide) rfl (fun ls hl => ?_)
          have loop2 : ∀ (n_ : Nat) (v : Nat) (told : Nat) (va : Nat) (pl : Nat) (bi : Nat) (la : Nat) (d : Nat) (W1 : List Nat) (hW_ : Nat → Int32) (kf : Nat) (ls : Array Slot) (H : Heap) (locs : List Loc), 1114113 - v < n_ → v ≤ 1114112 → minv M va pl told la v 0 d → told + kf = M.length → (pln M).length ≤ told → bi ≤ 252 → W1.length ≤ 121 + 11 * told → Hw hW_ (W1.map nI) → tlS M kf va pl bi told la (decide (told = (pln M).length)) W1 = wlS M → lv_has ls 8 [(1, .int (nI told)), (2, .int (nI ((pln M).length))), (3, .long (lN d)), (5, .int (nI v)), (0, .ref mo)] → va_P D vwCl [(mo, .inr (5, [.int (nI I.length), .ref xI, .int (nI ((M.map nI).length)), .ref xL, .int (nI O.length), .ref xO, .int (nI K.length), .ref xK, .int md, .ref xR, .int (nI ((W1.map nI).length)), .ref xW, .int at_, .long nu, .long vl, .long pc_, .int (nI bi), .int tk, .int gd])), (xI, .inl (cA, 120, .inl gI)), (xL, .inl (cA, 120, .inl gL)), (xO, .inl (cA, 400, .inl gO)), (xK, .inl (cA, 120, .inl gK)), (xR, .inl (cA, 121, .inl gR)), (xW, .inl (cA, 1000, .inl hW_))] H → va_D A [(mo, .inr (5, [.int (nI I.length), .ref xI, .int (nI ((M.map nI).length)), .ref xL, .int (nI O.length), .ref xO, .int (nI K.length), .ref xK, .int md, .ref xR, .int (nI ((W1.map nI).length)), .ref xW, .int at_, .long nu, .long vl, .long pc_, .int (nI bi), .int tk, .int gd])), (xI, .inl (cA, 120, .inl gI)), (xL, .inl (cA, 120, .inl gL)), (xO, .inl (cA, 400, .inl gO)), (xK, .inl (cA, 120, .inl gK)), (xR, .inl (cA, 121, .inl gR)), (xW, .inl (cA, 1000, .inl hW_))] → va_S A s.heap H locs → W p l e R s m args below meth c H locs 0 0 Q (F0 m 76 ls []) := by
            intro n_
            induction n_ with
            | zero => intro v told va pl bi la d W1 hW_ kf ls H locs hm_; exact absurd hm_ (Nat.not_lt_zero _)
            | succ n_ ih_loop2 =>
              intro v told va pl bi la d W1 hW_ kf ls H locs hm_ hv hmi htk hbt hbi hwl hW hF hl hP hD hS
              refine lv_iload_n hx hb dMo_toLetters_76 rfl (lv_at hl 0 rfl) ?_
              refine lv_aload_n hx hb dMo_toLetters_77 rfl (lv_at hl 4 rfl) ?_
              refine va_get (D := D) (ci := 5) (v := .int (nI ((M.map nI).length))) (C := R_Mo) (T := T_Mo) (N := 19) hx hb hw in_Mo hown hK hP 0 rfl rfl 2 (by decide) (hw _ w_366) (fun _ h9 => h9) rfl dMo_toLetters_78 ?_
              refine lv_icmp_ge (tgt := 205) hx hb dMo_toLetters_81 (by decide) (fun h81 => ?_) (fun h81 => ?_)
              · skip
                replace h81 := nt_le (a := (M.map nI).length) (b := told) (by omega) (by omega) h81
                rw [List.length_map] at h81
                have hz : W1 = wlS M := by rw [← hF, show kf = 0 by omega]; rfl
                have hlm : (W1.map nI).length = W1.length := List.length_map _
                refine lv_aload_n hx hb dMo_toLetters_205 rfl (lv_at hl 4 rfl) ?_
                refine ca_i (wr := []) (va_runV (As := []) (rest := []) Xf (k_Mo_give l D cA _ mo xI xL xO xK xR xW I (M.map nI) O K gI gL gO gK gR hW_ md at_ nu vl pc_ (nI bi) tk gd (W1.map nI) hfI hcI hfL hcL hfO hcO hfK hcK hW (by omega)) ⟨cb_of 0 hw w_532 w_7 w_529 (by decide +kernel) (by rw [hR]; exact ⟨Nat.le_of_ble_eq_true rfl, Nat.le_of_ble_eq_true rfl⟩), hw _ w_531, hw _ ws_23⟩ (pre_V (As := []) hP hD hK hn [0, 1, 2, 3, 4, 5, 6] rfl (by decide) 0 5 rfl rfl) rfl rfl hl.1 rfl (lv_room (Nat.le_of_ble_eq_true rfl)) dMo_toLetters_206 ⟨Nat.zero_le _, Nat.zero_le _⟩) hP hD hS hA [0, 1, 2, 3, 4, 5, 6] [] rfl rfl (by decide) (by decide) (fun r206 u_ H locs hq_ hP hD hS => ?_)
                obtain ⟨O_, gO_⟩ := u_
                dsimp only at hq_ hP hD
                rcases hq_ with ⟨hgl, rfl, hO_, hfO_⟩ | ⟨hgl, rfl, hO_, hfO_⟩
                · skip
                  subst O_
                  replace hP : va_P D vwCl [(mo, .inr (5, [.int (nI I.length), .ref xI, .int (nI ((M.map nI).length)), .ref xL, .int (nI ((W1.map nI).length)), .ref xO, .int (nI K.length), .ref xK, .int md, .ref xR, .int (nI ((W1.map nI).length)), .ref xW, .int at_, .long nu, .long vl, .long pc_, .int (nI bi), .int tk, .int gd])), (xI, .inl (cA, 120, .inl gI)), (xL, .inl (cA, 120, .inl gL)), (xO, .inl (cA, 400, .inl gO_)), (xK, .inl (cA, 120, .inl gK)), (xR, .inl (cA, 121, .inl gR)), (xW, .inl (cA, 1000, .inl hW_))] H := hP.sub [0, 1, 2, 3, 4, 5, 6] rfl
                  replace hD : va_D A [(mo, .inr (5, [.int (nI I.length), .ref xI, .int (nI ((M.map nI).length)), .ref xL, .int (nI ((W1.map nI).length)), .ref xO, .int (nI K.length), .ref xK, .int md, .ref xR, .int (nI ((W1.map nI).length)), .ref xW, .int at_, .long nu, .long vl, .long pc_, .int (nI bi), .int tk, .int gd])), (xI, .inl (cA, 120, .inl gI)), (xL, .inl (cA, 120, .inl gL)), (xO, .inl (cA, 400, .inl gO_)), (xK, .inl (cA, 120, .inl gK)), (xR, .inl (cA, 121, .inl gR)), (xW, .inl (cA, 1000, .inl hW_))] := hD.sub [0, 1, 2, 3, 4, 5, 6] (by decide) rfl
                  rw [hz, List.length_map] at hgl
                  exact ret ((W1.map nI), gO_, nI ((W1.map nI).length), hW_, nI bi) dMo_toLetters_209 rfl ⟨by unfold spX; rw [hz, if_pos hgl, List.length_map], by unfold spX; rw [hz, if_pos hgl], hfO_, by rw [hz, List.length_map]; exact hgl⟩ hP hD hS
                · skip
                  subst O_
                  replace hP : va_P D vwCl [(mo, .inr (5, [.int (nI I.length), .ref xI, .int (nI ((M.map nI).length)), .ref xL, .int (nI O.length), .ref xO, .int (nI K.length), .ref xK, .int md, .ref xR, .int (nI ((W1.map nI).length)), .ref xW, .int at_, .long nu, .long vl, .long pc_, .int (nI bi), .int tk, .int gd])), (xI, .inl (cA, 120, .inl gI)), (xL, .inl (cA, 120, .inl gL)), (xO, .inl (cA, 400, .inl gO_)), (xK, .inl (cA, 120, .inl gK)), (xR, .inl (cA, 121, .inl gR)), (xW, .inl (cA, 1000, .inl hW_))] H := hP.sub [0, 1, 2, 3, 4, 5, 6] rfl
                  replace hD : va_D A [(mo, .inr (5, [.int (nI I.length), .ref xI, .int (nI ((M.map nI).length)), .ref xL, .int (nI O.length), .ref xO, .int (nI K.length), .ref xK, .int md, .ref xR, .int (nI ((W1.map nI).length)), .ref xW, .int at_, .long nu, .long vl, .long pc_, .int (nI bi), .int tk, .int gd])), (xI, .inl (cA, 120, .inl gI)), (xL, .inl (cA, 120, .inl gL)), (xO, .inl (cA, 400, .inl gO_)), (xK, .inl (cA, 120, .inl gK)), (xR, .inl (cA, 121, .inl gR)), (xW, .inl (cA, 1000, .inl hW_))] := hD.sub [0, 1, 2, 3, 4, 5, 6] (by decide) rfl
                  rw [hz, List.length_map] at hgl
                  exact ret (O, gO_, nI ((W1.map nI).length), hW_, nI bi) dMo_toLetters_209 rfl ⟨by unfold spX; rw [if_neg (by omega)], by unfold spX; rw [if_neg (by omega)], hfO_, hcO⟩ hP hD hS
              · skip
                replace h81 := nt_nle (a := (M.map nI).length) (b := told) (by omega) (by omega) h81
                rw [List.length_map] at h81
                refine lv_aload_n hx hb dMo_toLetters_84 rfl (lv_at hl 4 rfl) ?_
                refine lv_iload hx hb dMo_toLetters_85 (lv_at hl 3 rfl) ?_
                refine ca_i (wr := []) (va_runV (As := [.int (nI v)]) (rest := []) Xf (k_Mo_leastFrom l D cA _ mo xI xL xO xK xR xW I O K gI gL gO gK gR hW_ md (nI ((W1.map nI).length)) at_ nu vl pc_ (nI bi) tk gd M v hfI hcI hfL hcL hfO hcO hfK hcK hMb (by omega)) ⟨cb_of 1 hw w_544 w_7 w_541 (by decide +kernel) (by rw [hR]; exact ⟨Nat.le_of_ble_eq_true rfl, Nat.le_of_ble_eq_true rfl⟩), hw _ w_543, hw _ ws_24⟩ (pre_V (As := [.int (nI v)]) hP hD hK hn [0, 1, 2, 3, 4, 5, 6] rfl (by decide) 0 5 rfl rfl) rfl rfl hl.1 rfl (lv_room (Nat.le_of_ble_eq_true rfl)) dMo_toLetters_87 ⟨Nat.zero_le _, Nat.zero_le _⟩) hP hD hS hA [0, 1, 2, 3, 4, 5, 6] [] rfl rfl (by decide) (by decide) (fun r87 u_ H locs hq_ hP hD hS => ?_)
                obtain rfl : r87 = ov (lfG M v M.length) := hq_
                replace hP : va_P D vwCl [(mo, .inr (5, [.int (nI I.length), .ref xI, .int (nI ((M.map nI).length)), .ref xL, .int (nI O.length), .ref xO, .int (nI K.length), .ref xK, .int md, .ref xR, .int (nI ((W1.map nI).length)), .ref xW, .int at_, .long nu, .long vl, .long pc_, .int (nI bi), .int tk, .int gd])), (xI, .inl (cA, 120, .inl gI)), (xL, .inl (cA, 120, .inl gL)), (xO, .inl (cA, 400, .inl gO)), (xK, .inl (cA, 120, .inl gK)), (xR, .inl (cA, 121, .inl gR)), (xW, .inl (cA, 1000, .inl hW_))] H := hP.sub [0, 1, 2, 3, 4, 5, 6] rfl
                replace hD : va_D A [(mo, .inr (5, [.int (nI I.length), .ref xI, .int (nI ((M.map nI).length)), .ref xL, .int (nI O.length), .ref xO, .int (nI K.length), .ref xK, .int md, .ref xR, .int (nI ((W1.map nI).length)), .ref xW, .int at_, .long nu, .long vl, .long pc_, .int (nI bi), .int tk, .int gd])), (xI, .inl (cA, 120, .inl gI)), (xL, .inl (cA, 120, .inl gL)), (xO, .inl (cA, 400, .inl gO)), (xK, .inl (cA, 120, .inl gK)), (xR, .inl (cA, 121, .inl gR)), (xW, .inl (cA, 1000, .inl hW_))] := hD.sub [0, 1, 2, 3, 4, 5, 6] (by decide) rfl
                have hnx : ∃ nx, lfG M v M.length = some nx := by
                  cases hx : lfG M v M.length with
                  | some b => exact ⟨b, rfl⟩
                  | none =>
                    have h1 := lf_no _ hx
                    obtain ⟨⟨-, hct, -⟩, -, -, he, -⟩ := hmi
                    obtain ⟨j, hj, hu⟩ := cnt_ex (M := M) (v := va) (la := la) M.length (by omega)
                    have h2 := he j hj hu
                    have h3 := h1 j hj
                    omega
                obtain ⟨nx, hnx⟩ := hnx
                obtain ⟨hn1, ⟨jn, hjn, hjv⟩, hn3⟩ := lf_so _ _ hnx
                have hnb : nx ≤ 1114111 := by rw [← hjv]; exact getD_b hMb hjn
                refine lv_rei (y := nI nx) (by rw [hnx]; rfl) ?_
                replace hmi := minv_up hmi hn1 hn3
                have hdb := minv_b hmi (by omega) (by omega) (by omega)
                refine lv_istore (lv' := [(6, .int (nI nx)), (1, .int (nI told)), (2, .int (nI ((pln M).length))), (3, .long (lN d)), (5, .int (nI v)), (0, .ref mo)]) hx hb dMo_toLetters_90 hl (by decide) rfl (fun ls hl => ?_)
                refine lv_lload_n hx hb dMo_toLetters_92 rfl (lv_at hl 3 rfl) ?_
                refine lv_iload hx hb dMo_toLetters_93 (lv_at hl 0 rfl) ?_
                refine lv_iload hx hb dMo_toLetters_95 (lv_at hl 4 rfl) ?_
                refine lv_isub hx hb dMo_toLetters_97 ?_
                refine lv_rei (y := nI (nx - v)) (pk_sub (by omega)) ?_
                refine lv_i2l (v := lN (nx - v)) hx hb dMo_toLetters_98 (nI_l (by omega)) ?_
                refine lv_iload_n hx hb dMo_toLetters_99 rfl (lv_at hl 1 rfl) ?_
                refine lv_iconst (v := nI 1) hx hb dMo_toLetters_100 (by decide) ?_
                refine lv_iadd hx hb dMo_toLetters_101 ?_
                refine lv_rei (y := nI (told + 1)) (nI_add _ _) ?_
                refine lv_i2l (v := lN (told + 1)) hx hb dMo_toLetters_102 (nI_l (by omega)) ?_
                refine lv_lmul hx hb dMo_toLetters_103 ?_
                refine lv_rel (y := lN ((nx - v) * (told + 1))) (lN_mul _ _) ?_
                refine lv_ladd hx hb dMo_toLetters_104 ?_
                refine lv_rel (y := lN (d + ((nx - v) * (told + 1)))) (lN_add _ _) ?_
                refine lv_lstore_n (lv' := [(3, .long (lN (d + ((nx - v) * (told + 1))))), (6, .int (nI nx)), (1, .int (nI told)), (2, .int (nI ((pln M).length))), (5, .int (nI v)), (0, .ref mo)]) hx hb dMo_toLetters_105 rfl hl (by decide) rfl (fun ls hl => ?_)
                refine lv_iload hx hb dMo_toLetters_106 (lv_at hl 1 rfl) ?_
                refine lv_istore (lv' := [(5, .int (nI nx)), (3, .long (lN (d + ((nx - v) * (told + 1))))), (6, .int (nI nx)), (1, .int (nI told)), (2, .int (nI ((pln M).length))), (0, .ref mo)]) hx hb dMo_toLetters_108 hl (by decide) rfl (fun ls hl => ?_)
                refine lv_iconst (v := nI 0) hx hb dMo_toLetters_110 (by decide) ?_
                refine lv_istore (lv' := [(7, .int (nI 0)), (5, .int (nI nx)), (3, .long (lN (d + ((nx - v) * (told + 1))))), (6, .int (nI nx)), (1, .int (nI told)), (2, .int (nI ((pln M).length))), (0, .ref mo)]) hx hb dMo_toLetters_111 hl (by decide) rfl (fun ls hl => ?_)
                have loop3 : ∀ (n_ : Nat) (k : Nat) (told : Nat) (va : Nat) (pl : Nat) (bi : Nat) (la : Nat) (d : Nat) (W1 : List Nat) (hW_ : Nat → Int32) (kf : Nat) (ls : Array Slot) (H : Heap) (locs : List Loc), M.length - k < n_ → k ≤ M.length → minv M va pl told la nx k d → told + kf = M.length → (pln M).length ≤ told → bi ≤ 252 → W1.length ≤ 121 + 11 * told → Hw hW_ (W1.map nI) → tlS M kf va pl bi told la (decide (told = (pln M).length)) W1 = wlS M → lv_has ls 8 [(7, .int (nI k)), (1, .int (nI told)), (2, .int (nI ((pln M).length))), (3, .long (lN d)), (5, .int (nI nx)), (0, .ref mo)] → va_P D vwCl [(mo, .inr (5, [.int (nI I.length), .ref xI, .int (nI ((M.map nI).length)), .ref xL, .int (nI O.length), .ref xO, .int (nI K.length), .ref xK, .int md, .ref xR, .int (nI ((W1.map nI).length)), .ref xW, .int at_, .long nu, .long vl, .long pc_, .int (nI bi), .int tk, .int gd])), (xI, .inl (cA, 120, .inl gI)), (xL, .inl (cA, 120, .inl gL)), (xO, .inl (cA, 400, .inl gO)), (xK, .inl (cA, 120, .inl gK)), (xR, .inl (cA, 121, .inl gR)), (xW, .inl (cA, 1000, .inl hW_))] H → va_D A [(mo, .inr (5, [.int (nI I.length), .ref xI, .int (nI ((M.map nI).length)), .ref xL, .int (nI O.length), .ref xO, .int (nI K.length), .ref xK, .int md, .ref xR, .int (nI ((W1.map nI).length)), .ref xW, .int at_, .long nu, .long vl, .long pc_, .int (nI bi), .int tk, .int gd])), (xI, .inl (cA, 120, .inl gI)), (xL, .inl (cA, 120, .inl gL)), (xO, .inl (cA, 400, .inl gO)), (xK, .inl (cA, 120, .inl gK)), (xR, .inl (cA, 121, .inl gR)), (xW, .inl (cA, 1000, .inl hW_))] → va_S A s.heap H locs → W p l e R s m args below meth c H locs 0 0 Q (F0 m 113 ls []) := by
                  intro n_
                  induction n_ with
                  | zero => intro k told va pl bi la d W1 hW_ kf ls H locs hm_; exact absurd hm_ (Nat.not_lt_zero _)
                  | succ n_ ih_loop3 =>
                    intro k told va pl bi la d W1 hW_ kf ls H locs hm_ hk hmi htk hbt hbi hwl hW hF hl hP hD hS
                    refine lv_iload hx hb dMo_toLetters_113 (lv_at hl 0 rfl) ?_
                    refine lv_aload_n hx hb dMo_toLetters_115 rfl (lv_at hl 5 rfl) ?_
                    refine va_get (D := D) (ci := 5) (v := .int (nI ((M.map nI).length))) (C := R_Mo) (T := T_Mo) (N := 19) hx hb hw in_Mo hown hK hP 0 rfl rfl 2 (by decide) (hw _ w_366) (fun _ h9 => h9) rfl dMo_toLetters_116 ?_
                    refine lv_icmp_ge (tgt := 192) hx hb dMo_toLetters_119 (by decide) (fun h119 => ?_) (fun h119 => ?_)
                    · skip
                      replace h119 := nt_le (a := (M.map nI).length) (b := k) (by omega) (by omega) h119
                      rw [List.length_map] at h119
                      have hke : k = M.length := by omega
                      rw [hke] at hmi
                      have hdb := minv_b hmi (by omega) (by omega) (by omega)
                      refine lv_lload_n hx hb dMo_toLetters_192 rfl (lv_at hl 3 rfl) ?_
                      refine lv_lconst (v := lN 1) hx hb dMo_toLetters_193 (by decide) ?_
                      refine lv_ladd hx hb dMo_toLetters_194 ?_
                      refine lv_rel (y := lN (d + 1)) (lN_add _ _) ?_
                      refine lv_lstore_n (lv' := [(3, .long (lN (d + 1))), (7, .int (nI k)), (1, .int (nI told)), (2, .int (nI ((pln M).length))), (5, .int (nI nx)), (0, .ref mo)]) hx hb dMo_toLetters_195 rfl hl (by decide) rfl (fun ls hl => ?_)
                      refine lv_iload hx hb dMo_toLetters_196 (lv_at hl 4 rfl) ?_
                      refine lv_iconst (v := nI 1) hx hb dMo_toLetters_198 (by decide) ?_
                      refine lv_iadd hx hb dMo_toLetters_199 ?_
                      refine lv_rei (y := nI (nx + 1)) (nI_add _ _) ?_
                      refine lv_istore (lv' := [(5, .int (nI (nx + 1))), (3, .long (lN (d + 1))), (7, .int (nI k)), (1, .int (nI told)), (2, .int (nI ((pln M).length))), (0, .ref mo)]) hx hb dMo_toLetters_200 hl (by decide) rfl (fun ls hl => ?_)
                      refine lv_goto (tgt := 76) hx hb dMo_toLetters_202 (by decide) ?_
                      have hme := minv_end hmi
                      exact ih_loop2 (nx + 1) told va pl bi la (d + 1) W1 hW_ kf _ _ _ (by omega) (by omega) hme htk hbt hbi hwl hW hF (lv_sub hl [3, 4, 1, 0, 5] rfl) hP hD hS
                    · skip
                      replace h119 := nt_nle (a := (M.map nI).length) (b := k) (by omega) (by omega) h119
                      rw [List.length_map] at h119
                      have hkb : M.getD k 0 ≤ 1114111 := getD_b hMb (by omega)
                      have hdb := minv_b hmi (by omega) (by omega) (by omega)
                      have hlm : (W1.map nI).length = W1.length := List.length_map _
                      refine lv_aload_n hx hb dMo_toLetters_122 rfl (lv_at hl 5 rfl) ?_
                      refine va_get (D := D) (ci := 5) (v := .ref xL) (C := R_Mo) (T := T_Mo) (N := 19) hx hb hw in_Mo hown hK hP 0 rfl rfl 3 (by decide) (hw _ w_367) (fun _ h9 => h9) rfl dMo_toLetters_123 ?_
                      refine lv_iload hx hb dMo_toLetters_126 (lv_at hl 0 rfl) ?_
                      refine va_iald hx hb hK hP 2 0 rfl rfl (vp_in_nI (by omega) (by omega)) dMo_toLetters_128 ?_
                      refine lv_rei (y := gL k) (by rw [nI_clamp (by omega)]) ?_
                      refine lv_rei (y := nI (M.getD k 0)) ((Hd_un hfL (by rw [List.length_map]; omega)).trans (un_map (by omega))) ?_
                      refine lv_iload hx hb dMo_toLetters_129 (lv_at hl 4 rfl) ?_
                      refine lv_icmp_ge (tgt := 140) hx hb dMo_toLetters_131 (by decide) (fun h131 => ?_) (fun h131 => ?_)
                      · skip
                        replace h131 := nt_le (a := nx) (b := M.getD k 0) (by omega) (by omega) h131
                        refine lv_lload_n hx hb dMo_toLetters_140 rfl (lv_at hl 3 rfl) ?_
                        refine lv_lstore_n (lv' := [(3, .long (lN d)), (7, .int (nI k)), (1, .int (nI told)), (2, .int (nI ((pln M).length))), (5, .int (nI nx)), (0, .ref mo)]) hx hb dMo_toLetters_141 rfl hl (by decide) rfl (fun ls hl => ?_)
                        refine lv_aload_n hx hb dMo_toLetters_142 rfl (lv_at hl 5 rfl) ?_
                        refine va_get (D := D) (ci := 5) (v := .ref xL) (C := R_Mo) (T := T_Mo) (N := 19) hx hb hw in_Mo hown hK hP 0 rfl rfl 3 (by decide) (hw _ w_367) (fun _ h9 => h9) rfl dMo_toLetters_143 ?_
                        refine lv_iload hx hb dMo_toLetters_146 (lv_at hl 1 rfl) ?_
                        refine va_iald hx hb hK hP 2 0 rfl rfl (vp_in_nI (by omega) (by omega)) dMo_toLetters_148 ?_
                        refine lv_rei (y := gL k) (by rw [nI_clamp (by omega)]) ?_
                        refine lv_rei (y := nI (M.getD k 0)) ((Hd_un hfL (by rw [List.length_map]; omega)).trans (un_map (by omega))) ?_
                        refine lv_iload hx hb dMo_toLetters_149 (lv_at hl 4 rfl) ?_
                        refine lv_icmp_ne (tgt := 186) hx hb dMo_toLetters_151 (by decide) (fun h151 => ?_) (fun h151 => ?_)
                        · skip
                          replace h151 := nt_ne (a := M.getD k 0) (b := nx) (by omega) (by omega) h151
                          refine lv_iinc (k := 1) (v := nI (k + 1)) (lv' := [(7, .int (nI (k + 1))), (3, .long (lN d)), (1, .int (nI told)), (2, .int (nI ((pln M).length))), (5, .int (nI nx)), (0, .ref mo)]) hx hb dMo_toLetters_186 hl rfl (nI_1 _) (by decide) rfl (fun ls hl => ?_)
                          refine lv_goto (tgt := 113) hx hb dMo_toLetters_189 (by decide) ?_
                          have hm2 := minv_gt hmi h119 (by omega)
                          exact ih_loop3 (k + 1) told va pl bi la d W1 hW_ kf _ _ _ (by omega) (by omega) hm2 htk hbt hbi hwl hW hF (lv_sub hl [0, 2, 3, 1, 4, 5] rfl) hP hD hS
                        · skip
                          replace h151 := nt_eq (a := M.getD k 0) (b := nx) (by omega) (by omega) h151
                          obtain ⟨hx1, hx2, hx3⟩ := minv_nx hmi h119 h151
                          have hwn := wnum_len (b := bi) (d := d) (by omega)
                          refine lv_aload_n hx hb dMo_toLetters_154 rfl (lv_at hl 5 rfl) ?_
                          refine lv_lload_n hx hb dMo_toLetters_155 rfl (lv_at hl 0 rfl) ?_
                          refine ca_v (wr := []) (va_runV (As := [.long (lN d)]) (rest := []) Xf (k_Mo_writeNumber l D cA _ mo xI xL xO xK xR xW I (M.map nI) O K gI gL gO gK gR hW_ md at_ nu vl pc_ tk gd bi W1 d hfI hcI hfL hcL hfO hcO hfK hcK hW (by omega) (by omega) (by omega)) ⟨cb_of 1 hw w_548 w_7 w_545 (by decide +kernel) (by rw [hR]; exact ⟨Nat.le_of_ble_eq_true rfl, Nat.le_of_ble_eq_true rfl⟩), hw _ w_547, hw _ ws_25⟩ (pre_V (As := [.long (lN d)]) hP hD hK hn [0, 1, 2, 3, 4, 5, 6] rfl (by decide) 0 5 rfl rfl) rfl rfl hl.1 rfl (lv_room (Nat.le_of_ble_eq_true rfl)) dMo_toLetters_156 ⟨Nat.zero_le _, Nat.zero_le _⟩) hP hD hS hA [0, 1, 2, 3, 4, 5, 6] [] rfl rfl (by decide) (by decide) (fun u_ H locs hq_ hP hD hS => ?_)
                          obtain ⟨gW1, hgW1⟩ : ∃ z, z = u_ := ⟨_, rfl⟩
                          rw [← hgW1] at hP hD hq_
                          have hW1 := hq_
                          replace hP : va_P D vwCl [(mo, .inr (5, [.int (nI I.length), .ref xI, .int (nI ((M.map nI).length)), .ref xL, .int (nI O.length), .ref xO, .int (nI K.length), .ref xK, .int md, .ref xR, .int (nI (((W1 ++ wnum bi d).map nI).length)), .ref xW, .int at_, .long nu, .long vl, .long pc_, .int (nI bi), .int tk, .int gd])), (xI, .inl (cA, 120, .inl gI)), (xL, .inl (cA, 120, .inl gL)), (xO, .inl (cA, 400, .inl gO)), (xK, .inl (cA, 120, .inl gK)), (xR, .inl (cA, 121, .inl gR)), (xW, .inl (cA, 1000, .inl gW1))] H := hP.sub [0, 1, 2, 3, 4, 5, 6] rfl
                          replace hD : va_D A [(mo, .inr (5, [.int (nI I.length), .ref xI, .int (nI ((M.map nI).length)), .ref xL, .int (nI O.length), .ref xO, .int (nI K.length), .ref xK, .int md, .ref xR, .int (nI (((W1 ++ wnum bi d).map nI).length)), .ref xW, .int at_, .long nu, .long vl, .long pc_, .int (nI bi), .int tk, .int gd])), (xI, .inl (cA, 120, .inl gI)), (xL, .inl (cA, 120, .inl gL)), (xO, .inl (cA, 400, .inl gO)), (xK, .inl (cA, 120, .inl gK)), (xR, .inl (cA, 121, .inl gR)), (xW, .inl (cA, 1000, .inl gW1))] := hD.sub [0, 1, 2, 3, 4, 5, 6] (by decide) rfl
                          refine lv_iload_n hx hb dMo_toLetters_159 rfl (lv_at hl 2 rfl) ?_
                          refine lv_iconst (v := nI 1) hx hb dMo_toLetters_160 (by decide) ?_
                          refine lv_iadd hx hb dMo_toLetters_161 ?_
                          refine lv_rei (y := nI (told + 1)) (nI_add _ _) ?_
                          refine lv_istore_n (lv' := [(1, .int (nI (told + 1))), (3, .long (lN d)), (7, .int (nI k)), (2, .int (nI ((pln M).length))), (5, .int (nI nx)), (0, .ref mo)]) hx hb dMo_toLetters_162 rfl hl (by decide) rfl (fun ls hl => ?_)
                          refine lv_aload_n hx hb dMo_toLetters_163 rfl (lv_at hl 5 rfl) ?_
                          refine lv_lload_n hx hb dMo_toLetters_164 rfl (lv_at hl 1 rfl) ?_
                          refine lv_iload_n hx hb dMo_toLetters_165 rfl (lv_at hl 0 rfl) ?_
                          refine lv_iload_n hx hb dMo_toLetters_166 rfl (lv_at hl 0 rfl) ?_
                          refine lv_iload_n hx hb dMo_toLetters_167 rfl (lv_at hl 3 rfl) ?_
                          refine lv_iconst (v := nI 1) hx hb dMo_toLetters_168 (by decide) ?_
                          refine lv_iadd hx hb dMo_toLetters_169 ?_
                          refine lv_rei (y := nI ((pln M).length + 1)) (nI_add _ _) ?_
                          refine lv_icmp_ne (tgt := 177) hx hb dMo_toLetters_170 (by decide) (fun h170 => ?_) (fun h170 => ?_)
                          · skip
                            replace h170 := nt_ne (a := told + 1) (b := (pln M).length + 1) (by omega) (by omega) h170
                            refine lv_iconst (v := nI 0) hx hb dMo_toLetters_177 (by decide) ?_
                            refine ca_i (wr := [(mo, .inr (5, [.int (nI I.length), .ref xI, .int (nI ((M.map nI).length)), .ref xL, .int (nI O.length), .ref xO, .int (nI K.length), .ref xK, .int md, .ref xR, .int (nI (((W1 ++ wnum bi d).map nI).length)), .ref xW, .int at_, .long nu, .long vl, .long pc_, .int (nI bi), .int tk, .int gd])), (xI, .inl (cA, 120, .inl gI)), (xL, .inl (cA, 120, .inl gL)), (xO, .inl (cA, 400, .inl gO)), (xK, .inl (cA, 120, .inl gK)), (xR, .inl (cA, 121, .inl gR)), (xW, .inl (cA, 1000, .inl gW1))]) (va_runS (As := [.long (lN d), .int (nI (told + 1)), .int (nI 0)]) (rest := [.ref mo]) Xf (k_Mo_adapted l D cA _ d (told + 1) false (by omega) (by omega) (by omega)) ⟨cb_of 3 hw w_513 w_7 w_511 (by decide +kernel) (by rw [hR]; exact ⟨Nat.le_of_ble_eq_true rfl, Nat.le_of_ble_eq_true rfl⟩), hw _ w_512⟩ (pre_S hP hD hK hn [] rfl (by decide)) rfl rfl hl.1 rfl (lv_room (Nat.le_of_ble_eq_true rfl)) dMo_toLetters_178 ⟨Nat.zero_le _, Nat.zero_le _⟩) hP hD hS hA [] [0, 1, 2, 3, 4, 5, 6] rfl rfl (by decide) (by decide) (fun r178 u_ H locs hq_ hP hD hS => ?_)
                            obtain rfl : r178 = nI (adN d (told + 1) false) := hq_
                            replace hP : va_P D vwCl [(mo, .inr (5, [.int (nI I.length), .ref xI, .int (nI ((M.map nI).length)), .ref xL, .int (nI O.length), .ref xO, .int (nI K.length), .ref xK, .int md, .ref xR, .int (nI (((W1 ++ wnum bi d).map nI).length)), .ref xW, .int at_, .long nu, .long vl, .long pc_, .int (nI bi), .int tk, .int gd])), (xI, .inl (cA, 120, .inl gI)), (xL, .inl (cA, 120, .inl gL)), (xO, .inl (cA, 400, .inl gO)), (xK, .inl (cA, 120, .inl gK)), (xR, .inl (cA, 121, .inl gR)), (xW, .inl (cA, 1000, .inl gW1))] H := hP.sub [0, 1, 2, 3, 4, 5, 6] rfl
                            replace hD : va_D A [(mo, .inr (5, [.int (nI I.length), .ref xI, .int (nI ((M.map nI).length)), .ref xL, .int (nI O.length), .ref xO, .int (nI K.length), .ref xK, .int md, .ref xR, .int (nI (((W1 ++ wnum bi d).map nI).length)), .ref xW, .int at_, .long nu, .long vl, .long pc_, .int (nI bi), .int tk, .int gd])), (xI, .inl (cA, 120, .inl gI)), (xL, .inl (cA, 120, .inl gL)), (xO, .inl (cA, 400, .inl gO)), (xK, .inl (cA, 120, .inl gK)), (xR, .inl (cA, 121, .inl gR)), (xW, .inl (cA, 1000, .inl gW1))] := hD.sub [0, 1, 2, 3, 4, 5, 6] (by decide) rfl
                            refine va_put (D := D) (ci := 5) (v := .int (nI (adN d (told + 1) false))) (ty := .int) (C := R_Mo) (T := T_Mo) (N := 19) hx hb hw in_Mo ty_Mo ty_Mo_ok nm_Mo hown hK hP hD hS 0 rfl rfl 16 (by decide) (hw _ w_380) (fun _ h9 => h9) rfl (by decide +kernel) rfl rfl (Nat.le_of_ble_eq_true rfl) dMo_toLetters_181 (fun H locs hP hD hS => ?_)
                            have hP : va_P D vwCl [(mo, .inr (5, [.int (nI I.length), .ref xI, .int (nI ((M.map nI).length)), .ref xL, .int (nI O.length), .ref xO, .int (nI K.length), .ref xK, .int md, .ref xR, .int (nI (((W1 ++ wnum bi d).map nI).length)), .ref xW, .int at_, .long nu, .long vl, .long pc_, .int (nI (adN d (told + 1) false)), .int tk, .int gd])), (xI, .inl (cA, 120, .inl gI)), (xL, .inl (cA, 120, .inl gL)), (xO, .inl (cA, 400, .inl gO)), (xK, .inl (cA, 120, .inl gK)), (xR, .inl (cA, 121, .inl gR)), (xW, .inl (cA, 1000, .inl gW1))] H := hP
                            have hD : va_D A [(mo, .inr (5, [.int (nI I.length), .ref xI, .int (nI ((M.map nI).length)), .ref xL, .int (nI O.length), .ref xO, .int (nI K.length), .ref xK, .int md, .ref xR, .int (nI (((W1 ++ wnum bi d).map nI).length)), .ref xW, .int at_, .long nu, .long vl, .long pc_, .int (nI (adN d (told + 1) false)), .int tk, .int gd])), (xI, .inl (cA, 120, .inl gI)), (xL, .inl (cA, 120, .inl gL)), (xO, .inl (cA, 400, .inl gO)), (xK, .inl (cA, 120, .inl gK)), (xR, .inl (cA, 121, .inl gR)), (xW, .inl (cA, 1000, .inl gW1))] := hD
                            refine lv_lconst (v := lN 0) hx hb dMo_toLetters_184 (by decide) ?_
                            refine lv_lstore_n (lv' := [(3, .long (lN 0)), (1, .int (nI (told + 1))), (7, .int (nI k)), (2, .int (nI ((pln M).length))), (5, .int (nI nx)), (0, .ref mo)]) hx hb dMo_toLetters_185 rfl hl (by decide) rfl (fun ls hl => ?_)
                            refine lv_iinc (k := 2) (v := nI (k + 1)) (lv' := [(7, .int (nI (k + 1))), (3, .long (lN 0)), (1, .int (nI (told + 1))), (2, .int (nI ((pln M).length))), (5, .int (nI nx)), (0, .ref mo)]) hx hb dMo_toLetters_186 hl rfl (nI_1 _) (by decide) rfl (fun ls hl => ?_)
                            refine lv_goto (tgt := 113) hx hb dMo_toLetters_189 (by decide) ?_
                            have htl := minv_t hmi h119 h151
                            obtain ⟨k2, rfl⟩ : ∃ k2, kf = k2 + 1 := ⟨kf - 1, by omega⟩
                            rw [tl_s hx1, hx2, h151, decide_eq_false (show ¬ told = (pln M).length by omega)] at hF
                            have hF2 : tlS M k2 nx (leC M nx k + 1) (adN d (told + 1) false) (told + 1) (k + 1) (decide (told + 1 = (pln M).length)) (W1 ++ wnum bi d) = wlS M := by rw [decide_eq_false (show ¬ told + 1 = (pln M).length by omega)]; exact hF
                            have hab := adN_b (d := d) (n := told + 1) (fb := false) (by omega)
                            exact ih_loop3 (k + 1) (told + 1) nx (leC M nx k + 1) (adN d (told + 1) false) (k + 1) 0 (W1 ++ wnum bi d) gW1 k2 _ _ _ (by omega) (by omega) hx3 (by omega) (by omega) (by omega) (by rw [List.length_append]; omega) hW1 hF2 (lv_sub hl [0, 2, 3, 1, 4, 5] rfl) hP hD hS
                          · skip
                            replace h170 := nt_eq (a := told + 1) (b := (pln M).length + 1) (by omega) (by omega) h170
                            refine lv_iconst (v := nI 1) hx hb dMo_toLetters_173 (by decide) ?_
                            refine lv_goto (tgt := 178) hx hb dMo_toLetters_174 (by decide) ?_
                            refine ca_i (wr := [(mo, .inr (5, [.int (nI I.length), .ref xI, .int (nI ((M.map nI).length)), .ref xL, .int (nI O.length), .ref xO, .int (nI K.length), .ref xK, .int md, .ref xR, .int (nI (((W1 ++ wnum bi d).map nI).length)), .ref xW, .int at_, .long nu, .long vl, .long pc_, .int (nI bi), .int tk, .int gd])), (xI, .inl (cA, 120, .inl gI)), (xL, .inl (cA, 120, .inl gL)), (xO, .inl (cA, 400, .inl gO)), (xK, .inl (cA, 120, .inl gK)), (xR, .inl (cA, 121, .inl gR)), (xW, .inl (cA, 1000, .inl gW1))]) (va_runS (As := [.long (lN d), .int (nI (told + 1)), .int (nI 1)]) (rest := [.ref mo]) Xf (k_Mo_adapted l D cA _ d (told + 1) true (by omega) (by omega) (by omega)) ⟨cb_of 3 hw w_513 w_7 w_511 (by decide +kernel) (by rw [hR]; exact ⟨Nat.le_of_ble_eq_true rfl, Nat.le_of_ble_eq_true rfl⟩), hw _ w_512⟩ (pre_S hP hD hK hn [] rfl (by decide)) rfl rfl hl.1 rfl (lv_room (Nat.le_of_ble_eq_true rfl)) dMo_toLetters_178 ⟨Nat.zero_le _, Nat.zero_le _⟩) hP hD hS hA [] [0, 1, 2, 3, 4, 5, 6] rfl rfl (by decide) (by decide) (fun r178 u_ H locs hq_ hP hD hS => ?_)
                            obtain rfl : r178 = nI (adN d (told + 1) true) := hq_
                            replace hP : va_P D vwCl [(mo, .inr (5, [.int (nI I.length), .ref xI, .int (nI ((M.map nI).length)), .ref xL, .int (nI O.length), .ref xO, .int (nI K.length), .ref xK, .int md, .ref xR, .int (nI (((W1 ++ wnum bi d).map nI).length)), .ref xW, .int at_, .long nu, .long vl, .long pc_, .int (nI bi), .int tk, .int gd])), (xI, .inl (cA, 120, .inl gI)), (xL, .inl (cA, 120, .inl gL)), (xO, .inl (cA, 400, .inl gO)), (xK, .inl (cA, 120, .inl gK)), (xR, .inl (cA, 121, .inl gR)), (xW, .inl (cA, 1000, .inl gW1))] H := hP.sub [0, 1, 2, 3, 4, 5, 6] rfl
                            replace hD : va_D A [(mo, .inr (5, [.int (nI I.length), .ref xI, .int (nI ((M.map nI).length)), .ref xL, .int (nI O.length), .ref xO, .int (nI K.length), .ref xK, .int md, .ref xR, .int (nI (((W1 ++ wnum bi d).map nI).length)), .ref xW, .int at_, .long nu, .long vl, .long pc_, .int (nI bi), .int tk, .int gd])), (xI, .inl (cA, 120, .inl gI)), (xL, .inl (cA, 120, .inl gL)), (xO, .inl (cA, 400, .inl gO)), (xK, .inl (cA, 120, .inl gK)), (xR, .inl (cA, 121, .inl gR)), (xW, .inl (cA, 1000, .inl gW1))] := hD.sub [0, 1, 2, 3, 4, 5, 6] (by decide) rfl
                            refine va_put (D := D) (ci := 5) (v := .int (nI (adN d (told + 1) true))) (ty := .int) (C := R_Mo) (T := T_Mo) (N := 19) hx hb hw in_Mo ty_Mo ty_Mo_ok nm_Mo hown hK hP hD hS 0 rfl rfl 16 (by decide) (hw _ w_380) (fun _ h9 => h9) rfl (by decide +kernel) rfl rfl (Nat.le_of_ble_eq_true rfl) dMo_toLetters_181 (fun H locs hP hD hS => ?_)
                            have hP : va_P D vwCl [(mo, .inr (5, [.int (nI I.length), .ref xI, .int (nI ((M.map nI).length)), .ref xL, .int (nI O.length), .ref xO, .int (nI K.length), .ref xK, .int md, .ref xR, .int (nI (((W1 ++ wnum bi d).map nI).length)), .ref xW, .int at_, .long nu, .long vl, .long pc_, .int (nI (adN d (told + 1) true)), .int tk, .int gd])), (xI, .inl (cA, 120, .inl gI)), (xL, .inl (cA, 120, .inl gL)), (xO, .inl (cA, 400, .inl gO)), (xK, .inl (cA, 120, .inl gK)), (xR, .inl (cA, 121, .inl gR)), (xW, .inl (cA, 1000, .inl gW1))] H := hP
                            have hD : va_D A [(mo, .inr (5, [.int (nI I.length), .ref xI, .int (nI ((M.map nI).length)), .ref xL, .int (nI O.length), .ref xO, .int (nI K.length), .ref xK, .int md, .ref xR, .int (nI (((W1 ++ wnum bi d).map nI).length)), .ref xW, .int at_, .long nu, .long vl, .long pc_, .int (nI (adN d (told + 1) true)), .int tk, .int gd])), (xI, .inl (cA, 120, .inl gI)), (xL, .inl (cA, 120, .inl gL)), (xO, .inl (cA, 400, .inl gO)), (xK, .inl (cA, 120, .inl gK)), (xR, .inl (cA, 121, .inl gR)), (xW, .inl (cA, 1000, .inl gW1))] := hD
                            refine lv_lconst (v := lN 0) hx hb dMo_toLetters_184 (by decide) ?_
                            refine lv_lstore_n (lv' := [(3, .long (lN 0)), (1, .int (nI (told + 1))), (7, .int (nI k)), (2, .int (nI ((pln M).length))), (5, .int (nI nx)), (0, .ref mo)]) hx hb dMo_toLetters_185 rfl hl (by decide) rfl (fun ls hl => ?_)
                            refine lv_iinc (k := 2) (v := nI (k + 1)) (lv' := [(7, .int (nI (k + 1))), (3, .long (lN 0)), (1, .int (nI (told + 1))), (2, .int (nI ((pln M).length))), (5, .int (nI nx)), (0, .ref mo)]) hx hb dMo_toLetters_186 hl rfl (nI_1 _) (by decide) rfl (fun ls hl => ?_)
                            refine lv_goto (tgt := 113) hx hb dMo_toLetters_189 (by decide) ?_
                            have htl := minv_t hmi h119 h151
                            obtain ⟨k2, rfl⟩ : ∃ k2, kf = k2 + 1 := ⟨kf - 1, by omega⟩
                            rw [tl_s hx1, hx2, h151, decide_eq_true (show told = (pln M).length by omega)] at hF
                            have hF2 : tlS M k2 nx (leC M nx k + 1) (adN d (told + 1) true) (told + 1) (k + 1) (decide (told + 1 = (pln M).length)) (W1 ++ wnum bi d) = wlS M := by rw [decide_eq_false (show ¬ told + 1 = (pln M).length by omega)]; exact hF
                            have hab := adN_b (d := d) (n := told + 1) (fb := true) (by omega)
                            exact ih_loop3 (k + 1) (told + 1) nx (leC M nx k + 1) (adN d (told + 1) true) (k + 1) 0 (W1 ++ wnum bi d) gW1 k2 _ _ _ (by omega) (by omega) hx3 (by omega) (by omega) (by omega) (by rw [List.length_append]; omega) hW1 hF2 (lv_sub hl [0, 2, 3, 1, 4, 5] rfl) hP hD hS
                      · skip
                        replace h131 := nt_nle (a := nx) (b := M.getD k 0) (by omega) (by omega) h131
                        refine lv_lload_n hx hb dMo_toLetters_134 rfl (lv_at hl 3 rfl) ?_
                        refine lv_lconst (v := lN 1) hx hb dMo_toLetters_135 (by decide) ?_
                        refine lv_ladd hx hb dMo_toLetters_136 ?_
                        refine lv_rel (y := lN (d + 1)) (lN_add _ _) ?_
                        refine lv_goto (tgt := 141) hx hb dMo_toLetters_137 (by decide) ?_
                        refine lv_lstore_n (lv' := [(3, .long (lN (d + 1))), (7, .int (nI k)), (1, .int (nI told)), (2, .int (nI ((pln M).length))), (5, .int (nI nx)), (0, .ref mo)]) hx hb dMo_toLetters_141 rfl hl (by decide) rfl (fun ls hl => ?_)
                        refine lv_aload_n hx hb dMo_toLetters_142 rfl (lv_at hl 5 rfl) ?_
                        refine va_get (D := D) (ci := 5) (v := .ref xL) (C := R_Mo) (T := T_Mo) (N := 19) hx hb hw in_Mo hown hK hP 0 rfl rfl 3 (by decide) (hw _ w_367) (fun _ h9 => h9) rfl dMo_toLetters_143 ?_
                        refine lv_iload hx hb dMo_toLetters_146 (lv_at hl 1 rfl) ?_
                        refine va_iald hx hb hK hP 2 0 rfl rfl (vp_in_nI (by omega) (by omega)) dMo_toLetters_148 ?_
                        refine lv_rei (y := gL k) (by rw [nI_clamp (by omega)]) ?_
                        refine lv_rei (y := nI (M.getD k 0)) ((Hd_un hfL (by rw [List.length_map]; omega)).trans (un_map (by omega))) ?_
                        refine lv_iload hx hb dMo_toLetters_149 (lv_at hl 4 rfl) ?_
                        refine lv_icmp_ne (tgt := 186) hx hb dMo_toLetters_151 (by decide) (fun h151 => ?_) (fun h151 => ?_)
                        · skip
                          refine lv_iinc (k := 1) (v := nI (k + 1)) (lv' := [(7, .int (nI (k + 1))), (3, .long (lN (d + 1))), (1, .int (nI told)), (2, .int (nI ((pln M).length))), (5, .int (nI nx)), (0, .ref mo)]) hx hb dMo_toLetters_186 hl rfl (nI_1 _) (by decide) rfl (fun ls hl => ?_)
                          refine lv_goto (tgt := 113) hx hb dMo_toLetters_189 (by decide) ?_
                          have hm2 := minv_lt hmi h119 h131
                          exact ih_loop3 (k + 1) told va pl bi la (d + 1) W1 hW_ kf _ _ _ (by omega) (by omega) hm2 htk hbt hbi hwl hW hF (lv_sub hl [0, 2, 3, 1, 4, 5] rfl) hP hD hS
                        · skip
                          exact absurd (nt_eq (a := M.getD k 0) (b := nx) (by omega) (by omega) h151) (by omega)
                exact loop3 _ 0 told va pl bi la (d + ((nx - v) * (told + 1))) W1 hW_ kf _ _ _ (Nat.lt_succ_self _) (Nat.zero_le _) hmi htk hbt hbi hwl hW hF (lv_sub hl [0, 4, 5, 2, 1, 6] rfl) hP hD hS
          exact loop2 _ 128 ((pln M).length) 128 0 72 0 0 (if (pln M).length = 0 then pln M else pln M ++ [45]) hW_ (M.length - (pln M).length) _ _ _ (Nat.lt_succ_self _) (by omega) (minv_0 M) (by omega) (Nat.le_refl _) (by omega) (by omega) hW (by rw [decide_eq_true rfl]; rfl) (lv_sub hl [3, 2, 1, 0, 4] rfl) hP hD hS
        · skip
          replace h54 := nt_nle (a := (pln M).length) (b := 0) (by omega) (by omega) h54
          refine lv_aload_n hx hb dMo_toLetters_57 rfl (lv_at hl 2 rfl) ?_
          refine lv_bipush (v := nI 45) hx hb dMo_toLetters_58 (by decide) ?_
          refine ca_v (wr := []) (va_runV (As := [.int (nI 45)]) (rest := []) Xf (k_Mo_put l D cA _ mo xI xL xO xK xR xW I (M.map nI) O K gI gL gO gK gR hW_ md at_ nu vl pc_ bs tk gd ((pln M).map nI) (nI 45) hfI hcI hfL hcL hfO hcO hfK hcK hW (by simp only [List.length_map]; omega)) ⟨cb_of 1 hw w_527 w_7 w_524 (by decide +kernel) (by rw [hR]; exact ⟨Nat.le_of_ble_eq_true rfl, Nat.le_of_ble_eq_true rfl⟩), hw _ w_526, hw _ ws_22⟩ (pre_V (As := [.int (nI 45)]) hP hD hK hn [0, 1, 2, 3, 4, 5, 6] rfl (by decide) 0 5 rfl rfl) rfl rfl hl.1 rfl (lv_room (Nat.le_of_ble_eq_true rfl)) dMo_toLetters_60 ⟨Nat.zero_le _, Nat.zero_le _⟩) hP hD hS hA [0, 1, 2, 3, 4, 5, 6] [] rfl rfl (by decide) (by decide) (fun u_ H locs hq_ hP hD hS => ?_)
          obtain ⟨gW2, hgW2⟩ : ∃ z, z = u_ := ⟨_, rfl⟩
          rw [← hgW2] at hP hD hq_
          have hW2 := hq_
          replace hP : va_P D vwCl [(mo, .inr (5, [.int (nI I.length), .ref xI, .int (nI ((M.map nI).length)), .ref xL, .int (nI O.length), .ref xO, .int (nI K.length), .ref xK, .int md, .ref xR, .int (nI ((((pln M).map nI) ++ [nI 45]).length)), .ref xW, .int at_, .long nu, .long vl, .long pc_, .int bs, .int tk, .int gd])), (xI, .inl (cA, 120, .inl gI)), (xL, .inl (cA, 120, .inl gL)), (xO, .inl (cA, 400, .inl gO)), (xK, .inl (cA, 120, .inl gK)), (xR, .inl (cA, 121, .inl gR)), (xW, .inl (cA, 1000, .inl gW2))] H := hP.sub [0, 1, 2, 3, 4, 5, 6] rfl
          replace hD : va_D A [(mo, .inr (5, [.int (nI I.length), .ref xI, .int (nI ((M.map nI).length)), .ref xL, .int (nI O.length), .ref xO, .int (nI K.length), .ref xK, .int md, .ref xR, .int (nI ((((pln M).map nI) ++ [nI 45]).length)), .ref xW, .int at_, .long nu, .long vl, .long pc_, .int bs, .int tk, .int gd])), (xI, .inl (cA, 120, .inl gI)), (xL, .inl (cA, 120, .inl gL)), (xO, .inl (cA, 400, .inl gO)), (xK, .inl (cA, 120, .inl gK)), (xR, .inl (cA, 121, .inl gR)), (xW, .inl (cA, 1000, .inl gW2))] := hD.sub [0, 1, 2, 3, 4, 5, 6] (by decide) rfl
          have ep : pln M ++ [45] = (if (pln M).length = 0 then pln M else pln M ++ [45]) := by rw [if_neg (by omega)]
          rw [map_snoc, ep] at hP hD hW2
          have hp45 : (if (pln M).length = 0 then pln M else pln M ++ [45]).length ≤ 121 := by rw [← ep]; rw [List.length_append, List.length_singleton]; omega
          refine lv_aload_n hx hb dMo_toLetters_63 rfl (lv_at hl 2 rfl) ?_
          refine lv_bipush (v := nI 72) hx hb dMo_toLetters_64 (by decide) ?_
          refine va_put (D := D) (ci := 5) (v := .int (nI 72)) (ty := .int) (C := R_Mo) (T := T_Mo) (N := 19) hx hb hw in_Mo ty_Mo ty_Mo_ok nm_Mo hown hK hP hD hS 0 rfl rfl 16 (by decide) (hw _ w_380) (fun _ h9 => h9) rfl (by decide +kernel) rfl rfl (Nat.le_of_ble_eq_true rfl) dMo_toLetters_66 (fun H locs hP hD hS => ?_)
          have hP : va_P D vwCl [(mo, .inr (5, [.int (nI I.length), .ref xI, .int (nI ((M.map nI).length)), .ref xL, .int (nI O.length), .ref xO, .int (nI K.length), .ref xK, .int md, .ref xR, .int (nI (((if (pln M).length = 0 then pln M else pln M ++ [45]).map nI).length)), .ref xW, .int at_, .long nu, .long vl, .long pc_, .int (nI 72), .int tk, .int gd])), (xI, .inl (cA, 120, .inl gI)), (xL, .inl (cA, 120, .inl gL)), (xO, .inl (cA, 400, .inl gO)), (xK, .inl (cA, 120, .inl gK)), (xR, .inl (cA, 121, .inl gR)), (xW, .inl (cA, 1000, .inl gW2))] H := hP
          have hD : va_D A [(mo, .inr (5, [.int (nI I.length), .ref xI, .int (nI ((M.map nI).length)), .ref xL, .int (nI O.length), .ref xO, .int (nI K.length), .ref xK, .int md, .ref xR, .int (nI (((if (pln M).length = 0 then pln M else pln M ++ [45]).map nI).length)), .ref xW, .int at_, .long nu, .long vl, .long pc_, .int (nI 72), .int tk, .int gd])), (xI, .inl (cA, 120, .inl gI)), (xL, .inl (cA, 120, .inl gL)), (xO, .inl (cA, 400, .inl gO)), (xK, .inl (cA, 120, .inl gK)), (xR, .inl (cA, 121, .inl gR)), (xW, .inl (cA, 1000, .inl gW2))] := hD
          refine lv_lconst (v := lN 0) hx hb dMo_toLetters_69 (by decide) ?_
          refine lv_lstore_n (lv' := [(3, .long (lN 0)), (2, .int (nI ((pln M).length))), (1, .int (nI ((pln M).length))), (0, .ref mo)]) hx hb dMo_toLetters_70 rfl hl (by decide) rfl (fun ls hl => ?_)
          refine lv_sipush (v := nI 128) hx hb dMo_toLetters_71 (by decide) ?_
          refine lv_istore (lv' := [(5, .int (nI 128)), (3, .long (lN 0)), (2, .int (nI ((pln M).length))), (1, .int (nI ((pln M).length))), (0, .ref mo)]) hx hb dMo_toLetters_74 hl (by decide) rfl (fun ls hl => ?_)
          have loop2 : ∀ (n_ : Nat) (v : Nat) (told : Nat) (va : Nat) (pl : Nat) (bi : Nat) (la : Nat) (d : Nat) (W1 : List Nat) (hW_ : Nat → Int32) (kf : Nat) (ls : Array Slot) (H : Heap) (locs : List Loc), 1114113 - v < n_ → v ≤ 1114112 → minv M va pl told la v 0 d → told + kf = M.length → (pln M).length ≤ told → bi ≤ 252 → W1.length ≤ 121 + 11 * told → Hw hW_ (W1.map nI) → tlS M kf va pl bi told la (decide (told = (pln M).length)) W1 = wlS M → lv_has ls 8 [(1, .int (nI told)), (2, .int (nI ((pln M).length))), (3, .long (lN d)), (5, .int (nI v)), (0, .ref mo)] → va_P D vwCl [(mo, .inr (5, [.int (nI I.length), .ref xI, .int (nI ((M.map nI).length)), .ref xL, .int (nI O.length), .ref xO, .int (nI K.length), .ref xK, .int md, .ref xR, .int (nI ((W1.map nI).length)), .ref xW, .int at_, .long nu, .long vl, .long pc_, .int (nI bi), .int tk, .int gd])), (xI, .inl (cA, 120, .inl gI)), (xL, .inl (cA, 120, .inl gL)), (xO, .inl (cA, 400, .inl gO)), (xK, .inl (cA, 120, .inl gK)), (xR, .inl (cA, 121, .inl gR)), (xW, .inl (cA, 1000, .inl hW_))] H → va_D A [(mo, .inr (5, [.int (nI I.length), .ref xI, .int (nI ((M.map nI).length)), .ref xL, .int (nI O.length), .ref xO, .int (nI K.length), .ref xK, .int md, .ref xR, .int (nI ((W1.map nI).length)), .ref xW, .int at_, .long nu, .long vl, .long pc_, .int (nI bi), .int tk, .int gd])), (xI, .inl (cA, 120, .inl gI)), (xL, .inl (cA, 120, .inl gL)), (xO, .inl (cA, 400, .inl gO)), (xK, .inl (cA, 120, .inl gK)), (xR, .inl (cA, 121, .inl gR)), (xW, .inl (cA, 1000, .inl hW_))] → va_S A s.heap H locs → W p l e R s m args below meth c H locs 0 0 Q (F0 m 76 ls []) := by
            intro n_
            induction n_ with
            | zero => intro v told va pl bi la d W1 hW_ kf ls H locs hm_; exact absurd hm_ (Nat.not_lt_zero _)
            | succ n_ ih_loop2 =>
              intro v told va pl bi la d W1 hW_ kf ls H locs hm_ hv hmi htk hbt hbi hwl hW hF hl hP hD hS
              refine lv_iload_n hx hb dMo_toLetters_76 rfl (lv_at hl 0 rfl) ?_
              refine lv_aload_n hx hb dMo_toLetters_77 rfl (lv_at hl 4 rfl) ?_
              refine va_get (D := D) (ci := 5) (v := .int (nI ((M.map nI).length))) (C := R_Mo) (T := T_Mo) (N := 19) hx hb hw in_Mo hown hK hP 0 rfl rfl 2 (by decide) (hw _ w_366) (fun _ h9 => h9) rfl dMo_toLetters_78 ?_
              refine lv_icmp_ge (tgt := 205) hx hb dMo_toLetters_81 (by decide) (fun h81 => ?_) (fun h81 => ?_)
              · skip
                replace h81 := nt_le (a := (M.map nI).length) (b := told) (by omega) (by omega) h81
                rw [List.length_map] at h81
                have hz : W1 = wlS M := by rw [← hF, show kf = 0 by omega]; rfl
                have hlm : (W1.map nI).length = W1.length := List.length_map _
                refine lv_aload_n hx hb dMo_toLetters_205 rfl (lv_at hl 4 rfl) ?_
                refine ca_i (wr := []) (va_runV (As := []) (rest := []) Xf (k_Mo_give l D cA _ mo xI xL xO xK xR xW I (M.map nI) O K gI gL gO gK gR hW_ md at_ nu vl pc_ (nI bi) tk gd (W1.map nI) hfI hcI hfL hcL hfO hcO hfK hcK hW (by omega)) ⟨cb_of 0 hw w_532 w_7 w_529 (by decide +kernel) (by rw [hR]; exact ⟨Nat.le_of_ble_eq_true rfl, Nat.le_of_ble_eq_true rfl⟩), hw _ w_531, hw _ ws_23⟩ (pre_V (As := []) hP hD hK hn [0, 1, 2, 3, 4, 5, 6] rfl (by decide) 0 5 rfl rfl) rfl rfl hl.1 rfl (lv_room (Nat.le_of_ble_eq_true rfl)) dMo_toLetters_206 ⟨Nat.zero_le _, Nat.zero_le _⟩) hP hD hS hA [0, 1, 2, 3, 4, 5, 6] [] rfl rfl (by decide) (by decide) (fun r206 u_ H locs hq_ hP hD hS => ?_)
                obtain ⟨O_, gO_⟩ := u_
                dsimp only at hq_ hP hD
                rcases hq_ with ⟨hgl, rfl, hO_, hfO_⟩ | ⟨hgl, rfl, hO_, hfO_⟩
                · skip
                  subst O_
                  replace hP : va_P D vwCl [(mo, .inr (5, [.int (nI I.length), .ref xI, .int (nI ((M.map nI).length)), .ref xL, .int (nI ((W1.map nI).length)), .ref xO, .int (nI K.length), .ref xK, .int md, .ref xR, .int (nI ((W1.map nI).length)), .ref xW, .int at_, .long nu, .long vl, .long pc_, .int (nI bi), .int tk, .int gd])), (xI, .inl (cA, 120, .inl gI)), (xL, .inl (cA, 120, .inl gL)), (xO, .inl (cA, 400, .inl gO_)), (xK, .inl (cA, 120, .inl gK)), (xR, .inl (cA, 121, .inl gR)), (xW, .inl (cA, 1000, .inl hW_))] H := hP.sub [0, 1, 2, 3, 4, 5, 6] rfl
                  replace hD : va_D A [(mo, .inr (5, [.int (nI I.length), .ref xI, .int (nI ((M.map nI).length)), .ref xL, .int (nI ((W1.map nI).length)), .ref xO, .int (nI K.length), .ref xK, .int md, .ref xR, .int (nI ((W1.map nI).length)), .ref xW, .int at_, .long nu, .long vl, .long pc_, .int (nI bi), .int tk, .int gd])), (xI, .inl (cA, 120, .inl gI)), (xL, .inl (cA, 120, .inl gL)), (xO, .inl (cA, 400, .inl gO_)), (xK, .inl (cA, 120, .inl gK)), (xR, .inl (cA, 121, .inl gR)), (xW, .inl (cA, 1000, .inl hW_))] := hD.sub [0, 1, 2, 3, 4, 5, 6] (by decide) rfl
                  rw [hz, List.length_map] at hgl
                  exact ret ((W1.map nI), gO_, nI ((W1.map nI).length), hW_, nI bi) dMo_toLetters_209 rfl ⟨by unfold spX; rw [hz, if_pos hgl, List.length_map], by unfold spX; rw [hz, if_pos hgl], hfO_, by rw [hz, List.length_map]; exact hgl⟩ hP hD hS
                · skip
                  subst O_
                  replace hP : va_P D vwCl [(mo, .inr (5, [.int (nI I.length), .ref xI, .int (nI ((M.map nI).length)), .ref xL, .int (nI O.length), .ref xO, .int (nI K.length), .ref xK, .int md, .ref xR, .int (nI ((W1.map nI).length)), .ref xW, .int at_, .long nu, .long vl, .long pc_, .int (nI bi), .int tk, .int gd])), (xI, .inl (cA, 120, .inl gI)), (xL, .inl (cA, 120, .inl gL)), (xO, .inl (cA, 400, .inl gO_)), (xK, .inl (cA, 120, .inl gK)), (xR, .inl (cA, 121, .inl gR)), (xW, .inl (cA, 1000, .inl hW_))] H := hP.sub [0, 1, 2, 3, 4, 5, 6] rfl
                  replace hD : va_D A [(mo, .inr (5, [.int (nI I.length), .ref xI, .int (nI ((M.map nI).length)), .ref xL, .int (nI O.length), .ref xO, .int (nI K.length), .ref xK, .int md, .ref xR, .int (nI ((W1.map nI).length)), .ref xW, .int at_, .long nu, .long vl, .long pc_, .int (nI bi), .int tk, .int gd])), (xI, .inl (cA, 120, .inl gI)), (xL, .inl (cA, 120, .inl gL)), (xO, .inl (cA, 400, .inl gO_)), (xK, .inl (cA, 120, .inl gK)), (xR, .inl (cA, 121, .inl gR)), (xW, .inl (cA, 1000, .inl hW_))] := hD.sub [0, 1, 2, 3, 4, 5, 6] (by decide) rfl
                  rw [hz, List.length_map] at hgl
                  exact ret (O, gO_, nI ((W1.map nI).length), hW_, nI bi) dMo_toLetters_209 rfl ⟨by unfold spX; rw [if_neg (by omega)], by unfold spX; rw [if_neg (by omega)], hfO_, hcO⟩ hP hD hS
              · skip
                replace h81 := nt_nle (a := (M.map nI).length) (b := told) (by omega) (by omega) h81
                rw [List.length_map] at h81
                refine lv_aload_n hx hb dMo_toLetters_84 rfl (lv_at hl 4 rfl) ?_
                refine lv_iload hx hb dMo_toLetters_85 (lv_at hl 3 rfl) ?_
                refine ca_i (wr := []) (va_runV (As := [.int (nI v)]) (rest := []) Xf (k_Mo_leastFrom l D cA _ mo xI xL xO xK xR xW I O K gI gL gO gK gR hW_ md (nI ((W1.map nI).length)) at_ nu vl pc_ (nI bi) tk gd M v hfI hcI hfL hcL hfO hcO hfK hcK hMb (by omega)) ⟨cb_of 1 hw w_544 w_7 w_541 (by decide +kernel) (by rw [hR]; exact ⟨Nat.le_of_ble_eq_true rfl, Nat.le_of_ble_eq_true rfl⟩), hw _ w_543, hw _ ws_24⟩ (pre_V (As := [.int (nI v)]) hP hD hK hn [0, 1, 2, 3, 4, 5, 6] rfl (by decide) 0 5 rfl rfl) rfl rfl hl.1 rfl (lv_room (Nat.le_of_ble_eq_true rfl)) dMo_toLetters_87 ⟨Nat.zero_le _, Nat.zero_le _⟩) hP hD hS hA [0, 1, 2, 3, 4, 5, 6] [] rfl rfl (by decide) (by decide) (fun r87 u_ H locs hq_ hP hD hS => ?_)
                obtain rfl : r87 = ov (lfG M v M.length) := hq_
                replace hP : va_P D vwCl [(mo, .inr (5, [.int (nI I.length), .ref xI, .int (nI ((M.map nI).length)), .ref xL, .int (nI O.length), .ref xO, .int (nI K.length), .ref xK, .int md, .ref xR, .int (nI ((W1.map nI).length)), .ref xW, .int at_, .long nu, .long vl, .long pc_, .int (nI bi), .int tk, .int gd])), (xI, .inl (cA, 120, .inl gI)), (xL, .inl (cA, 120, .inl gL)), (xO, .inl (cA, 400, .inl gO)), (xK, .inl (cA, 120, .inl gK)), (xR, .inl (cA, 121, .inl gR)), (xW, .inl (cA, 1000, .inl hW_))] H := hP.sub [0, 1, 2, 3, 4, 5, 6] rfl
                replace hD : va_D A [(mo, .inr (5, [.int (nI I.length), .ref xI, .int (nI ((M.map nI).length)), .ref xL, .int (nI O.length), .ref xO, .int (nI K.length), .ref xK, .int md, .ref xR, .int (nI ((W1.map nI).length)), .ref xW, .int at_, .long nu, .long vl, .long pc_, .int (nI bi), .int tk, .int gd])), (xI, .inl (cA, 120, .inl gI)), (xL, .inl (cA, 120, .inl gL)), (xO, .inl (cA, 400, .inl gO)), (xK, .inl (cA, 120, .inl gK)), (xR, .inl (cA, 121, .inl gR)), (xW, .inl (cA, 1000, .inl hW_))] := hD.sub [0, 1, 2, 3, 4, 5, 6] (by decide) rfl
                have hnx : ∃ nx, lfG M v M.length = some nx := by
                  cases hx : lfG M v M.length with
                  | some b => exact ⟨b, rfl⟩
                  | none =>
                    have h1 := lf_no _ hx
                    obtain ⟨⟨-, hct, -⟩, -, -, he, -⟩ := hmi
                    obtain ⟨j, hj, hu⟩ := cnt_ex (M := M) (v := va) (la := la) M.length (by omega)
                    have h2 := he j hj hu
                    have h3 := h1 j hj
                    omega
                obtain ⟨nx, hnx⟩ := hnx
                obtain ⟨hn1, ⟨jn, hjn, hjv⟩, hn3⟩ := lf_so _ _ hnx
                have hnb : nx ≤ 1114111 := by rw [← hjv]; exact getD_b hMb hjn
                refine lv_rei (y := nI nx) (by rw [hnx]; rfl) ?_
                replace hmi := minv_up hmi hn1 hn3
                have hdb := minv_b hmi (by omega) (by omega) (by omega)
                refine lv_istore (lv' := [(6, .int (nI nx)), (1, .int (nI told)), (2, .int (nI ((pln M).length))), (3, .long (lN d)), (5, .int (nI v)), (0, .ref mo)]) hx hb dMo_toLetters_90 hl (by decide) rfl (fun ls hl => ?_)
                refine lv_lload_n hx hb dMo_toLetters_92 rfl (lv_at hl 3 rfl) ?_
                refine lv_iload hx hb dMo_toLetters_93 (lv_at hl 0 rfl) ?_
                refine lv_iload hx hb dMo_toLetters_95 (lv_at hl 4 rfl) ?_
                refine lv_isub hx hb dMo_toLetters_97 ?_
                refine lv_rei (y := nI (nx - v)) (pk_sub (by omega)) ?_
                refine lv_i2l (v := lN (nx - v)) hx hb dMo_toLetters_98 (nI_l (by omega)) ?_
                refine lv_iload_n hx hb dMo_toLetters_99 rfl (lv_at hl 1 rfl) ?_
                refine lv_iconst (v := nI 1) hx hb dMo_toLetters_100 (by decide) ?_
                refine lv_iadd hx hb dMo_toLetters_101 ?_
                refine lv_rei (y := nI (told + 1)) (nI_add _ _) ?_
                refine lv_i2l (v := lN (told + 1)) hx hb dMo_toLetters_102 (nI_l (by omega)) ?_
                refine lv_lmul hx hb dMo_toLetters_103 ?_
                refine lv_rel (y := lN ((nx - v) * (told + 1))) (lN_mul _ _) ?_
                refine lv_ladd hx hb dMo_toLetters_104 ?_
                refine lv_rel (y := lN (d + ((nx - v) * (told + 1)))) (lN_add _ _) ?_
                refine lv_lstore_n (lv' := [(3, .long (lN (d + ((nx - v) * (told + 1))))), (6, .int (nI nx)), (1, .int (nI told)), (2, .int (nI ((pln M).length))), (5, .int (nI v)), (0, .ref mo)]) hx hb dMo_toLetters_105 rfl hl (by decide) rfl (fun ls hl => ?_)
                refine lv_iload hx hb dMo_toLetters_106 (lv_at hl 1 rfl) ?_
                refine lv_istore (lv' := [(5, .int (nI nx)), (3, .long (lN (d + ((nx - v) * (told + 1))))), (6, .int (nI nx)), (1, .int (nI told)), (2, .int (nI ((pln M).length))), (0, .ref mo)]) hx hb dMo_toLetters_108 hl (by decide) rfl (fun ls hl => ?_)
                refine lv_iconst (v := nI 0) hx hb dMo_toLetters_110 (by decide) ?_
                refine lv_istore (lv' := [(7, .int (nI 0)), (5, .int (nI nx)), (3, .long (lN (d + ((nx - v) * (told + 1))))), (6, .int (nI nx)), (1, .int (nI told)), (2, .int (nI ((pln M).length))), (0, .ref mo)]) hx hb dMo_toLetters_111 hl (by decide) rfl (fun ls hl => ?_)
                have loop3 : ∀ (n_ : Nat) (k : Nat) (told : Nat) (va : Nat) (pl : Nat) (bi : Nat) (la : Nat) (d : Nat) (W1 : List Nat) (hW_ : Nat → Int32) (kf : Nat) (ls : Array Slot) (H : Heap) (locs : List Loc), M.length - k < n_ → k ≤ M.length → minv M va pl told la nx k d → told + kf = M.length → (pln M).length ≤ told → bi ≤ 252 → W1.length ≤ 121 + 11 * told → Hw hW_ (W1.map nI) → tlS M kf va pl bi told la (decide (told = (pln M).length)) W1 = wlS M → lv_has ls 8 [(7, .int (nI k)), (1, .int (nI told)), (2, .int (nI ((pln M).length))), (3, .long (lN d)), (5, .int (nI nx)), (0, .ref mo)] → va_P D vwCl [(mo, .inr (5, [.int (nI I.length), .ref xI, .int (nI ((M.map nI).length)), .ref xL, .int (nI O.length), .ref xO, .int (nI K.length), .ref xK, .int md, .ref xR, .int (nI ((W1.map nI).length)), .ref xW, .int at_, .long nu, .long vl, .long pc_, .int (nI bi), .int tk, .int gd])), (xI, .inl (cA, 120, .inl gI)), (xL, .inl (cA, 120, .inl gL)), (xO, .inl (cA, 400, .inl gO)), (xK, .inl (cA, 120, .inl gK)), (xR, .inl (cA, 121, .inl gR)), (xW, .inl (cA, 1000, .inl hW_))] H → va_D A [(mo, .inr (5, [.int (nI I.length), .ref xI, .int (nI ((M.map nI).length)), .ref xL, .int (nI O.length), .ref xO, .int (nI K.length), .ref xK, .int md, .ref xR, .int (nI ((W1.map nI).length)), .ref xW, .int at_, .long nu, .long vl, .long pc_, .int (nI bi), .int tk, .int gd])), (xI, .inl (cA, 120, .inl gI)), (xL, .inl (cA, 120, .inl gL)), (xO, .inl (cA, 400, .inl gO)), (xK, .inl (cA, 120, .inl gK)), (xR, .inl (cA, 121, .inl gR)), (xW, .inl (cA, 1000, .inl hW_))] → va_S A s.heap H locs → W p l e R s m args below meth c H locs 0 0 Q (F0 m 113 ls []) := by
                  intro n_
                  induction n_ with
                  | zero => intro k told va pl bi la d W1 hW_ kf ls H locs hm_; exact absurd hm_ (Nat.not_lt_zero _)
                  | succ n_ ih_loop3 =>
                    intro k told va pl bi la d W1 hW_ kf ls H locs hm_ hk hmi htk hbt hbi hwl hW hF hl hP hD hS
                    refine lv_iload hx hb dMo_toLetters_113 (lv_at hl 0 rfl) ?_
                    refine lv_aload_n hx hb dMo_toLetters_115 rfl (lv_at hl 5 rfl) ?_
                    refine va_get (D := D) (ci := 5) (v := .int (nI ((M.map nI).length))) (C := R_Mo) (T := T_Mo) (N := 19) hx hb hw in_Mo hown hK hP 0 rfl rfl 2 (by decide) (hw _ w_366) (fun _ h9 => h9) rfl dMo_toLetters_116 ?_
                    refine lv_icmp_ge (tgt := 192) hx hb dMo_toLetters_119 (by decide) (fun h119 => ?_) (fun h119 => ?_)
                    · skip
                      replace h119 := nt_le (a := (M.map nI).length) (b := k) (by omega) (by omega) h119
                      rw [List.length_map] at h119
                      have hke : k = M.length := by omega
                      rw [hke] at hmi
                      have hdb := minv_b hmi (by omega) (by omega) (by omega)
                      refine lv_lload_n hx hb dMo_toLetters_192 rfl (lv_at hl 3 rfl) ?_
                      refine lv_lconst (v := lN 1) hx hb dMo_toLetters_193 (by decide) ?_
                      refine lv_ladd hx hb dMo_toLetters_194 ?_
                      refine lv_rel (y := lN (d + 1)) (lN_add _ _) ?_
                      refine lv_lstore_n (lv' := [(3, .long (lN (d + 1))), (7, .int (nI k)), (1, .int (nI told)), (2, .int (nI ((pln M).length))), (5, .int (nI nx)), (0, .ref mo)]) hx hb dMo_toLetters_195 rfl hl (by decide) rfl (fun ls hl => ?_)
                      refine lv_iload hx hb dMo_toLetters_196 (lv_at hl 4 rfl) ?_
                      refine lv_iconst (v := nI 1) hx hb dMo_toLetters_198 (by decide) ?_
                      refine lv_iadd hx hb dMo_toLetters_199 ?_
                      refine lv_rei (y := nI (nx + 1)) (nI_add _ _) ?_
                      refine lv_istore (lv' := [(5, .int (nI (nx + 1))), (3, .long (lN (d + 1))), (7, .int (nI k)), (1, .int (nI told)), (2, .int (nI ((pln M).length))), (0, .ref mo)]) hx hb dMo_toLetters_200 hl (by decide) rfl (fun ls hl => ?_)
                      refine lv_goto (tgt := 76) hx hb dMo_toLetters_202 (by decide) ?_
                      have hme := minv_end hmi
                      exact ih_loop2 (nx + 1) told va pl bi la (d + 1) W1 hW_ kf _ _ _ (by omega) (by omega) hme htk hbt hbi hwl hW hF (lv_sub hl [3, 4, 1, 0, 5] rfl) hP hD hS
                    · skip
                      replace h119 := nt_nle (a := (M.map nI).length) (b := k) (by omega) (by omega) h119
                      rw [List.length_map] at h119
                      have hkb : M.getD k 0 ≤ 1114111 := getD_b hMb (by omega)
                      have hdb := minv_b hmi (by omega) (by omega) (by omega)
                      have hlm : (W1.map nI).length = W1.length := List.length_map _
                      refine lv_aload_n hx hb dMo_toLetters_122 rfl (lv_at hl 5 rfl) ?_
                      refine va_get (D := D) (ci := 5) (v := .ref xL) (C := R_Mo) (T := T_Mo) (N := 19) hx hb hw in_Mo hown hK hP 0 rfl rfl 3 (by decide) (hw _ w_367) (fun _ h9 => h9) rfl dMo_toLetters_123 ?_
                      refine lv_iload hx hb dMo_toLetters_126 (lv_at hl 0 rfl) ?_
                      refine va_iald hx hb hK hP 2 0 rfl rfl (vp_in_nI (by omega) (by omega)) dMo_toLetters_128 ?_
                      refine lv_rei (y := gL k) (by rw [nI_clamp (by omega)]) ?_
                      refine lv_rei (y := nI (M.getD k 0)) ((Hd_un hfL (by rw [List.length_map]; omega)).trans (un_map (by omega))) ?_
                      refine lv_iload hx hb dMo_toLetters_129 (lv_at hl 4 rfl) ?_
                      refine lv_icmp_ge (tgt := 140) hx hb dMo_toLetters_131 (by decide) (fun h131 => ?_) (fun h131 => ?_)
                      · skip
                        replace h131 := nt_le (a := nx) (b := M.getD k 0) (by omega) (by omega) h131
                        refine lv_lload_n hx hb dMo_toLetters_140 rfl (lv_at hl 3 rfl) ?_
                        refine lv_lstore_n (lv' := [(3, .long (lN d)), (7, .int (nI k)), (1, .int (nI told)), (2, .int (nI ((pln M).length))), (5, .int (nI nx)), (0, .ref mo)]) hx hb dMo_toLetters_141 rfl hl (by decide) rfl (fun ls hl => ?_)
                        refine lv_aload_n hx hb dMo_toLetters_142 rfl (lv_at hl 5 rfl) ?_
                        refine va_get (D := D) (ci := 5) (v := .ref xL) (C := R_Mo) (T := T_Mo) (N := 19) hx hb hw in_Mo hown hK hP 0 rfl rfl 3 (by decide) (hw _ w_367) (fun _ h9 => h9) rfl dMo_toLetters_143 ?_
                        refine lv_iload hx hb dMo_toLetters_146 (lv_at hl 1 rfl) ?_
                        refine va_iald hx hb hK hP 2 0 rfl rfl (vp_in_nI (by omega) (by omega)) dMo_toLetters_148 ?_
                        refine lv_rei (y := gL k) (by rw [nI_clamp (by omega)]) ?_
                        refine lv_rei (y := nI (M.getD k 0)) ((Hd_un hfL (by rw [List.length_map]; omega)).trans (un_map (by omega))) ?_
                        refine lv_iload hx hb dMo_toLetters_149 (lv_at hl 4 rfl) ?_
                        refine lv_icmp_ne (tgt := 186) hx hb dMo_toLetters_151 (by decide) (fun h151 => ?_) (fun h151 => ?_)
                        · skip
                          replace h151 := nt_ne (a := M.getD k 0) (b := nx) (by omega) (by omega) h151
                          refine lv_iinc (k := 1) (v := nI (k + 1)) (lv' := [(7, .int (nI (k + 1))), (3, .long (lN d)), (1, .int (nI told)), (2, .int (nI ((pln M).length))), (5, .int (nI nx)), (0, .ref mo)]) hx hb dMo_toLetters_186 hl rfl (nI_1 _) (by decide) rfl (fun ls hl => ?_)
                          refine lv_goto (tgt := 113) hx hb dMo_toLetters_189 (by decide) ?_
                          have hm2 := minv_gt hmi h119 (by omega)
                          exact ih_loop3 (k + 1) told va pl bi la d W1 hW_ kf _ _ _ (by omega) (by omega) hm2 htk hbt hbi hwl hW hF (lv_sub hl [0, 2, 3, 1, 4, 5] rfl) hP hD hS
                        · skip
                          replace h151 := nt_eq (a := M.getD k 0) (b := nx) (by omega) (by omega) h151
                          obtain ⟨hx1, hx2, hx3⟩ := minv_nx hmi h119 h151
                          have hwn := wnum_len (b := bi) (d := d) (by omega)
                          refine lv_aload_n hx hb dMo_toLetters_154 rfl (lv_at hl 5 rfl) ?_
                          refine lv_lload_n hx hb dMo_toLetters_155 rfl (lv_at hl 0 rfl) ?_
                          refine ca_v (wr := []) (va_runV (As := [.long (lN d)]) (rest := []) Xf (k_Mo_writeNumber l D cA _ mo xI xL xO xK xR xW I (M.map nI) O K gI gL gO gK gR hW_ md at_ nu vl pc_ tk gd bi W1 d hfI hcI hfL hcL hfO hcO hfK hcK hW (by omega) (by omega) (by omega)) ⟨cb_of 1 hw w_548 w_7 w_545 (by decide +kernel) (by rw [hR]; exact ⟨Nat.le_of_ble_eq_true rfl, Nat.le_of_ble_eq_true rfl⟩), hw _ w_547, hw _ ws_25⟩ (pre_V (As := [.long (lN d)]) hP hD hK hn [0, 1, 2, 3, 4, 5, 6] rfl (by decide) 0 5 rfl rfl) rfl rfl hl.1 rfl (lv_room (Nat.le_of_ble_eq_true rfl)) dMo_toLetters_156 ⟨Nat.zero_le _, Nat.zero_le _⟩) hP hD hS hA [0, 1, 2, 3, 4, 5, 6] [] rfl rfl (by decide) (by decide) (fun u_ H locs hq_ hP hD hS => ?_)
                          obtain ⟨gW3, hgW3⟩ : ∃ z, z = u_ := ⟨_, rfl⟩
                          rw [← hgW3] at hP hD hq_
                          have hW3 := hq_
                          replace hP : va_P D vwCl [(mo, .inr (5, [.int (nI I.length), .ref xI, .int (nI ((M.map nI).length)), .ref xL, .int (nI O.length), .ref xO, .int (nI K.length), .ref xK, .int md, .ref xR, .int (nI (((W1 ++ wnum bi d).map nI).length)), .ref xW, .int at_, .long nu, .long vl, .long pc_, .int (nI bi), .int tk, .int gd])), (xI, .inl (cA, 120, .inl gI)), (xL, .inl (cA, 120, .inl gL)), (xO, .inl (cA, 400, .inl gO)), (xK, .inl (cA, 120, .inl gK)), (xR, .inl (cA, 121, .inl gR)), (xW, .inl (cA, 1000, .inl gW3))] H := hP.sub [0, 1, 2, 3, 4, 5, 6] rfl
                          replace hD : va_D A [(mo, .inr (5, [.int (nI I.length), .ref xI, .int (nI ((M.map nI).length)), .ref xL, .int (nI O.length), .ref xO, .int (nI K.length), .ref xK, .int md, .ref xR, .int (nI (((W1 ++ wnum bi d).map nI).length)), .ref xW, .int at_, .long nu, .long vl, .long pc_, .int (nI bi), .int tk, .int gd])), (xI, .inl (cA, 120, .inl gI)), (xL, .inl (cA, 120, .inl gL)), (xO, .inl (cA, 400, .inl gO)), (xK, .inl (cA, 120, .inl gK)), (xR, .inl (cA, 121, .inl gR)), (xW, .inl (cA, 1000, .inl gW3))] := hD.sub [0, 1, 2, 3, 4, 5, 6] (by decide) rfl
                          refine lv_iload_n hx hb dMo_toLetters_159 rfl (lv_at hl 2 rfl) ?_
                          refine lv_iconst (v := nI 1) hx hb dMo_toLetters_160 (by decide) ?_
                          refine lv_iadd hx hb dMo_toLetters_161 ?_
                          refine lv_rei (y := nI (told + 1)) (nI_add _ _) ?_
                          refine lv_istore_n (lv' := [(1, .int (nI (told + 1))), (3, .long (lN d)), (7, .int (nI k)), (2, .int (nI ((pln M).length))), (5, .int (nI nx)), (0, .ref mo)]) hx hb dMo_toLetters_162 rfl hl (by decide) rfl (fun ls hl => ?_)
                          refine lv_aload_n hx hb dMo_toLetters_163 rfl (lv_at hl 5 rfl) ?_
                          refine lv_lload_n hx hb dMo_toLetters_164 rfl (lv_at hl 1 rfl) ?_
                          refine lv_iload_n hx hb dMo_toLetters_165 rfl (lv_at hl 0 rfl) ?_
                          refine lv_iload_n hx hb dMo_toLetters_166 rfl (lv_at hl 0 rfl) ?_
                          refine lv_iload_n hx hb dMo_toLetters_167 rfl (lv_at hl 3 rfl) ?_
                          refine lv_iconst (v := nI 1) hx hb dMo_toLetters_168 (by decide) ?_
                          refine lv_iadd hx hb dMo_toLetters_169 ?_
                          refine lv_rei (y := nI ((pln M).length + 1)) (nI_add _ _) ?_
                          refine lv_icmp_ne (tgt := 177) hx hb dMo_toLetters_170 (by decide) (fun h170 => ?_) (fun h170 => ?_)
                          · skip
                            replace h170 := nt_ne (a := told + 1) (b := (pln M).length + 1) (by omega) (by omega) h170
                            refine lv_iconst (v := nI 0) hx hb dMo_toLetters_177 (by decide) ?_
                            refine ca_i (wr := [(mo, .inr (5, [.int (nI I.length), .ref xI, .int (nI ((M.map nI).length)), .ref xL, .int (nI O.length), .ref xO, .int (nI K.length), .ref xK, .int md, .ref xR, .int (nI (((W1 ++ wnum bi d).map nI).length)), .ref xW, .int at_, .long nu, .long vl, .long pc_, .int (nI bi), .int tk, .int gd])), (xI, .inl (cA, 120, .inl gI)), (xL, .inl (cA, 120, .inl gL)), (xO, .inl (cA, 400, .inl gO)), (xK, .inl (cA, 120, .inl gK)), (xR, .inl (cA, 121, .inl gR)), (xW, .inl (cA, 1000, .inl gW3))]) (va_runS (As := [.long (lN d), .int (nI (told + 1)), .int (nI 0)]) (rest := [.ref mo]) Xf (k_Mo_adapted l D cA _ d (told + 1) false (by omega) (by omega) (by omega)) ⟨cb_of 3 hw w_513 w_7 w_511 (by decide +kernel) (by rw [hR]; exact ⟨Nat.le_of_ble_eq_true rfl, Nat.le_of_ble_eq_true rfl⟩), hw _ w_512⟩ (pre_S hP hD hK hn [] rfl (by decide)) rfl rfl hl.1 rfl (lv_room (Nat.le_of_ble_eq_true rfl)) dMo_toLetters_178 ⟨Nat.zero_le _, Nat.zero_le _⟩) hP hD hS hA [] [0, 1, 2, 3, 4, 5, 6] rfl rfl (by decide) (by decide) (fun r178 u_ H locs hq_ hP hD hS => ?_)
                            obtain rfl : r178 = nI (adN d (told + 1) false) := hq_
                            replace hP : va_P D vwCl [(mo, .inr (5, [.int (nI I.length), .ref xI, .int (nI ((M.map nI).length)), .ref xL, .int (nI O.length), .ref xO, .int (nI K.length), .ref xK, .int md, .ref xR, .int (nI (((W1 ++ wnum bi d).map nI).length)), .ref xW, .int at_, .long nu, .long vl, .long pc_, .int (nI bi), .int tk, .int gd])), (xI, .inl (cA, 120, .inl gI)), (xL, .inl (cA, 120, .inl gL)), (xO, .inl (cA, 400, .inl gO)), (xK, .inl (cA, 120, .inl gK)), (xR, .inl (cA, 121, .inl gR)), (xW, .inl (cA, 1000, .inl gW3))] H := hP.sub [0, 1, 2, 3, 4, 5, 6] rfl
                            replace hD : va_D A [(mo, .inr (5, [.int (nI I.length), .ref xI, .int (nI ((M.map nI).length)), .ref xL, .int (nI O.length), .ref xO, .int (nI K.length), .ref xK, .int md, .ref xR, .int (nI (((W1 ++ wnum bi d).map nI).length)), .ref xW, .int at_, .long nu, .long vl, .long pc_, .int (nI bi), .int tk, .int gd])), (xI, .inl (cA, 120, .inl gI)), (xL, .inl (cA, 120, .inl gL)), (xO, .inl (cA, 400, .inl gO)), (xK, .inl (cA, 120, .inl gK)), (xR, .inl (cA, 121, .inl gR)), (xW, .inl (cA, 1000, .inl gW3))] := hD.sub [0, 1, 2, 3, 4, 5, 6] (by decide) rfl
                            refine va_put (D := D) (ci := 5) (v := .int (nI (adN d (told + 1) false))) (ty := .int) (C := R_Mo) (T := T_Mo) (N := 19) hx hb hw in_Mo ty_Mo ty_Mo_ok nm_Mo hown hK hP hD hS 0 rfl rfl 16 (by decide) (hw _ w_380) (fun _ h9 => h9) rfl (by decide +kernel) rfl rfl (Nat.le_of_ble_eq_true rfl) dMo_toLetters_181 (fun H locs hP hD hS => ?_)
                            have hP : va_P D vwCl [(mo, .inr (5, [.int (nI I.length), .ref xI, .int (nI ((M.map nI).length)), .ref xL, .int (nI O.length), .ref xO, .int (nI K.length), .ref xK, .int md, .ref xR, .int (nI (((W1 ++ wnum bi d).map nI).length)), .ref xW, .int at_, .long nu, .long vl, .long pc_, .int (nI (adN d (told + 1) false)), .int tk, .int gd])), (xI, .inl (cA, 120, .inl gI)), (xL, .inl (cA, 120, .inl gL)), (xO, .inl (cA, 400, .inl gO)), (xK, .inl (cA, 120, .inl gK)), (xR, .inl (cA, 121, .inl gR)), (xW, .inl (cA, 1000, .inl gW3))] H := hP
                            have hD : va_D A [(mo, .inr (5, [.int (nI I.length), .ref xI, .int (nI ((M.map nI).length)), .ref xL, .int (nI O.length), .ref xO, .int (nI K.length), .ref xK, .int md, .ref xR, .int (nI (((W1 ++ wnum bi d).map nI).length)), .ref xW, .int at_, .long nu, .long vl, .long pc_, .int (nI (adN d (told + 1) false)), .int tk, .int gd])), (xI, .inl (cA, 120, .inl gI)), (xL, .inl (cA, 120, .inl gL)), (xO, .inl (cA, 400, .inl gO)), (xK, .inl (cA, 120, .inl gK)), (xR, .inl (cA, 121, .inl gR)), (xW, .inl (cA, 1000, .inl gW3))] := hD
                            refine lv_lconst (v := lN 0) hx hb dMo_toLetters_184 (by decide) ?_
                            refine lv_lstore_n (lv' := [(3, .long (lN 0)), (1, .int (nI (told + 1))), (7, .int (nI k)), (2, .int (nI ((pln M).length))), (5, .int (nI nx)), (0, .ref mo)]) hx hb dMo_toLetters_185 rfl hl (by decide) rfl (fun ls hl => ?_)
                            refine lv_iinc (k := 2) (v := nI (k + 1)) (lv' := [(7, .int (nI (k + 1))), (3, .long (lN 0)), (1, .int (nI (told + 1))), (2, .int (nI ((pln M).length))), (5, .int (nI nx)), (0, .ref mo)]) hx hb dMo_toLetters_186 hl rfl (nI_1 _) (by decide) rfl (fun ls hl => ?_)
                            refine lv_goto (tgt := 113) hx hb dMo_toLetters_189 (by decide) ?_
                            have htl := minv_t hmi h119 h151
                            obtain ⟨k2, rfl⟩ : ∃ k2, kf = k2 + 1 := ⟨kf - 1, by omega⟩
                            rw [tl_s hx1, hx2, h151, decide_eq_false (show ¬ told = (pln M).length by omega)] at hF
                            have hF2 : tlS M k2 nx (leC M nx k + 1) (adN d (told + 1) false) (told + 1) (k + 1) (decide (told + 1 = (pln M).length)) (W1 ++ wnum bi d) = wlS M := by rw [decide_eq_false (show ¬ told + 1 = (pln M).length by omega)]; exact hF
                            have hab := adN_b (d := d) (n := told + 1) (fb := false) (by omega)
                            exact ih_loop3 (k + 1) (told + 1) nx (leC M nx k + 1) (adN d (told + 1) false) (k + 1) 0 (W1 ++ wnum bi d) gW3 k2 _ _ _ (by omega) (by omega) hx3 (by omega) (by omega) (by omega) (by rw [List.length_append]; omega) hW3 hF2 (lv_sub hl [0, 2, 3, 1, 4, 5] rfl) hP hD hS
                          · skip
                            replace h170 := nt_eq (a := told + 1) (b := (pln M).length + 1) (by omega) (by omega) h170
                            refine lv_iconst (v := nI 1) hx hb dMo_toLetters_173 (by decide) ?_
                            refine lv_goto (tgt := 178) hx hb dMo_toLetters_174 (by decide) ?_
                            refine ca_i (wr := [(mo, .inr (5, [.int (nI I.length), .ref xI, .int (nI ((M.map nI).length)), .ref xL, .int (nI O.length), .ref xO, .int (nI K.length), .ref xK, .int md, .ref xR, .int (nI (((W1 ++ wnum bi d).map nI).length)), .ref xW, .int at_, .long nu, .long vl, .long pc_, .int (nI bi), .int tk, .int gd])), (xI, .inl (cA, 120, .inl gI)), (xL, .inl (cA, 120, .inl gL)), (xO, .inl (cA, 400, .inl gO)), (xK, .inl (cA, 120, .inl gK)), (xR, .inl (cA, 121, .inl gR)), (xW, .inl (cA, 1000, .inl gW3))]) (va_runS (As := [.long (lN d), .int (nI (told + 1)), .int (nI 1)]) (rest := [.ref mo]) Xf (k_Mo_adapted l D cA _ d (told + 1) true (by omega) (by omega) (by omega)) ⟨cb_of 3 hw w_513 w_7 w_511 (by decide +kernel) (by rw [hR]; exact ⟨Nat.le_of_ble_eq_true rfl, Nat.le_of_ble_eq_true rfl⟩), hw _ w_512⟩ (pre_S hP hD hK hn [] rfl (by decide)) rfl rfl hl.1 rfl (lv_room (Nat.le_of_ble_eq_true rfl)) dMo_toLetters_178 ⟨Nat.zero_le _, Nat.zero_le _⟩) hP hD hS hA [] [0, 1, 2, 3, 4, 5, 6] rfl rfl (by decide) (by decide) (fun r178 u_ H locs hq_ hP hD hS => ?_)
                            obtain rfl : r178 = nI (adN d (told + 1) true) := hq_
                            replace hP : va_P D vwCl [(mo, .inr (5, [.int (nI I.length), .ref xI, .int (nI ((M.map nI).length)), .ref xL, .int (nI O.length), .ref xO, .int (nI K.length), .ref xK, .int md, .ref xR, .int (nI (((W1 ++ wnum bi d).map nI).length)), .ref xW, .int at_, .long nu, .long vl, .long pc_, .int (nI bi), .int tk, .int gd])), (xI, .inl (cA, 120, .inl gI)), (xL, .inl (cA, 120, .inl gL)), (xO, .inl (cA, 400, .inl gO)), (xK, .inl (cA, 120, .inl gK)), (xR, .inl (cA, 121, .inl gR)), (xW, .inl (cA, 1000, .inl gW3))] H := hP.sub [0, 1, 2, 3, 4, 5, 6] rfl
                            replace hD : va_D A [(mo, .inr (5, [.int (nI I.length), .ref xI, .int (nI ((M.map nI).length)), .ref xL, .int (nI O.length), .ref xO, .int (nI K.length), .ref xK, .int md, .ref xR, .int (nI (((W1 ++ wnum bi d).map nI).length)), .ref xW, .int at_, .long nu, .long vl, .long pc_, .int (nI bi), .int tk, .int gd])), (xI, .inl (cA, 120, .inl gI)), (xL, .inl (cA, 120, .inl gL)), (xO, .inl (cA, 400, .inl gO)), (xK, .inl (cA, 120, .inl gK)), (xR, .inl (cA, 121, .inl gR)), (xW, .inl (cA, 1000, .inl gW3))] := hD.sub [0, 1, 2, 3, 4, 5, 6] (by decide) rfl
                            refine va_put (D := D) (ci := 5) (v := .int (nI (adN d (told + 1) true))) (ty := .int) (C := R_Mo) (T := T_Mo) (N := 19) hx hb hw in_Mo ty_Mo ty_Mo_ok nm_Mo hown hK hP hD hS 0 rfl rfl 16 (by decide) (hw _ w_380) (fun _ h9 => h9) rfl (by decide +kernel) rfl rfl (Nat.le_of_ble_eq_true rfl) dMo_toLetters_181 (fun H locs hP hD hS => ?_)
                            have hP : va_P D vwCl [(mo, .inr (5, [.int (nI I.length), .ref xI, .int (nI ((M.map nI).length)), .ref xL, .int (nI O.length), .ref xO, .int (nI K.length), .ref xK, .int md, .ref xR, .int (nI (((W1 ++ wnum bi d).map nI).length)), .ref xW, .int at_, .long nu, .long vl, .long pc_, .int (nI (adN d (told + 1) true)), .int tk, .int gd])), (xI, .inl (cA, 120, .inl gI)), (xL, .inl (cA, 120, .inl gL)), (xO, .inl (cA, 400, .inl gO)), (xK, .inl (cA, 120, .inl gK)), (xR, .inl (cA, 121, .inl gR)), (xW, .inl (cA, 1000, .inl gW3))] H := hP
                            have hD : va_D A [(mo, .inr (5, [.int (nI I.length), .ref xI, .int (nI ((M.map nI).length)), .ref xL, .int (nI O.length), .ref xO, .int (nI K.length), .ref xK, .int md, .ref xR, .int (nI (((W1 ++ wnum bi d).map nI).length)), .ref xW, .int at_, .long nu, .long vl, .long pc_, .int (nI (adN d (told + 1) true)), .int tk, .int gd])), (xI, .inl (cA, 120, .inl gI)), (xL, .inl (cA, 120, .inl gL)), (xO, .inl (cA, 400, .inl gO)), (xK, .inl (cA, 120, .inl gK)), (xR, .inl (cA, 121, .inl gR)), (xW, .inl (cA, 1000, .inl gW3))] := hD
                            refine lv_lconst (v := lN 0) hx hb dMo_toLetters_184 (by decide) ?_
                            refine lv_lstore_n (lv' := [(3, .long (lN 0)), (1, .int (nI (told + 1))), (7, .int (nI k)), (2, .int (nI ((pln M).length))), (5, .int (nI nx)), (0, .ref mo)]) hx hb dMo_toLetters_185 rfl hl (by decide) rfl (fun ls hl => ?_)
                            refine lv_iinc (k := 2) (v := nI (k + 1)) (lv' := [(7, .int (nI (k + 1))), (3, .long (lN 0)), (1, .int (nI (told + 1))), (2, .int (nI ((pln M).length))), (5, .int (nI nx)), (0, .ref mo)]) hx hb dMo_toLetters_186 hl rfl (nI_1 _) (by decide) rfl (fun ls hl => ?_)
                            refine lv_goto (tgt := 113) hx hb dMo_toLetters_189 (by decide) ?_
                            have htl := minv_t hmi h119 h151
                            obtain ⟨k2, rfl⟩ : ∃ k2, kf = k2 + 1 := ⟨kf - 1, by omega⟩
                            rw [tl_s hx1, hx2, h151, decide_eq_true (show told = (pln M).length by omega)] at hF
                            have hF2 : tlS M k2 nx (leC M nx k + 1) (adN d (told + 1) true) (told + 1) (k + 1) (decide (told + 1 = (pln M).length)) (W1 ++ wnum bi d) = wlS M := by rw [decide_eq_false (show ¬ told + 1 = (pln M).length by omega)]; exact hF
                            have hab := adN_b (d := d) (n := told + 1) (fb := true) (by omega)
                            exact ih_loop3 (k + 1) (told + 1) nx (leC M nx k + 1) (adN d (told + 1) true) (k + 1) 0 (W1 ++ wnum bi d) gW3 k2 _ _ _ (by omega) (by omega) hx3 (by omega) (by omega) (by omega) (by rw [List.length_append]; omega) hW3 hF2 (lv_sub hl [0, 2, 3, 1, 4, 5] rfl) hP hD hS
                      · skip
                        replace h131 := nt_nle (a := nx) (b := M.getD k 0) (by omega) (by omega) h131
                        refine lv_lload_n hx hb dMo_toLetters_134 rfl (lv_at hl 3 rfl) ?_
                        refine lv_lconst (v := lN 1) hx hb dMo_toLetters_135 (by decide) ?_
                        refine lv_ladd hx hb dMo_toLetters_136 ?_
                        refine lv_rel (y := lN (d + 1)) (lN_add _ _) ?_
                        refine lv_goto (tgt := 141) hx hb dMo_toLetters_137 (by decide) ?_
                        refine lv_lstore_n (lv' := [(3, .long (lN (d + 1))), (7, .int (nI k)), (1, .int (nI told)), (2, .int (nI ((pln M).length))), (5, .int (nI nx)), (0, .ref mo)]) hx hb dMo_toLetters_141 rfl hl (by decide) rfl (fun ls hl => ?_)
                        refine lv_aload_n hx hb dMo_toLetters_142 rfl (lv_at hl 5 rfl) ?_
                        refine va_get (D := D) (ci := 5) (v := .ref xL) (C := R_Mo) (T := T_Mo) (N := 19) hx hb hw in_Mo hown hK hP 0 rfl rfl 3 (by decide) (hw _ w_367) (fun _ h9 => h9) rfl dMo_toLetters_143 ?_
                        refine lv_iload hx hb dMo_toLetters_146 (lv_at hl 1 rfl) ?_
                        refine va_iald hx hb hK hP 2 0 rfl rfl (vp_in_nI (by omega) (by omega)) dMo_toLetters_148 ?_
                        refine lv_rei (y := gL k) (by rw [nI_clamp (by omega)]) ?_
                        refine lv_rei (y := nI (M.getD k 0)) ((Hd_un hfL (by rw [List.length_map]; omega)).trans (un_map (by omega))) ?_
                        refine lv_iload hx hb dMo_toLetters_149 (lv_at hl 4 rfl) ?_
                        refine lv_icmp_ne (tgt := 186) hx hb dMo_toLetters_151 (by decide) (fun h151 => ?_) (fun h151 => ?_)
                        · skip
                          refine lv_iinc (k := 1) (v := nI (k + 1)) (lv' := [(7, .int (nI (k + 1))), (3, .long (lN (d + 1))), (1, .int (nI told)), (2, .int (nI ((pln M).length))), (5, .int (nI nx)), (0, .ref mo)]) hx hb dMo_toLetters_186 hl rfl (nI_1 _) (by decide) rfl (fun ls hl => ?_)
                          refine lv_goto (tgt := 113) hx hb dMo_toLetters_189 (by decide) ?_
                          have hm2 := minv_lt hmi h119 h131
                          exact ih_loop3 (k + 1) told va pl bi la (d + 1) W1 hW_ kf _ _ _ (by omega) (by omega) hm2 htk hbt hbi hwl hW hF (lv_sub hl [0, 2, 3, 1, 4, 5] rfl) hP hD hS
                        · skip
                          exact absurd (nt_eq (a := M.getD k 0) (b := nx) (by omega) (by omega) h151) (by omega)
                exact loop3 _ 0 told va pl bi la (d + ((nx - v) * (told + 1))) W1 hW_ kf _ _ _ (Nat.lt_succ_self _) (Nat.zero_le _) hmi htk hbt hbi hwl hW hF (lv_sub hl [0, 4, 5, 2, 1, 6] rfl) hP hD hS
          exact loop2 _ 128 ((pln M).length) 128 0 72 0 0 (if (pln M).length = 0 then pln M else pln M ++ [45]) gW2 (M.length - (pln M).length) _ _ _ (Nat.lt_succ_self _) (by omega) (minv_0 M) (by omega) (Nat.le_refl _) (by omega) (by omega) hW2 (by rw [decide_eq_true rfl]; rfl) (lv_sub hl [3, 2, 1, 0, 4] rfl) hP hD hS
      · skip
        replace h12 := nt_nle (a := (M.map nI).length) (b := i) (by omega) (by omega) h12
        rw [List.length_map] at h12
        have hvb : M.getD i 0 ≤ 1114111 := getD_b hMb (by omega)
        have hpl := pln_len (M := M) (i := i)
        refine lv_aload_n hx hb dMo_toLetters_15 rfl (lv_at hl 1 rfl) ?_
        refine va_get (D := D) (ci := 5) (v := .ref xL) (C := R_Mo) (T := T_Mo) (N := 19) hx hb hw in_Mo hown hK hP 0 rfl rfl 3 (by decide) (hw _ w_367) (fun _ h9 => h9) rfl dMo_toLetters_16 ?_
        refine lv_iload_n hx hb dMo_toLetters_19 rfl (lv_at hl 0 rfl) ?_
        refine va_iald hx hb hK hP 2 0 rfl rfl (vp_in_nI (by omega) (by omega)) dMo_toLetters_20 ?_
        refine lv_rei (y := gL i) (by rw [nI_clamp (by omega)]) ?_
        refine lv_rei (y := nI (M.getD i 0)) ((Hd_un hfL (by rw [List.length_map]; omega)).trans (un_map (by omega))) ?_
        refine lv_sipush (v := nI 128) hx hb dMo_toLetters_21 (by decide) ?_
        refine lv_icmp_ge (tgt := 37) hx hb dMo_toLetters_24 (by decide) (fun h24 => ?_) (fun h24 => ?_)
        · skip
          replace h24 := nt_le (a := 128) (b := M.getD i 0) (by omega) (by omega) h24
          refine lv_iinc (k := 0) (v := nI (i + 1)) (lv' := [(1, .int (nI (i + 1))), (0, .ref mo)]) hx hb dMo_toLetters_37 hl rfl (nI_1 _) (by decide) rfl (fun ls hl => ?_)
          refine lv_goto (tgt := 7) hx hb dMo_toLetters_40 (by decide) ?_
          have ep : pln (M.take i) = pln (M.take (i + 1)) := by rw [pln_s h12, if_neg (by omega)]
          rw [ep] at hP hD hW
          exact ih_loop1 (i + 1) hW_ _ _ _ (by omega) hW (by omega) (lv_sub hl [0, 1] rfl) hP hD hS
        · skip
          replace h24 := nt_nle (a := 128) (b := M.getD i 0) (by omega) (by omega) h24
          refine lv_aload_n hx hb dMo_toLetters_27 rfl (lv_at hl 1 rfl) ?_
          refine lv_aload_n hx hb dMo_toLetters_28 rfl (lv_at hl 1 rfl) ?_
          refine va_get (D := D) (ci := 5) (v := .ref xL) (C := R_Mo) (T := T_Mo) (N := 19) hx hb hw in_Mo hown hK hP 0 rfl rfl 3 (by decide) (hw _ w_367) (fun _ h9 => h9) rfl dMo_toLetters_29 ?_
          refine lv_iload_n hx hb dMo_toLetters_32 rfl (lv_at hl 0 rfl) ?_
          refine va_iald hx hb hK hP 2 0 rfl rfl (vp_in_nI (by omega) (by omega)) dMo_toLetters_33 ?_
          refine lv_rei (y := gL i) (by rw [nI_clamp (by omega)]) ?_
          refine lv_rei (y := nI (M.getD i 0)) ((Hd_un hfL (by rw [List.length_map]; omega)).trans (un_map (by omega))) ?_
          refine ca_v (wr := []) (va_runV (As := [.int (nI (M.getD i 0))]) (rest := []) Xf (k_Mo_put l D cA _ mo xI xL xO xK xR xW I (M.map nI) O K gI gL gO gK gR hW_ md at_ nu vl pc_ bs tk gd ((pln (M.take i)).map nI) (nI (M.getD i 0)) hfI hcI hfL hcL hfO hcO hfK hcK hW (by simp only [List.length_map]; omega)) ⟨cb_of 1 hw w_527 w_7 w_524 (by decide +kernel) (by rw [hR]; exact ⟨Nat.le_of_ble_eq_true rfl, Nat.le_of_ble_eq_true rfl⟩), hw _ w_526, hw _ ws_22⟩ (pre_V (As := [.int (nI (M.getD i 0))]) hP hD hK hn [0, 1, 2, 3, 4, 5, 6] rfl (by decide) 0 5 rfl rfl) rfl rfl hl.1 rfl (lv_room (Nat.le_of_ble_eq_true rfl)) dMo_toLetters_34 ⟨Nat.zero_le _, Nat.zero_le _⟩) hP hD hS hA [0, 1, 2, 3, 4, 5, 6] [] rfl rfl (by decide) (by decide) (fun u_ H locs hq_ hP hD hS => ?_)
          obtain ⟨gW4, hgW4⟩ : ∃ z, z = u_ := ⟨_, rfl⟩
          rw [← hgW4] at hP hD hq_
          have hW4 := hq_
          replace hP : va_P D vwCl [(mo, .inr (5, [.int (nI I.length), .ref xI, .int (nI ((M.map nI).length)), .ref xL, .int (nI O.length), .ref xO, .int (nI K.length), .ref xK, .int md, .ref xR, .int (nI ((((pln (M.take i)).map nI) ++ [nI (M.getD i 0)]).length)), .ref xW, .int at_, .long nu, .long vl, .long pc_, .int bs, .int tk, .int gd])), (xI, .inl (cA, 120, .inl gI)), (xL, .inl (cA, 120, .inl gL)), (xO, .inl (cA, 400, .inl gO)), (xK, .inl (cA, 120, .inl gK)), (xR, .inl (cA, 121, .inl gR)), (xW, .inl (cA, 1000, .inl gW4))] H := hP.sub [0, 1, 2, 3, 4, 5, 6] rfl
          replace hD : va_D A [(mo, .inr (5, [.int (nI I.length), .ref xI, .int (nI ((M.map nI).length)), .ref xL, .int (nI O.length), .ref xO, .int (nI K.length), .ref xK, .int md, .ref xR, .int (nI ((((pln (M.take i)).map nI) ++ [nI (M.getD i 0)]).length)), .ref xW, .int at_, .long nu, .long vl, .long pc_, .int bs, .int tk, .int gd])), (xI, .inl (cA, 120, .inl gI)), (xL, .inl (cA, 120, .inl gL)), (xO, .inl (cA, 400, .inl gO)), (xK, .inl (cA, 120, .inl gK)), (xR, .inl (cA, 121, .inl gR)), (xW, .inl (cA, 1000, .inl gW4))] := hD.sub [0, 1, 2, 3, 4, 5, 6] (by decide) rfl
          refine lv_iinc (k := 0) (v := nI (i + 1)) (lv' := [(1, .int (nI (i + 1))), (0, .ref mo)]) hx hb dMo_toLetters_37 hl rfl (nI_1 _) (by decide) rfl (fun ls hl => ?_)
          refine lv_goto (tgt := 7) hx hb dMo_toLetters_40 (by decide) ?_
          have ep : pln (M.take (i + 1)) = pln (M.take i) ++ [M.getD i 0] := by rw [pln_s h12, if_pos h24]
          rw [map_snoc, ← ep] at hP hD hW4
          exact ih_loop1 (i + 1) gW4 _ _ _ (by omega) hW4 (by omega) (lv_sub hl [0, 1] rfl) hP hD hS
  exact loop1 _ 0 gW _ _ _ (Nat.lt_succ_self _) (Hw_nil _) (Nat.zero_le _) (lv_sub hl [0, 1] rfl) hP hD hS
