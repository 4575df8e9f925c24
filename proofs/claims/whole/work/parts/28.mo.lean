set_option maxHeartbeats 4000000 in
set_option maxRecDepth 100000 in
theorem k_Mo_fromLetters (l : Launch) (D : va_G) (cA : ClassId) (sz : Nat) (mo xI xL xO xK xR xW : Nat) (I L O K : List Int32) (gI gL gO gK gR gW : Nat → Int32) (md wr at_ : Int32) (nu vl pc_ : Int64) (bs tk gd : Int32)  (hfI : Hd gI I) (hcI : I.length ≤ 120) (hfL : Hd gL L) (hcL : L.length ≤ 120) (hfO : Hd gO O) (hcO : O.length ≤ 400) (hfK : Hd gK K) (hcK : K.length ≤ 120)  : KI l D cA y_Mo_fromLetters c_Mo_fromLetters 4 .int 3 67 [.ref mo] sz [(mo, .inr (5, [.int (nI I.length), .ref xI, .int (nI L.length), .ref xL, .int (nI O.length), .ref xO, .int (nI K.length), .ref xK, .int md, .ref xR, .int wr, .ref xW, .int at_, .long nu, .long vl, .long pc_, .int bs, .int tk, .int gd])), (xI, .inl (cA, 120, .inl gI)), (xL, .inl (cA, 120, .inl gL)), (xO, .inl (cA, 400, .inl gO)), (xK, .inl (cA, 120, .inl gK)), (xR, .inl (cA, 121, .inl gR)), (xW, .inl (cA, 1000, .inl gW))] (S := List Int32 × (Nat → Int32) × (Nat → Int32) × Int32 × Int32 × Int64 × Int64 × Int64 × Int32) (fun r u => match u with | (L2, gL2, gR2, md2, at_2, nu2, vl2, pc_2, bs2) => r = (spL I L).1 ∧ L2 = (spL I L).2 ∧ Hd gL2 L2 ∧ L2.length ≤ 120) (fun u => match u with | (L2, gL2, gR2, md2, at_2, nu2, vl2, pc_2, bs2) => [(mo, .inr (5, [.int (nI I.length), .ref xI, .int (nI L2.length), .ref xL, .int (nI O.length), .ref xO, .int (nI K.length), .ref xK, .int md2, .ref xR, .int wr, .ref xW, .int at_2, .long nu2, .long vl2, .long pc_2, .int bs2, .int tk, .int gd])), (xI, .inl (cA, 120, .inl gI)), (xL, .inl (cA, 120, .inl gL2)), (xO, .inl (cA, 400, .inl gO)), (xK, .inl (cA, 120, .inl gK)), (xR, .inl (cA, 121, .inl gR2)), (xW, .inl (cA, 1000, .inl gW))]) := by
  refine KI.of (by decide) (Nat.le_of_ble_eq_true rfl) ?_
  intro p e s m args below meth c Q R A ls Xf hR hA hS hP hD hK hn hl ret
  have hx := Xf.1
  have hb := Xf.2.1
  have hown : s.vm.findClass "ScalarScribeModel" = some m.cls := Xf.2.2.2.1
  have hw := Xf.2.2.2.2
  have hl : lv_has ls 4 [(0, .ref mo)] := hl
  refine lv_iconst (v := nI 0) hx hb dMo_fromLetters_0 (by decide) ?_
  refine lv_istore_n (lv' := [(1, .int (nI 0)), (0, .ref mo)]) hx hb dMo_fromLetters_1 rfl hl (by decide) rfl (fun ls hl => ?_)
  refine lv_iconst (v := nI 1) hx hb dMo_fromLetters_2 (by decide) ?_
  refine lv_istore_n (lv' := [(2, .int (nI 1)), (1, .int (nI 0)), (0, .ref mo)]) hx hb dMo_fromLetters_3 rfl hl (by decide) rfl (fun ls hl => ?_)
  have loop1 : ∀ (n_ : Nat) (k : Nat) (ls : Array Slot) (H : Heap) (locs : List Loc), I.length + 1 - k < n_ → 1 ≤ k → k ≤ I.length + 1 ∧ (k ≤ I.length ∨ k = 1) → lv_has ls 4 [(2, .int (nI k)), (1, .int (nI (lhG I k))), (0, .ref mo)] → va_P D vwCl [(mo, .inr (5, [.int (nI I.length), .ref xI, .int (nI L.length), .ref xL, .int (nI O.length), .ref xO, .int (nI K.length), .ref xK, .int md, .ref xR, .int wr, .ref xW, .int at_, .long nu, .long vl, .long pc_, .int bs, .int tk, .int gd])), (xI, .inl (cA, 120, .inl gI)), (xL, .inl (cA, 120, .inl gL)), (xO, .inl (cA, 400, .inl gO)), (xK, .inl (cA, 120, .inl gK)), (xR, .inl (cA, 121, .inl gR)), (xW, .inl (cA, 1000, .inl gW))] H → va_D A [(mo, .inr (5, [.int (nI I.length), .ref xI, .int (nI L.length), .ref xL, .int (nI O.length), .ref xO, .int (nI K.length), .ref xK, .int md, .ref xR, .int wr, .ref xW, .int at_, .long nu, .long vl, .long pc_, .int bs, .int tk, .int gd])), (xI, .inl (cA, 120, .inl gI)), (xL, .inl (cA, 120, .inl gL)), (xO, .inl (cA, 400, .inl gO)), (xK, .inl (cA, 120, .inl gK)), (xR, .inl (cA, 121, .inl gR)), (xW, .inl (cA, 1000, .inl gW))] → va_S A s.heap H locs → W p l e R s m args below meth c H locs 0 0 Q (F0 m 4 ls []) := by
    intro n_
    induction n_ with
    | zero => intro k ls H locs hm_; exact absurd hm_ (Nat.not_lt_zero _)
    | succ n_ ih_loop1 =>
      intro k ls H locs hm_ hk1 hk2 hl hP hD hS
      refine lv_iload_n hx hb dMo_fromLetters_4 rfl (lv_at hl 0 rfl) ?_
      refine lv_aload_n hx hb dMo_fromLetters_5 rfl (lv_at hl 2 rfl) ?_
      refine va_get (D := D) (ci := 5) (v := .int (nI I.length)) (C := R_Mo) (T := T_Mo) (N := 19) hx hb hw in_Mo hown hK hP 0 rfl rfl 0 (by decide) (hw _ w_364) (fun _ h9 => h9) rfl dMo_fromLetters_6 ?_
      refine lv_icmp_ge (tgt := 35) hx hb dMo_fromLetters_9 (by decide) (fun h9 => ?_) (fun h9 => ?_)
      · skip
        replace h9 := nt_le (a := I.length) (b := k) (by omega) (by omega) h9
        have hhk : lhG I k = lhG I I.length := by
          rcases Nat.eq_zero_or_pos I.length with h0 | h0
          · rw [h0, show k = 1 by omega, show lhG I 1 = (if 1 ≤ 0 ∧ un I 0 = nI 45 then 0 else lhG I 0) from rfl, if_neg (by omega)]
          · rw [show k = I.length by omega]
        rw [hhk] at hl
        have hhl := lhG_le I I.length
        have hhy : lhG I I.length = 0 ∨ lhG I I.length < I.length := by
          rcases Nat.eq_zero_or_pos I.length with h9 | h9
          · exact Or.inl (by omega)
          · exact Or.inr (lhG_lt I _ h9)
        refine lv_aload_n hx hb dMo_fromLetters_35 rfl (lv_at hl 2 rfl) ?_
        refine lv_iconst (v := nI 0) hx hb dMo_fromLetters_36 (by decide) ?_
        refine va_put (D := D) (ci := 5) (v := .int (nI 0)) (ty := .int) (C := R_Mo) (T := T_Mo) (N := 19) hx hb hw in_Mo ty_Mo ty_Mo_ok nm_Mo hown hK hP hD hS 0 rfl rfl 8 (by decide) (hw _ w_372) (fun _ h9 => h9) rfl (by decide +kernel) rfl rfl (Nat.le_of_ble_eq_true rfl) dMo_fromLetters_37 (fun H locs hP hD hS => ?_)
        have hP : va_P D vwCl [(mo, .inr (5, [.int (nI I.length), .ref xI, .int (nI L.length), .ref xL, .int (nI O.length), .ref xO, .int (nI K.length), .ref xK, .int (nI 0), .ref xR, .int wr, .ref xW, .int at_, .long nu, .long vl, .long pc_, .int bs, .int tk, .int gd])), (xI, .inl (cA, 120, .inl gI)), (xL, .inl (cA, 120, .inl gL)), (xO, .inl (cA, 400, .inl gO)), (xK, .inl (cA, 120, .inl gK)), (xR, .inl (cA, 121, .inl gR)), (xW, .inl (cA, 1000, .inl gW))] H := hP
        have hD : va_D A [(mo, .inr (5, [.int (nI I.length), .ref xI, .int (nI L.length), .ref xL, .int (nI O.length), .ref xO, .int (nI K.length), .ref xK, .int (nI 0), .ref xR, .int wr, .ref xW, .int at_, .long nu, .long vl, .long pc_, .int bs, .int tk, .int gd])), (xI, .inl (cA, 120, .inl gI)), (xL, .inl (cA, 120, .inl gL)), (xO, .inl (cA, 400, .inl gO)), (xK, .inl (cA, 120, .inl gK)), (xR, .inl (cA, 121, .inl gR)), (xW, .inl (cA, 1000, .inl gW))] := hD
        refine lv_iconst (v := nI 0) hx hb dMo_fromLetters_40 (by decide) ?_
        refine lv_istore_n (lv' := [(2, .int (nI 0)), (1, .int (nI (lhG I I.length))), (0, .ref mo)]) hx hb dMo_fromLetters_41 rfl hl (by decide) rfl (fun ls hl => ?_)
        have loop2 : ∀ (n_ : Nat) (i : Nat) (acc : List Nat) (hR_ : Nat → Int32) (ls : Array Slot) (H : Heap) (locs : List Loc), lhG I I.length - i < n_ → i ≤ lhG I I.length → plG I i = some acc → Hd hR_ (acc.map nI) → lv_has ls 4 [(2, .int (nI i)), (1, .int (nI (lhG I I.length))), (0, .ref mo)] → va_P D vwCl [(mo, .inr (5, [.int (nI I.length), .ref xI, .int (nI L.length), .ref xL, .int (nI O.length), .ref xO, .int (nI K.length), .ref xK, .int (nI acc.length), .ref xR, .int wr, .ref xW, .int at_, .long nu, .long vl, .long pc_, .int bs, .int tk, .int gd])), (xI, .inl (cA, 120, .inl gI)), (xL, .inl (cA, 120, .inl gL)), (xO, .inl (cA, 400, .inl gO)), (xK, .inl (cA, 120, .inl gK)), (xR, .inl (cA, 121, .inl hR_)), (xW, .inl (cA, 1000, .inl gW))] H → va_D A [(mo, .inr (5, [.int (nI I.length), .ref xI, .int (nI L.length), .ref xL, .int (nI O.length), .ref xO, .int (nI K.length), .ref xK, .int (nI acc.length), .ref xR, .int wr, .ref xW, .int at_, .long nu, .long vl, .long pc_, .int bs, .int tk, .int gd])), (xI, .inl (cA, 120, .inl gI)), (xL, .inl (cA, 120, .inl gL)), (xO, .inl (cA, 400, .inl gO)), (xK, .inl (cA, 120, .inl gK)), (xR, .inl (cA, 121, .inl hR_)), (xW, .inl (cA, 1000, .inl gW))] → va_S A s.heap H locs → W p l e R s m args below meth c H locs 0 0 Q (F0 m 42 ls []) := by
          intro n_
          induction n_ with
          | zero => intro i acc hR_ ls H locs hm_; exact absurd hm_ (Nat.not_lt_zero _)
          | succ n_ ih_loop2 =>
            intro i acc hR_ ls H locs hm_ hi hpl hgR hl hP hD hS
            refine lv_iload_n hx hb dMo_fromLetters_42 rfl (lv_at hl 0 rfl) ?_
            refine lv_iload_n hx hb dMo_fromLetters_43 rfl (lv_at hl 1 rfl) ?_
            refine lv_icmp_ge (tgt := 93) hx hb dMo_fromLetters_44 (by decide) (fun h44 => ?_) (fun h44 => ?_)
            · skip
              replace h44 := nt_le (a := lhG I I.length) (b := i) (by omega) (by omega) h44
              have hieq : i = lhG I I.length := by omega
              rw [hieq] at hpl
              have hal := (plG_len hpl).1
              refine lv_aload_n hx hb dMo_fromLetters_93 rfl (lv_at hl 2 rfl) ?_
              refine lv_iload_n hx hb dMo_fromLetters_94 rfl (lv_at hl 1 rfl) ?_
              refine lv_if_le (tgt := 104) hx hb dMo_fromLetters_95 (by decide) (fun h95 => ?_) (fun h95 => ?_)
              · skip
                replace h95 := nt_le (a := lhG I I.length) (b := 0) (by omega) (by omega) h95
                have hz0 : rlS I = raS I I.length (0) 128 0 72 true acc := by unfold rlS; rw [hpl]; dsimp only; rw [if_pos (by omega)]
                refine lv_iconst (v := nI 0) hx hb dMo_fromLetters_104 (by decide) ?_
                refine va_put (D := D) (ci := 5) (v := .int (nI 0)) (ty := .int) (C := R_Mo) (T := T_Mo) (N := 19) hx hb hw in_Mo ty_Mo ty_Mo_ok nm_Mo hown hK hP hD hS 0 rfl rfl 12 (by decide) (hw _ w_376) (fun _ h9 => h9) rfl (by decide +kernel) rfl rfl (Nat.le_of_ble_eq_true rfl) dMo_fromLetters_105 (fun H locs hP hD hS => ?_)
                have hP : va_P D vwCl [(mo, .inr (5, [.int (nI I.length), .ref xI, .int (nI L.length), .ref xL, .int (nI O.length), .ref xO, .int (nI K.length), .ref xK, .int (nI acc.length), .ref xR, .int wr, .ref xW, .int (nI 0), .long nu, .long vl, .long pc_, .int bs, .int tk, .int gd])), (xI, .inl (cA, 120, .inl gI)), (xL, .inl (cA, 120, .inl gL)), (xO, .inl (cA, 400, .inl gO)), (xK, .inl (cA, 120, .inl gK)), (xR, .inl (cA, 121, .inl hR_)), (xW, .inl (cA, 1000, .inl gW))] H := hP
                have hD : va_D A [(mo, .inr (5, [.int (nI I.length), .ref xI, .int (nI L.length), .ref xL, .int (nI O.length), .ref xO, .int (nI K.length), .ref xK, .int (nI acc.length), .ref xR, .int wr, .ref xW, .int (nI 0), .long nu, .long vl, .long pc_, .int bs, .int tk, .int gd])), (xI, .inl (cA, 120, .inl gI)), (xL, .inl (cA, 120, .inl gL)), (xO, .inl (cA, 400, .inl gO)), (xK, .inl (cA, 120, .inl gK)), (xR, .inl (cA, 121, .inl hR_)), (xW, .inl (cA, 1000, .inl gW))] := hD
                refine lv_aload_n hx hb dMo_fromLetters_108 rfl (lv_at hl 2 rfl) ?_
                refine lv_ldc2 (v := lN 128) hx hb hown (hw _ w_489) dMo_fromLetters_109 ?_
                refine va_put (D := D) (ci := 5) (v := .long (lN 128)) (ty := .long) (C := R_Mo) (T := T_Mo) (N := 19) hx hb hw in_Mo ty_Mo ty_Mo_ok nm_Mo hown hK hP hD hS 0 rfl rfl 14 (by decide) (hw _ w_378) (fun _ h9 => h9) rfl (by decide +kernel) rfl rfl (Nat.le_of_ble_eq_true rfl) dMo_fromLetters_112 (fun H locs hP hD hS => ?_)
                have hP : va_P D vwCl [(mo, .inr (5, [.int (nI I.length), .ref xI, .int (nI L.length), .ref xL, .int (nI O.length), .ref xO, .int (nI K.length), .ref xK, .int (nI acc.length), .ref xR, .int wr, .ref xW, .int (nI 0), .long nu, .long (lN 128), .long pc_, .int bs, .int tk, .int gd])), (xI, .inl (cA, 120, .inl gI)), (xL, .inl (cA, 120, .inl gL)), (xO, .inl (cA, 400, .inl gO)), (xK, .inl (cA, 120, .inl gK)), (xR, .inl (cA, 121, .inl hR_)), (xW, .inl (cA, 1000, .inl gW))] H := hP
                have hD : va_D A [(mo, .inr (5, [.int (nI I.length), .ref xI, .int (nI L.length), .ref xL, .int (nI O.length), .ref xO, .int (nI K.length), .ref xK, .int (nI acc.length), .ref xR, .int wr, .ref xW, .int (nI 0), .long nu, .long (lN 128), .long pc_, .int bs, .int tk, .int gd])), (xI, .inl (cA, 120, .inl gI)), (xL, .inl (cA, 120, .inl gL)), (xO, .inl (cA, 400, .inl gO)), (xK, .inl (cA, 120, .inl gK)), (xR, .inl (cA, 121, .inl hR_)), (xW, .inl (cA, 1000, .inl gW))] := hD
                refine lv_aload_n hx hb dMo_fromLetters_115 rfl (lv_at hl 2 rfl) ?_
                refine lv_lconst (v := lN 0) hx hb dMo_fromLetters_116 (by decide) ?_
                refine va_put (D := D) (ci := 5) (v := .long (lN 0)) (ty := .long) (C := R_Mo) (T := T_Mo) (N := 19) hx hb hw in_Mo ty_Mo ty_Mo_ok nm_Mo hown hK hP hD hS 0 rfl rfl 15 (by decide) (hw _ w_379) (fun _ h9 => h9) rfl (by decide +kernel) rfl rfl (Nat.le_of_ble_eq_true rfl) dMo_fromLetters_117 (fun H locs hP hD hS => ?_)
                have hP : va_P D vwCl [(mo, .inr (5, [.int (nI I.length), .ref xI, .int (nI L.length), .ref xL, .int (nI O.length), .ref xO, .int (nI K.length), .ref xK, .int (nI acc.length), .ref xR, .int wr, .ref xW, .int (nI 0), .long nu, .long (lN 128), .long (lN 0), .int bs, .int tk, .int gd])), (xI, .inl (cA, 120, .inl gI)), (xL, .inl (cA, 120, .inl gL)), (xO, .inl (cA, 400, .inl gO)), (xK, .inl (cA, 120, .inl gK)), (xR, .inl (cA, 121, .inl hR_)), (xW, .inl (cA, 1000, .inl gW))] H := hP
                have hD : va_D A [(mo, .inr (5, [.int (nI I.length), .ref xI, .int (nI L.length), .ref xL, .int (nI O.length), .ref xO, .int (nI K.length), .ref xK, .int (nI acc.length), .ref xR, .int wr, .ref xW, .int (nI 0), .long nu, .long (lN 128), .long (lN 0), .int bs, .int tk, .int gd])), (xI, .inl (cA, 120, .inl gI)), (xL, .inl (cA, 120, .inl gL)), (xO, .inl (cA, 400, .inl gO)), (xK, .inl (cA, 120, .inl gK)), (xR, .inl (cA, 121, .inl hR_)), (xW, .inl (cA, 1000, .inl gW))] := hD
                refine lv_aload_n hx hb dMo_fromLetters_120 rfl (lv_at hl 2 rfl) ?_
                refine lv_bipush (v := nI 72) hx hb dMo_fromLetters_121 (by decide) ?_
                refine va_put (D := D) (ci := 5) (v := .int (nI 72)) (ty := .int) (C := R_Mo) (T := T_Mo) (N := 19) hx hb hw in_Mo ty_Mo ty_Mo_ok nm_Mo hown hK hP hD hS 0 rfl rfl 16 (by decide) (hw _ w_380) (fun _ h9 => h9) rfl (by decide +kernel) rfl rfl (Nat.le_of_ble_eq_true rfl) dMo_fromLetters_123 (fun H locs hP hD hS => ?_)
                have hP : va_P D vwCl [(mo, .inr (5, [.int (nI I.length), .ref xI, .int (nI L.length), .ref xL, .int (nI O.length), .ref xO, .int (nI K.length), .ref xK, .int (nI acc.length), .ref xR, .int wr, .ref xW, .int (nI 0), .long nu, .long (lN 128), .long (lN 0), .int (nI 72), .int tk, .int gd])), (xI, .inl (cA, 120, .inl gI)), (xL, .inl (cA, 120, .inl gL)), (xO, .inl (cA, 400, .inl gO)), (xK, .inl (cA, 120, .inl gK)), (xR, .inl (cA, 121, .inl hR_)), (xW, .inl (cA, 1000, .inl gW))] H := hP
                have hD : va_D A [(mo, .inr (5, [.int (nI I.length), .ref xI, .int (nI L.length), .ref xL, .int (nI O.length), .ref xO, .int (nI K.length), .ref xK, .int (nI acc.length), .ref xR, .int wr, .ref xW, .int (nI 0), .long nu, .long (lN 128), .long (lN 0), .int (nI 72), .int tk, .int gd])), (xI, .inl (cA, 120, .inl gI)), (xL, .inl (cA, 120, .inl gL)), (xO, .inl (cA, 400, .inl gO)), (xK, .inl (cA, 120, .inl gK)), (xR, .inl (cA, 121, .inl hR_)), (xW, .inl (cA, 1000, .inl gW))] := hD
                refine lv_iconst (v := nI 1) hx hb dMo_fromLetters_126 (by decide) ?_
                refine lv_istore_n (lv' := [(2, .int (nI 1)), (1, .int (nI (lhG I I.length))), (0, .ref mo)]) hx hb dMo_fromLetters_127 rfl hl (by decide) rfl (fun ls hl => ?_)
                have loop3 : ∀ (n_ : Nat) (ax : Nat) (va : Nat) (pl : Nat) (bi : Nat) (fb : Bool) (acc : List Nat) (hR_ : Nat → Int32) (nz : Int64) (kf : Nat) (ls : Array Slot) (H : Heap) (locs : List Loc), kf < n_ → Hd hR_ (acc.map nI) → acc.length ≤ ax → ax ≤ I.length → I.length - ax ≤ kf → va ≤ 1114111 → pl ≤ acc.length → bi ≤ 252 → raS I kf ax va pl bi fb acc = rlS I → lv_has ls 4 [(2, .int (bI fb)), (0, .ref mo)] → va_P D vwCl [(mo, .inr (5, [.int (nI I.length), .ref xI, .int (nI L.length), .ref xL, .int (nI O.length), .ref xO, .int (nI K.length), .ref xK, .int (nI acc.length), .ref xR, .int wr, .ref xW, .int (nI ax), .long nz, .long (lN va), .long (lN pl), .int (nI bi), .int tk, .int gd])), (xI, .inl (cA, 120, .inl gI)), (xL, .inl (cA, 120, .inl gL)), (xO, .inl (cA, 400, .inl gO)), (xK, .inl (cA, 120, .inl gK)), (xR, .inl (cA, 121, .inl hR_)), (xW, .inl (cA, 1000, .inl gW))] H → va_D A [(mo, .inr (5, [.int (nI I.length), .ref xI, .int (nI L.length), .ref xL, .int (nI O.length), .ref xO, .int (nI K.length), .ref xK, .int (nI acc.length), .ref xR, .int wr, .ref xW, .int (nI ax), .long nz, .long (lN va), .long (lN pl), .int (nI bi), .int tk, .int gd])), (xI, .inl (cA, 120, .inl gI)), (xL, .inl (cA, 120, .inl gL)), (xO, .inl (cA, 400, .inl gO)), (xK, .inl (cA, 120, .inl gK)), (xR, .inl (cA, 121, .inl hR_)), (xW, .inl (cA, 1000, .inl gW))] → va_S A s.heap H locs → W p l e R s m args below meth c H locs 0 0 Q (F0 m 128 ls []) := by
                  intro n_
                  induction n_ with
                  | zero => intro ax va pl bi fb acc hR_ nz kf ls H locs hm_; exact absurd hm_ (Nat.not_lt_zero _)
                  | succ n_ ih_loop3 =>
                    intro ax va pl bi fb acc hR_ nz kf ls H locs hm_ hgR hac hax hak hva hpl hbi hF hl hP hD hS
                    refine lv_aload_n hx hb dMo_fromLetters_128 rfl (lv_at hl 1 rfl) ?_
                    refine va_get (D := D) (ci := 5) (v := .int (nI ax)) (C := R_Mo) (T := T_Mo) (N := 19) hx hb hw in_Mo hown hK hP 0 rfl rfl 12 (by decide) (hw _ w_376) (fun _ h9 => h9) rfl dMo_fromLetters_129 ?_
                    refine lv_aload_n hx hb dMo_fromLetters_132 rfl (lv_at hl 1 rfl) ?_
                    refine va_get (D := D) (ci := 5) (v := .int (nI I.length)) (C := R_Mo) (T := T_Mo) (N := 19) hx hb hw in_Mo hown hK hP 0 rfl rfl 0 (by decide) (hw _ w_364) (fun _ h9 => h9) rfl dMo_fromLetters_133 ?_
                    refine lv_icmp_ge (tgt := 169) hx hb dMo_fromLetters_136 (by decide) (fun h136 => ?_) (fun h136 => ?_)
                    · skip
                      replace h136 := nt_le (a := I.length) (b := ax) (by omega) (by omega) h136
                      replace hP : va_P D vwCl [(mo, .inr (5, [.int (nI I.length), .ref xI, .int (nI L.length), .ref xL, .int (nI O.length), .ref xO, .int (nI K.length), .ref xK, .int (nI ((acc.map nI).length)), .ref xR, .int wr, .ref xW, .int (nI ax), .long nz, .long (lN va), .long (lN pl), .int (nI bi), .int tk, .int gd])), (xI, .inl (cA, 120, .inl gI)), (xL, .inl (cA, 120, .inl gL)), (xO, .inl (cA, 400, .inl gO)), (xK, .inl (cA, 120, .inl gK)), (xR, .inl (cA, 121, .inl hR_)), (xW, .inl (cA, 1000, .inl gW))] H := by rw [List.length_map]; exact hP
                      replace hD : va_D A [(mo, .inr (5, [.int (nI I.length), .ref xI, .int (nI L.length), .ref xL, .int (nI O.length), .ref xO, .int (nI K.length), .ref xK, .int (nI ((acc.map nI).length)), .ref xR, .int wr, .ref xW, .int (nI ax), .long nz, .long (lN va), .long (lN pl), .int (nI bi), .int tk, .int gd])), (xI, .inl (cA, 120, .inl gI)), (xL, .inl (cA, 120, .inl gL)), (xO, .inl (cA, 400, .inl gO)), (xK, .inl (cA, 120, .inl gK)), (xR, .inl (cA, 121, .inl hR_)), (xW, .inl (cA, 1000, .inl gW))] := by rw [List.length_map]; exact hD
                      have hlm : (acc.map nI).length = acc.length := List.length_map _
                      refine lv_aload_n hx hb dMo_fromLetters_169 rfl (lv_at hl 1 rfl) ?_
                      refine ca_i (wr := []) (va_runV (As := []) (rest := []) Xf (k_Mo_take l D cA _ mo xI xL xO xK xR xW I L O K gI gL gO gK hR_ gW wr (nI ax) nz (lN va) (lN pl) (nI bi) tk gd (acc.map nI) hfI hcI hfL hcL hfO hcO hfK hcK hgR (by omega)) ⟨cb_of 0 hw w_475 w_7 w_472 (by decide +kernel) (by rw [hR]; exact ⟨Nat.le_of_ble_eq_true rfl, Nat.le_of_ble_eq_true rfl⟩), hw _ w_474, hw _ ws_19⟩ (pre_V (As := []) hP hD hK hn [0, 1, 2, 3, 4, 5, 6] rfl (by decide) 0 5 rfl rfl) rfl rfl hl.1 rfl (lv_room (Nat.le_of_ble_eq_true rfl)) dMo_fromLetters_170 ⟨Nat.zero_le _, Nat.zero_le _⟩) hP hD hS hA [0, 1, 2, 3, 4, 5, 6] [] rfl rfl (by decide) (by decide) (fun r170 u_ H locs hq_ hP hD hS => ?_)
                      obtain ⟨gL1, hgL1⟩ : ∃ z, z = u_ := ⟨_, rfl⟩
                      rw [← hgL1] at hP hD hq_
                      obtain ⟨rfl, hfL1⟩ := hq_
                      replace hP : va_P D vwCl [(mo, .inr (5, [.int (nI I.length), .ref xI, .int (nI ((acc.map nI).length)), .ref xL, .int (nI O.length), .ref xO, .int (nI K.length), .ref xK, .int (nI ((acc.map nI).length)), .ref xR, .int wr, .ref xW, .int (nI ax), .long nz, .long (lN va), .long (lN pl), .int (nI bi), .int tk, .int gd])), (xI, .inl (cA, 120, .inl gI)), (xL, .inl (cA, 120, .inl gL1)), (xO, .inl (cA, 400, .inl gO)), (xK, .inl (cA, 120, .inl gK)), (xR, .inl (cA, 121, .inl hR_)), (xW, .inl (cA, 1000, .inl gW))] H := hP.sub [0, 1, 2, 3, 4, 5, 6] rfl
                      replace hD : va_D A [(mo, .inr (5, [.int (nI I.length), .ref xI, .int (nI ((acc.map nI).length)), .ref xL, .int (nI O.length), .ref xO, .int (nI K.length), .ref xK, .int (nI ((acc.map nI).length)), .ref xR, .int wr, .ref xW, .int (nI ax), .long nz, .long (lN va), .long (lN pl), .int (nI bi), .int tk, .int gd])), (xI, .inl (cA, 120, .inl gI)), (xL, .inl (cA, 120, .inl gL1)), (xO, .inl (cA, 400, .inl gO)), (xK, .inl (cA, 120, .inl gK)), (xR, .inl (cA, 121, .inl hR_)), (xW, .inl (cA, 1000, .inl gW))] := hD.sub [0, 1, 2, 3, 4, 5, 6] (by decide) rfl
                      have hz1 : rlS I = (nI acc.length, some acc) := by rw [← hF]; exact raS_end h136
                      exact ret ((acc.map nI), gL1, hR_, nI ((acc.map nI).length), nI ax, nz, lN va, lN pl, nI bi) dMo_fromLetters_173 rfl ⟨by unfold spL; rw [hz1, List.length_map], by unfold spL; rw [hz1], hfL1, by omega⟩ hP hD hS
                    · skip
                      replace h136 := nt_nle (a := I.length) (b := ax) (by omega) (by omega) h136
                      refine lv_aload_n hx hb dMo_fromLetters_139 rfl (lv_at hl 1 rfl) ?_
                      refine ca_i (wr := []) (va_runV (As := []) (rest := []) Xf (k_Mo_readNumber l D cA _ mo xI xL xO xK xR xW I L O K gI gL gO gK hR_ gW (nI acc.length) wr nz (lN va) (lN pl) tk gd ax bi hfI hcI hfL hcL hfO hcO hfK hcK (by omega) (by omega)) ⟨cb_of 0 hw w_493 w_7 w_490 (by decide +kernel) (by rw [hR]; exact ⟨Nat.le_of_ble_eq_true rfl, Nat.le_of_ble_eq_true rfl⟩), hw _ w_492, hw _ ws_20⟩ (pre_V (As := []) hP hD hK hn [0, 1, 2, 3, 4, 5, 6] rfl (by decide) 0 5 rfl rfl) rfl rfl hl.1 rfl (lv_room (Nat.le_of_ble_eq_true rfl)) dMo_fromLetters_140 ⟨Nat.zero_le _, Nat.zero_le _⟩) hP hD hS hA [0, 1, 2, 3, 4, 5, 6] [] rfl rfl (by decide) (by decide) (fun r140 u_ H locs hq_ hP hD hS => ?_)
                      obtain ⟨a2, s2⟩ := u_
                      dsimp only at hq_ hP hD
                      rcases hq_ with ⟨hz, rfl⟩ | ⟨hz, rfl⟩ | ⟨hz, rfl⟩
                      · skip
                        replace hP : va_P D vwCl [(mo, .inr (5, [.int (nI I.length), .ref xI, .int (nI L.length), .ref xL, .int (nI O.length), .ref xO, .int (nI K.length), .ref xK, .int (nI acc.length), .ref xR, .int wr, .ref xW, .int (nI a2), .long (lN s2), .long (lN va), .long (lN pl), .int (nI bi), .int tk, .int gd])), (xI, .inl (cA, 120, .inl gI)), (xL, .inl (cA, 120, .inl gL)), (xO, .inl (cA, 400, .inl gO)), (xK, .inl (cA, 120, .inl gK)), (xR, .inl (cA, 121, .inl hR_)), (xW, .inl (cA, 1000, .inl gW))] H := hP.sub [0, 1, 2, 3, 4, 5, 6] rfl
                        replace hD : va_D A [(mo, .inr (5, [.int (nI I.length), .ref xI, .int (nI L.length), .ref xL, .int (nI O.length), .ref xO, .int (nI K.length), .ref xK, .int (nI acc.length), .ref xR, .int wr, .ref xW, .int (nI a2), .long (lN s2), .long (lN va), .long (lN pl), .int (nI bi), .int tk, .int gd])), (xI, .inl (cA, 120, .inl gI)), (xL, .inl (cA, 120, .inl gL)), (xO, .inl (cA, 400, .inl gO)), (xK, .inl (cA, 120, .inl gK)), (xR, .inl (cA, 121, .inl hR_)), (xW, .inl (cA, 1000, .inl gW))] := hD.sub [0, 1, 2, 3, 4, 5, 6] (by decide) rfl
                        obtain ⟨q1, q2, q3⟩ := rn_ok _ _ _ _ _ _ _ hz
                        refine lv_istore_n (lv' := [(3, .int (nI 0)), (2, .int (bI fb)), (0, .ref mo)]) hx hb dMo_fromLetters_143 rfl hl (by decide) rfl (fun ls hl => ?_)
                        refine lv_iload_n hx hb dMo_fromLetters_144 rfl (lv_at hl 0 rfl) ?_
                        refine lv_if_ge (tgt := 152) hx hb dMo_fromLetters_145 (by decide) (fun h145 => ?_) (fun h145 => ?_)
                        · skip
                          refine lv_aload_n hx hb dMo_fromLetters_152 rfl (lv_at hl 2 rfl) ?_
                          refine lv_iload_n hx hb dMo_fromLetters_153 rfl (lv_at hl 1 rfl) ?_
                          refine ca_i (wr := []) (va_runV (As := [.int (bI fb)]) (rest := []) Xf (k_Mo_putIn l D cA _ mo xI xL xO xK xR xW I L O K gI gL gO gK hR_ gW wr (nI a2) tk gd bi acc s2 va pl fb hfI hcI hfL hcL hfO hcO hfK hcK hgR (by omega) (by omega) (by omega) (by omega)) ⟨cb_of 1 hw w_504 w_7 w_501 (by decide +kernel) (by rw [hR]; exact ⟨Nat.le_of_ble_eq_true rfl, Nat.le_of_ble_eq_true rfl⟩), hw _ w_503, hw _ ws_21⟩ (pre_V (As := [.int (bI fb)]) hP hD hK hn [0, 1, 2, 3, 4, 5, 6] rfl (by decide) 0 5 rfl rfl) rfl rfl hl.1 rfl (lv_room (Nat.le_of_ble_eq_true rfl)) dMo_fromLetters_154 ⟨Nat.zero_le _, Nat.zero_le _⟩) hP hD hS hA [0, 1, 2, 3, 4, 5, 6] [] rfl rfl (by decide) (by decide) (fun r154 u_ H locs hq_ hP hD hS => ?_)
                          obtain ⟨gR2, acc2, va2, pl2, bi2⟩ := u_
                          dsimp only at hq_ hP hD
                          rcases hq_ with ⟨hov, rfl⟩ | ⟨hov, hsc, rfl⟩ | ⟨hov, hsc, rfl, e1_, e2_, e3_, e4_, hfR2⟩
                          · skip
                            replace hP : va_P D vwCl [(mo, .inr (5, [.int (nI I.length), .ref xI, .int (nI L.length), .ref xL, .int (nI O.length), .ref xO, .int (nI K.length), .ref xK, .int (nI acc2.length), .ref xR, .int wr, .ref xW, .int (nI a2), .long (lN s2), .long (lN va2), .long (lN pl2), .int (nI bi2), .int tk, .int gd])), (xI, .inl (cA, 120, .inl gI)), (xL, .inl (cA, 120, .inl gL)), (xO, .inl (cA, 400, .inl gO)), (xK, .inl (cA, 120, .inl gK)), (xR, .inl (cA, 121, .inl gR2)), (xW, .inl (cA, 1000, .inl gW))] H := hP.sub [0, 1, 2, 3, 4, 5, 6] rfl
                            replace hD : va_D A [(mo, .inr (5, [.int (nI I.length), .ref xI, .int (nI L.length), .ref xL, .int (nI O.length), .ref xO, .int (nI K.length), .ref xK, .int (nI acc2.length), .ref xR, .int wr, .ref xW, .int (nI a2), .long (lN s2), .long (lN va2), .long (lN pl2), .int (nI bi2), .int tk, .int gd])), (xI, .inl (cA, 120, .inl gI)), (xL, .inl (cA, 120, .inl gL)), (xO, .inl (cA, 400, .inl gO)), (xK, .inl (cA, 120, .inl gK)), (xR, .inl (cA, 121, .inl gR2)), (xW, .inl (cA, 1000, .inl gW))] := hD.sub [0, 1, 2, 3, 4, 5, 6] (by decide) rfl
                            refine lv_istore_n (lv' := [(3, .int (-2)), (2, .int (bI fb)), (0, .ref mo)]) hx hb dMo_fromLetters_157 rfl hl (by decide) rfl (fun ls hl => ?_)
                            refine lv_iload_n hx hb dMo_fromLetters_158 rfl (lv_at hl 0 rfl) ?_
                            refine lv_if_ge (tgt := 164) hx hb dMo_fromLetters_159 (by decide) (fun h159 => ?_) (fun h159 => ?_)
                            · skip
                              exact absurd h159 (by decide)
                            · skip
                              refine lv_iload_n hx hb dMo_fromLetters_162 rfl (lv_at hl 0 rfl) ?_
                              obtain ⟨k2, rfl⟩ : ∃ k2, kf = k2 + 1 := ⟨kf - 1, by omega⟩
                              have hz1 : rlS I = (-2, none) := by rw [← hF]; exact raS_ov h136 hz hov
                              exact ret (L, gL, gR2, nI acc2.length, nI a2, lN s2, lN va2, lN pl2, nI bi2) dMo_fromLetters_163 rfl ⟨by unfold spL; rw [hz1], by unfold spL; rw [hz1], hfL, hcL⟩ hP hD hS
                          · skip
                            replace hP : va_P D vwCl [(mo, .inr (5, [.int (nI I.length), .ref xI, .int (nI L.length), .ref xL, .int (nI O.length), .ref xO, .int (nI K.length), .ref xK, .int (nI acc2.length), .ref xR, .int wr, .ref xW, .int (nI a2), .long (lN s2), .long (lN va2), .long (lN pl2), .int (nI bi2), .int tk, .int gd])), (xI, .inl (cA, 120, .inl gI)), (xL, .inl (cA, 120, .inl gL)), (xO, .inl (cA, 400, .inl gO)), (xK, .inl (cA, 120, .inl gK)), (xR, .inl (cA, 121, .inl gR2)), (xW, .inl (cA, 1000, .inl gW))] H := hP.sub [0, 1, 2, 3, 4, 5, 6] rfl
                            replace hD : va_D A [(mo, .inr (5, [.int (nI I.length), .ref xI, .int (nI L.length), .ref xL, .int (nI O.length), .ref xO, .int (nI K.length), .ref xK, .int (nI acc2.length), .ref xR, .int wr, .ref xW, .int (nI a2), .long (lN s2), .long (lN va2), .long (lN pl2), .int (nI bi2), .int tk, .int gd])), (xI, .inl (cA, 120, .inl gI)), (xL, .inl (cA, 120, .inl gL)), (xO, .inl (cA, 400, .inl gO)), (xK, .inl (cA, 120, .inl gK)), (xR, .inl (cA, 121, .inl gR2)), (xW, .inl (cA, 1000, .inl gW))] := hD.sub [0, 1, 2, 3, 4, 5, 6] (by decide) rfl
                            refine lv_istore_n (lv' := [(3, .int (-4)), (2, .int (bI fb)), (0, .ref mo)]) hx hb dMo_fromLetters_157 rfl hl (by decide) rfl (fun ls hl => ?_)
                            refine lv_iload_n hx hb dMo_fromLetters_158 rfl (lv_at hl 0 rfl) ?_
                            refine lv_if_ge (tgt := 164) hx hb dMo_fromLetters_159 (by decide) (fun h159 => ?_) (fun h159 => ?_)
                            · skip
                              exact absurd h159 (by decide)
                            · skip
                              refine lv_iload_n hx hb dMo_fromLetters_162 rfl (lv_at hl 0 rfl) ?_
                              obtain ⟨k2, rfl⟩ : ∃ k2, kf = k2 + 1 := ⟨kf - 1, by omega⟩
                              have hz1 : rlS I = (-4, none) := by rw [← hF]; exact raS_ns h136 hz hov hsc
                              exact ret (L, gL, gR2, nI acc2.length, nI a2, lN s2, lN va2, lN pl2, nI bi2) dMo_fromLetters_163 rfl ⟨by unfold spL; rw [hz1], by unfold spL; rw [hz1], hfL, hcL⟩ hP hD hS
                          · skip
                            replace hP : va_P D vwCl [(mo, .inr (5, [.int (nI I.length), .ref xI, .int (nI L.length), .ref xL, .int (nI O.length), .ref xO, .int (nI K.length), .ref xK, .int (nI acc2.length), .ref xR, .int wr, .ref xW, .int (nI a2), .long (lN s2), .long (lN va2), .long (lN pl2), .int (nI bi2), .int tk, .int gd])), (xI, .inl (cA, 120, .inl gI)), (xL, .inl (cA, 120, .inl gL)), (xO, .inl (cA, 400, .inl gO)), (xK, .inl (cA, 120, .inl gK)), (xR, .inl (cA, 121, .inl gR2)), (xW, .inl (cA, 1000, .inl gW))] H := hP.sub [0, 1, 2, 3, 4, 5, 6] rfl
                            replace hD : va_D A [(mo, .inr (5, [.int (nI I.length), .ref xI, .int (nI L.length), .ref xL, .int (nI O.length), .ref xO, .int (nI K.length), .ref xK, .int (nI acc2.length), .ref xR, .int wr, .ref xW, .int (nI a2), .long (lN s2), .long (lN va2), .long (lN pl2), .int (nI bi2), .int tk, .int gd])), (xI, .inl (cA, 120, .inl gI)), (xL, .inl (cA, 120, .inl gL)), (xO, .inl (cA, 400, .inl gO)), (xK, .inl (cA, 120, .inl gK)), (xR, .inl (cA, 121, .inl gR2)), (xW, .inl (cA, 1000, .inl gW))] := hD.sub [0, 1, 2, 3, 4, 5, 6] (by decide) rfl
                            refine lv_istore_n (lv' := [(3, .int (nI 0)), (2, .int (bI fb)), (0, .ref mo)]) hx hb dMo_fromLetters_157 rfl hl (by decide) rfl (fun ls hl => ?_)
                            refine lv_iload_n hx hb dMo_fromLetters_158 rfl (lv_at hl 0 rfl) ?_
                            refine lv_if_ge (tgt := 164) hx hb dMo_fromLetters_159 (by decide) (fun h159 => ?_) (fun h159 => ?_)
                            · skip
                              refine lv_iconst (v := nI 0) hx hb dMo_fromLetters_164 (by decide) ?_
                              refine lv_istore_n (lv' := [(2, .int (nI 0)), (3, .int (nI 0)), (0, .ref mo)]) hx hb dMo_fromLetters_165 rfl hl (by decide) rfl (fun ls hl => ?_)
                              refine lv_goto (tgt := 128) hx hb dMo_fromLetters_166 (by decide) ?_
                              subst acc2 va2 pl2 bi2
                              obtain ⟨k2, rfl⟩ : ∃ k2, kf = k2 + 1 := ⟨kf - 1, by omega⟩
                              rw [raS_go h136 hz hov hsc] at hF
                              have hm9 : (pl + s2) % (acc.length + 1) < acc.length + 1 := Nat.mod_lt _ (Nat.succ_pos _)
                              have hil : (acc.insertIdx ((pl + s2) % (acc.length + 1)) (va + (pl + s2) / (acc.length + 1))).length = acc.length + 1 := List.length_insertIdx_of_le_length (by omega) _
                              have hab := adN_b (d := s2) (n := acc.length + 1) (fb := fb) (by omega)
                              have hsv := hsc.1
                              exact ih_loop3 a2 (va + (pl + s2) / (acc.length + 1)) ((pl + s2) % (acc.length + 1) + 1) (adN s2 (acc.length + 1) fb) false (acc.insertIdx ((pl + s2) % (acc.length + 1)) (va + (pl + s2) / (acc.length + 1))) gR2 (lN s2) k2 _ _ _ (by omega) hfR2 (by omega) (by omega) (by omega) (by omega) (by omega) (by omega) hF (lv_sub hl [0, 2] rfl) hP hD hS
                            · skip
                              exact absurd h159 (by decide)
                        · skip
                          exact absurd h145 (by decide)
                      · skip
                        replace hP : va_P D vwCl [(mo, .inr (5, [.int (nI I.length), .ref xI, .int (nI L.length), .ref xL, .int (nI O.length), .ref xO, .int (nI K.length), .ref xK, .int (nI acc.length), .ref xR, .int wr, .ref xW, .int (nI a2), .long (lN s2), .long (lN va), .long (lN pl), .int (nI bi), .int tk, .int gd])), (xI, .inl (cA, 120, .inl gI)), (xL, .inl (cA, 120, .inl gL)), (xO, .inl (cA, 400, .inl gO)), (xK, .inl (cA, 120, .inl gK)), (xR, .inl (cA, 121, .inl hR_)), (xW, .inl (cA, 1000, .inl gW))] H := hP.sub [0, 1, 2, 3, 4, 5, 6] rfl
                        replace hD : va_D A [(mo, .inr (5, [.int (nI I.length), .ref xI, .int (nI L.length), .ref xL, .int (nI O.length), .ref xO, .int (nI K.length), .ref xK, .int (nI acc.length), .ref xR, .int wr, .ref xW, .int (nI a2), .long (lN s2), .long (lN va), .long (lN pl), .int (nI bi), .int tk, .int gd])), (xI, .inl (cA, 120, .inl gI)), (xL, .inl (cA, 120, .inl gL)), (xO, .inl (cA, 400, .inl gO)), (xK, .inl (cA, 120, .inl gK)), (xR, .inl (cA, 121, .inl hR_)), (xW, .inl (cA, 1000, .inl gW))] := hD.sub [0, 1, 2, 3, 4, 5, 6] (by decide) rfl
                        refine lv_istore_n (lv' := [(3, .int (-1)), (2, .int (bI fb)), (0, .ref mo)]) hx hb dMo_fromLetters_143 rfl hl (by decide) rfl (fun ls hl => ?_)
                        refine lv_iload_n hx hb dMo_fromLetters_144 rfl (lv_at hl 0 rfl) ?_
                        refine lv_if_ge (tgt := 152) hx hb dMo_fromLetters_145 (by decide) (fun h145 => ?_) (fun h145 => ?_)
                        · skip
                          exact absurd h145 (by decide)
                        · skip
                          refine lv_iload_n hx hb dMo_fromLetters_148 rfl (lv_at hl 0 rfl) ?_
                          refine lv_goto (tgt := 157) hx hb dMo_fromLetters_149 (by decide) ?_
                          refine lv_istore_n (lv' := [(3, .int (-1)), (2, .int (bI fb)), (0, .ref mo)]) hx hb dMo_fromLetters_157 rfl hl (by decide) rfl (fun ls hl => ?_)
                          refine lv_iload_n hx hb dMo_fromLetters_158 rfl (lv_at hl 0 rfl) ?_
                          refine lv_if_ge (tgt := 164) hx hb dMo_fromLetters_159 (by decide) (fun h159 => ?_) (fun h159 => ?_)
                          · skip
                            exact absurd h159 (by decide)
                          · skip
                            refine lv_iload_n hx hb dMo_fromLetters_162 rfl (lv_at hl 0 rfl) ?_
                            obtain ⟨k2, rfl⟩ : ∃ k2, kf = k2 + 1 := ⟨kf - 1, by omega⟩
                            have hz1 : rlS I = (-1, none) := by rw [← hF]; exact raS_bad h136 hz (by decide)
                            exact ret (L, gL, hR_, nI acc.length, nI a2, lN s2, lN va, lN pl, nI bi) dMo_fromLetters_163 rfl ⟨by unfold spL; rw [hz1], by unfold spL; rw [hz1], hfL, hcL⟩ hP hD hS
                      · skip
                        replace hP : va_P D vwCl [(mo, .inr (5, [.int (nI I.length), .ref xI, .int (nI L.length), .ref xL, .int (nI O.length), .ref xO, .int (nI K.length), .ref xK, .int (nI acc.length), .ref xR, .int wr, .ref xW, .int (nI a2), .long (lN s2), .long (lN va), .long (lN pl), .int (nI bi), .int tk, .int gd])), (xI, .inl (cA, 120, .inl gI)), (xL, .inl (cA, 120, .inl gL)), (xO, .inl (cA, 400, .inl gO)), (xK, .inl (cA, 120, .inl gK)), (xR, .inl (cA, 121, .inl hR_)), (xW, .inl (cA, 1000, .inl gW))] H := hP.sub [0, 1, 2, 3, 4, 5, 6] rfl
                        replace hD : va_D A [(mo, .inr (5, [.int (nI I.length), .ref xI, .int (nI L.length), .ref xL, .int (nI O.length), .ref xO, .int (nI K.length), .ref xK, .int (nI acc.length), .ref xR, .int wr, .ref xW, .int (nI a2), .long (lN s2), .long (lN va), .long (lN pl), .int (nI bi), .int tk, .int gd])), (xI, .inl (cA, 120, .inl gI)), (xL, .inl (cA, 120, .inl gL)), (xO, .inl (cA, 400, .inl gO)), (xK, .inl (cA, 120, .inl gK)), (xR, .inl (cA, 121, .inl hR_)), (xW, .inl (cA, 1000, .inl gW))] := hD.sub [0, 1, 2, 3, 4, 5, 6] (by decide) rfl
                        refine lv_istore_n (lv' := [(3, .int (-2)), (2, .int (bI fb)), (0, .ref mo)]) hx hb dMo_fromLetters_143 rfl hl (by decide) rfl (fun ls hl => ?_)
                        refine lv_iload_n hx hb dMo_fromLetters_144 rfl (lv_at hl 0 rfl) ?_
                        refine lv_if_ge (tgt := 152) hx hb dMo_fromLetters_145 (by decide) (fun h145 => ?_) (fun h145 => ?_)
                        · skip
                          exact absurd h145 (by decide)
                        · skip
                          refine lv_iload_n hx hb dMo_fromLetters_148 rfl (lv_at hl 0 rfl) ?_
                          refine lv_goto (tgt := 157) hx hb dMo_fromLetters_149 (by decide) ?_
                          refine lv_istore_n (lv' := [(3, .int (-2)), (2, .int (bI fb)), (0, .ref mo)]) hx hb dMo_fromLetters_157 rfl hl (by decide) rfl (fun ls hl => ?_)
                          refine lv_iload_n hx hb dMo_fromLetters_158 rfl (lv_at hl 0 rfl) ?_
                          refine lv_if_ge (tgt := 164) hx hb dMo_fromLetters_159 (by decide) (fun h159 => ?_) (fun h159 => ?_)
                          · skip
                            exact absurd h159 (by decide)
                          · skip
                            refine lv_iload_n hx hb dMo_fromLetters_162 rfl (lv_at hl 0 rfl) ?_
                            obtain ⟨k2, rfl⟩ : ∃ k2, kf = k2 + 1 := ⟨kf - 1, by omega⟩
                            have hz1 : rlS I = (-2, none) := by rw [← hF]; exact raS_bad h136 hz (by decide)
                            exact ret (L, gL, hR_, nI acc.length, nI a2, lN s2, lN va, lN pl, nI bi) dMo_fromLetters_163 rfl ⟨by unfold spL; rw [hz1], by unfold spL; rw [hz1], hfL, hcL⟩ hP hD hS
                exact loop3 _ 0 128 0 72 true acc hR_ nu I.length _ _ _ (Nat.lt_succ_self _) hgR (by omega) (by omega) (by omega) (by omega) (by omega) (by omega) hz0.symm (lv_sub hl [0, 2] rfl) hP hD hS
              · skip
                replace h95 := nt_nle (a := lhG I I.length) (b := 0) (by omega) (by omega) h95
                have hz0 : rlS I = raS I I.length (lhG I I.length + 1) 128 0 72 true acc := by unfold rlS; rw [hpl]; dsimp only; rw [if_neg (by omega)]
                refine lv_iload_n hx hb dMo_fromLetters_98 rfl (lv_at hl 1 rfl) ?_
                refine lv_iconst (v := nI 1) hx hb dMo_fromLetters_99 (by decide) ?_
                refine lv_iadd hx hb dMo_fromLetters_100 ?_
                refine lv_rei (y := nI (lhG I I.length + 1)) (nI_add _ _) ?_
                refine lv_goto (tgt := 105) hx hb dMo_fromLetters_101 (by decide) ?_
                refine va_put (D := D) (ci := 5) (v := .int (nI (lhG I I.length + 1))) (ty := .int) (C := R_Mo) (T := T_Mo) (N := 19) hx hb hw in_Mo ty_Mo ty_Mo_ok nm_Mo hown hK hP hD hS 0 rfl rfl 12 (by decide) (hw _ w_376) (fun _ h9 => h9) rfl (by decide +kernel) rfl rfl (Nat.le_of_ble_eq_true rfl) dMo_fromLetters_105 (fun H locs hP hD hS => ?_)
                have hP : va_P D vwCl [(mo, .inr (5, [.int (nI I.length), .ref xI, .int (nI L.length), .ref xL, .int (nI O.length), .ref xO, .int (nI K.length), .ref xK, .int (nI acc.length), .ref xR, .int wr, .ref xW, .int (nI (lhG I I.length + 1)), .long nu, .long vl, .long pc_, .int bs, .int tk, .int gd])), (xI, .inl (cA, 120, .inl gI)), (xL, .inl (cA, 120, .inl gL)), (xO, .inl (cA, 400, .inl gO)), (xK, .inl (cA, 120, .inl gK)), (xR, .inl (cA, 121, .inl hR_)), (xW, .inl (cA, 1000, .inl gW))] H := hP
                have hD : va_D A [(mo, .inr (5, [.int (nI I.length), .ref xI, .int (nI L.length), .ref xL, .int (nI O.length), .ref xO, .int (nI K.length), .ref xK, .int (nI acc.length), .ref xR, .int wr, .ref xW, .int (nI (lhG I I.length + 1)), .long nu, .long vl, .long pc_, .int bs, .int tk, .int gd])), (xI, .inl (cA, 120, .inl gI)), (xL, .inl (cA, 120, .inl gL)), (xO, .inl (cA, 400, .inl gO)), (xK, .inl (cA, 120, .inl gK)), (xR, .inl (cA, 121, .inl hR_)), (xW, .inl (cA, 1000, .inl gW))] := hD
                refine lv_aload_n hx hb dMo_fromLetters_108 rfl (lv_at hl 2 rfl) ?_
                refine lv_ldc2 (v := lN 128) hx hb hown (hw _ w_489) dMo_fromLetters_109 ?_
                refine va_put (D := D) (ci := 5) (v := .long (lN 128)) (ty := .long) (C := R_Mo) (T := T_Mo) (N := 19) hx hb hw in_Mo ty_Mo ty_Mo_ok nm_Mo hown hK hP hD hS 0 rfl rfl 14 (by decide) (hw _ w_378) (fun _ h9 => h9) rfl (by decide +kernel) rfl rfl (Nat.le_of_ble_eq_true rfl) dMo_fromLetters_112 (fun H locs hP hD hS => ?_)
                have hP : va_P D vwCl [(mo, .inr (5, [.int (nI I.length), .ref xI, .int (nI L.length), .ref xL, .int (nI O.length), .ref xO, .int (nI K.length), .ref xK, .int (nI acc.length), .ref xR, .int wr, .ref xW, .int (nI (lhG I I.length + 1)), .long nu, .long (lN 128), .long pc_, .int bs, .int tk, .int gd])), (xI, .inl (cA, 120, .inl gI)), (xL, .inl (cA, 120, .inl gL)), (xO, .inl (cA, 400, .inl gO)), (xK, .inl (cA, 120, .inl gK)), (xR, .inl (cA, 121, .inl hR_)), (xW, .inl (cA, 1000, .inl gW))] H := hP
                have hD : va_D A [(mo, .inr (5, [.int (nI I.length), .ref xI, .int (nI L.length), .ref xL, .int (nI O.length), .ref xO, .int (nI K.length), .ref xK, .int (nI acc.length), .ref xR, .int wr, .ref xW, .int (nI (lhG I I.length + 1)), .long nu, .long (lN 128), .long pc_, .int bs, .int tk, .int gd])), (xI, .inl (cA, 120, .inl gI)), (xL, .inl (cA, 120, .inl gL)), (xO, .inl (cA, 400, .inl gO)), (xK, .inl (cA, 120, .inl gK)), (xR, .inl (cA, 121, .inl hR_)), (xW, .inl (cA, 1000, .inl gW))] := hD
                refine lv_aload_n hx hb dMo_fromLetters_115 rfl (lv_at hl 2 rfl) ?_
                refine lv_lconst (v := lN 0) hx hb dMo_fromLetters_116 (by decide) ?_
                refine va_put (D := D) (ci := 5) (v := .long (lN 0)) (ty := .long) (C := R_Mo) (T := T_Mo) (N := 19) hx hb hw in_Mo ty_Mo ty_Mo_ok nm_Mo hown hK hP hD hS 0 rfl rfl 15 (by decide) (hw _ w_379) (fun _ h9 => h9) rfl (by decide +kernel) rfl rfl (Nat.le_of_ble_eq_true rfl) dMo_fromLetters_117 (fun H locs hP hD hS => ?_)
                have hP : va_P D vwCl [(mo, .inr (5, [.int (nI I.length), .ref xI, .int (nI L.length), .ref xL, .int (nI O.length), .ref xO, .int (nI K.length), .ref xK, .int (nI acc.length), .ref xR, .int wr, .ref xW, .int (nI (lhG I I.length + 1)), .long nu, .long (lN 128), .long (lN 0), .int bs, .int tk, .int gd])), (xI, .inl (cA, 120, .inl gI)), (xL, .inl (cA, 120, .inl gL)), (xO, .inl (cA, 400, .inl gO)), (xK, .inl (cA, 120, .inl gK)), (xR, .inl (cA, 121, .inl hR_)), (xW, .inl (cA, 1000, .inl gW))] H := hP
                have hD : va_D A [(mo, .inr (5, [.int (nI I.length), .ref xI, .int (nI L.length), .ref xL, .int (nI O.length), .ref xO, .int (nI K.length), .ref xK, .int (nI acc.length), .ref xR, .int wr, .ref xW, .int (nI (lhG I I.length + 1)), .long nu, .long (lN 128), .long (lN 0), .int bs, .int tk, .int gd])), (xI, .inl (cA, 120, .inl gI)), (xL, .inl (cA, 120, .inl gL)), (xO, .inl (cA, 400, .inl gO)), (xK, .inl (cA, 120, .inl gK)), (xR, .inl (cA, 121, .inl hR_)), (xW, .inl (cA, 1000, .inl gW))] := hD
                refine lv_aload_n hx hb dMo_fromLetters_120 rfl (lv_at hl 2 rfl) ?_
                refine lv_bipush (v := nI 72) hx hb dMo_fromLetters_121 (by decide) ?_
                refine va_put (D := D) (ci := 5) (v := .int (nI 72)) (ty := .int) (C := R_Mo) (T := T_Mo) (N := 19) hx hb hw in_Mo ty_Mo ty_Mo_ok nm_Mo hown hK hP hD hS 0 rfl rfl 16 (by decide) (hw _ w_380) (fun _ h9 => h9) rfl (by decide +kernel) rfl rfl (Nat.le_of_ble_eq_true rfl) dMo_fromLetters_123 (fun H locs hP hD hS => ?_)
                have hP : va_P D vwCl [(mo, .inr (5, [.int (nI I.length), .ref xI, .int (nI L.length), .ref xL, .int (nI O.length), .ref xO, .int (nI K.length), .ref xK, .int (nI acc.length), .ref xR, .int wr, .ref xW, .int (nI (lhG I I.length + 1)), .long nu, .long (lN 128), .long (lN 0), .int (nI 72), .int tk, .int gd])), (xI, .inl (cA, 120, .inl gI)), (xL, .inl (cA, 120, .inl gL)), (xO, .inl (cA, 400, .inl gO)), (xK, .inl (cA, 120, .inl gK)), (xR, .inl (cA, 121, .inl hR_)), (xW, .inl (cA, 1000, .inl gW))] H := hP
                have hD : va_D A [(mo, .inr (5, [.int (nI I.length), .ref xI, .int (nI L.length), .ref xL, .int (nI O.length), .ref xO, .int (nI K.length), .ref xK, .int (nI acc.length), .ref xR, .int wr, .ref xW, .int (nI (lhG I I.length + 1)), .long nu, .long (lN 128), .long (lN 0), .int (nI 72), .int tk, .int gd])), (xI, .inl (cA, 120, .inl gI)), (xL, .inl (cA, 120, .inl gL)), (xO, .inl (cA, 400, .inl gO)), (xK, .inl (cA, 120, .inl gK)), (xR, .inl (cA, 121, .inl hR_)), (xW, .inl (cA, 1000, .inl gW))] := hD
                refine lv_iconst (v := nI 1) hx hb dMo_fromLetters_126 (by decide) ?_
                refine lv_istore_n (lv' := [(2, .int (nI 1)), (1, .int (nI (lhG I I.length))), (0, .ref mo)]) hx hb dMo_fromLetters_127 rfl hl (by decide) rfl (fun ls hl => ?_)
                have loop3 : ∀ (n_ : Nat) (ax : Nat) (va : Nat) (pl : Nat) (bi : Nat) (fb : Bool) (acc : List Nat) (hR_ : Nat → Int32) (nz : Int64) (kf : Nat) (ls : Array Slot) (H : Heap) (locs : List Loc), kf < n_ → Hd hR_ (acc.map nI) → acc.length ≤ ax → ax ≤ I.length → I.length - ax ≤ kf → va ≤ 1114111 → pl ≤ acc.length → bi ≤ 252 → raS I kf ax va pl bi fb acc = rlS I → lv_has ls 4 [(2, .int (bI fb)), (0, .ref mo)] → va_P D vwCl [(mo, .inr (5, [.int (nI I.length), .ref xI, .int (nI L.length), .ref xL, .int (nI O.length), .ref xO, .int (nI K.length), .ref xK, .int (nI acc.length), .ref xR, .int wr, .ref xW, .int (nI ax), .long nz, .long (lN va), .long (lN pl), .int (nI bi), .int tk, .int gd])), (xI, .inl (cA, 120, .inl gI)), (xL, .inl (cA, 120, .inl gL)), (xO, .inl (cA, 400, .inl gO)), (xK, .inl (cA, 120, .inl gK)), (xR, .inl (cA, 121, .inl hR_)), (xW, .inl (cA, 1000, .inl gW))] H → va_D A [(mo, .inr (5, [.int (nI I.length), .ref xI, .int (nI L.length), .ref xL, .int (nI O.length), .ref xO, .int (nI K.length), .ref xK, .int (nI acc.length), .ref xR, .int wr, .ref xW, .int (nI ax), .long nz, .long (lN va), .long (lN pl), .int (nI bi), .int tk, .int gd])), (xI, .inl (cA, 120, .inl gI)), (xL, .inl (cA, 120, .inl gL)), (xO, .inl (cA, 400, .inl gO)), (xK, .inl (cA, 120, .inl gK)), (xR, .inl (cA, 121, .inl hR_)), (xW, .inl (cA, 1000, .inl gW))] → va_S A s.heap H locs → W p l e R s m args below meth c H locs 0 0 Q (F0 m 128 ls []) := by
                  intro n_
                  induction n_ with
                  | zero => intro ax va pl bi fb acc hR_ nz kf ls H locs hm_; exact absurd hm_ (Nat.not_lt_zero _)
                  | succ n_ ih_loop3 =>
                    intro ax va pl bi fb acc hR_ nz kf ls H locs hm_ hgR hac hax hak hva hpl hbi hF hl hP hD hS
                    refine lv_aload_n hx hb dMo_fromLetters_128 rfl (lv_at hl 1 rfl) ?_
                    refine va_get (D := D) (ci := 5) (v := .int (nI ax)) (C := R_Mo) (T := T_Mo) (N := 19) hx hb hw in_Mo hown hK hP 0 rfl rfl 12 (by decide) (hw _ w_376) (fun _ h9 => h9) rfl dMo_fromLetters_129 ?_
                    refine lv_aload_n hx hb dMo_fromLetters_132 rfl (lv_at hl 1 rfl) ?_
                    refine va_get (D := D) (ci := 5) (v := .int (nI I.length)) (C := R_Mo) (T := T_Mo) (N := 19) hx hb hw in_Mo hown hK hP 0 rfl rfl 0 (by decide) (hw _ w_364) (fun _ h9 => h9) rfl dMo_fromLetters_133 ?_
                    refine lv_icmp_ge (tgt := 169) hx hb dMo_fromLetters_136 (by decide) (fun h136 => ?_) (fun h136 => ?_)
                    · skip
                      replace h136 := nt_le (a := I.length) (b := ax) (by omega) (by omega) h136
                      replace hP : va_P D vwCl [(mo, .inr (5, [.int (nI I.length), .ref xI, .int (nI L.length), .ref xL, .int (nI O.length), .ref xO, .int (nI K.length), .ref xK, .int (nI ((acc.map nI).length)), .ref xR, .int wr, .ref xW, .int (nI ax), .long nz, .long (lN va), .long (lN pl), .int (nI bi), .int tk, .int gd])), (xI, .inl (cA, 120, .inl gI)), (xL, .inl (cA, 120, .inl gL)), (xO, .inl (cA, 400, .inl gO)), (xK, .inl (cA, 120, .inl gK)), (xR, .inl (cA, 121, .inl hR_)), (xW, .inl (cA, 1000, .inl gW))] H := by rw [List.length_map]; exact hP
                      replace hD : va_D A [(mo, .inr (5, [.int (nI I.length), .ref xI, .int (nI L.length), .ref xL, .int (nI O.length), .ref xO, .int (nI K.length), .ref xK, .int (nI ((acc.map nI).length)), .ref xR, .int wr, .ref xW, .int (nI ax), .long nz, .long (lN va), .long (lN pl), .int (nI bi), .int tk, .int gd])), (xI, .inl (cA, 120, .inl gI)), (xL, .inl (cA, 120, .inl gL)), (xO, .inl (cA, 400, .inl gO)), (xK, .inl (cA, 120, .inl gK)), (xR, .inl (cA, 121, .inl hR_)), (xW, .inl (cA, 1000, .inl gW))] := by rw [List.length_map]; exact hD
                      have hlm : (acc.map nI).length = acc.length := List.length_map _
                      refine lv_aload_n hx hb dMo_fromLetters_169 rfl (lv_at hl 1 rfl) ?_
                      refine ca_i (wr := []) (va_runV (As := []) (rest := []) Xf (k_Mo_take l D cA _ mo xI xL xO xK xR xW I L O K gI gL gO gK hR_ gW wr (nI ax) nz (lN va) (lN pl) (nI bi) tk gd (acc.map nI) hfI hcI hfL hcL hfO hcO hfK hcK hgR (by omega)) ⟨cb_of 0 hw w_475 w_7 w_472 (by decide +kernel) (by rw [hR]; exact ⟨Nat.le_of_ble_eq_true rfl, Nat.le_of_ble_eq_true rfl⟩), hw _ w_474, hw _ ws_19⟩ (pre_V (As := []) hP hD hK hn [0, 1, 2, 3, 4, 5, 6] rfl (by decide) 0 5 rfl rfl) rfl rfl hl.1 rfl (lv_room (Nat.le_of_ble_eq_true rfl)) dMo_fromLetters_170 ⟨Nat.zero_le _, Nat.zero_le _⟩) hP hD hS hA [0, 1, 2, 3, 4, 5, 6] [] rfl rfl (by decide) (by decide) (fun r170 u_ H locs hq_ hP hD hS => ?_)
                      obtain ⟨gL3, hgL3⟩ : ∃ z, z = u_ := ⟨_, rfl⟩
                      rw [← hgL3] at hP hD hq_
                      obtain ⟨rfl, hfL3⟩ := hq_
                      replace hP : va_P D vwCl [(mo, .inr (5, [.int (nI I.length), .ref xI, .int (nI ((acc.map nI).length)), .ref xL, .int (nI O.length), .ref xO, .int (nI K.length), .ref xK, .int (nI ((acc.map nI).length)), .ref xR, .int wr, .ref xW, .int (nI ax), .long nz, .long (lN va), .long (lN pl), .int (nI bi), .int tk, .int gd])), (xI, .inl (cA, 120, .inl gI)), (xL, .inl (cA, 120, .inl gL3)), (xO, .inl (cA, 400, .inl gO)), (xK, .inl (cA, 120, .inl gK)), (xR, .inl (cA, 121, .inl hR_)), (xW, .inl (cA, 1000, .inl gW))] H := hP.sub [0, 1, 2, 3, 4, 5, 6] rfl
                      replace hD : va_D A [(mo, .inr (5, [.int (nI I.length), .ref xI, .int (nI ((acc.map nI).length)), .ref xL, .int (nI O.length), .ref xO, .int (nI K.length), .ref xK, .int (nI ((acc.map nI).length)), .ref xR, .int wr, .ref xW, .int (nI ax), .long nz, .long (lN va), .long (lN pl), .int (nI bi), .int tk, .int gd])), (xI, .inl (cA, 120, .inl gI)), (xL, .inl (cA, 120, .inl gL3)), (xO, .inl (cA, 400, .inl gO)), (xK, .inl (cA, 120, .inl gK)), (xR, .inl (cA, 121, .inl hR_)), (xW, .inl (cA, 1000, .inl gW))] := hD.sub [0, 1, 2, 3, 4, 5, 6] (by decide) rfl
                      have hz1 : rlS I = (nI acc.length, some acc) := by rw [← hF]; exact raS_end h136
                      exact ret ((acc.map nI), gL3, hR_, nI ((acc.map nI).length), nI ax, nz, lN va, lN pl, nI bi) dMo_fromLetters_173 rfl ⟨by unfold spL; rw [hz1, List.length_map], by unfold spL; rw [hz1], hfL3, by omega⟩ hP hD hS
                    · skip
                      replace h136 := nt_nle (a := I.length) (b := ax) (by omega) (by omega) h136
                      refine lv_aload_n hx hb dMo_fromLetters_139 rfl (lv_at hl 1 rfl) ?_
                      refine ca_i (wr := []) (va_runV (As := []) (rest := []) Xf (k_Mo_readNumber l D cA _ mo xI xL xO xK xR xW I L O K gI gL gO gK hR_ gW (nI acc.length) wr nz (lN va) (lN pl) tk gd ax bi hfI hcI hfL hcL hfO hcO hfK hcK (by omega) (by omega)) ⟨cb_of 0 hw w_493 w_7 w_490 (by decide +kernel) (by rw [hR]; exact ⟨Nat.le_of_ble_eq_true rfl, Nat.le_of_ble_eq_true rfl⟩), hw _ w_492, hw _ ws_20⟩ (pre_V (As := []) hP hD hK hn [0, 1, 2, 3, 4, 5, 6] rfl (by decide) 0 5 rfl rfl) rfl rfl hl.1 rfl (lv_room (Nat.le_of_ble_eq_true rfl)) dMo_fromLetters_140 ⟨Nat.zero_le _, Nat.zero_le _⟩) hP hD hS hA [0, 1, 2, 3, 4, 5, 6] [] rfl rfl (by decide) (by decide) (fun r140 u_ H locs hq_ hP hD hS => ?_)
                      obtain ⟨a2, s2⟩ := u_
                      dsimp only at hq_ hP hD
                      rcases hq_ with ⟨hz, rfl⟩ | ⟨hz, rfl⟩ | ⟨hz, rfl⟩
                      · skip
                        replace hP : va_P D vwCl [(mo, .inr (5, [.int (nI I.length), .ref xI, .int (nI L.length), .ref xL, .int (nI O.length), .ref xO, .int (nI K.length), .ref xK, .int (nI acc.length), .ref xR, .int wr, .ref xW, .int (nI a2), .long (lN s2), .long (lN va), .long (lN pl), .int (nI bi), .int tk, .int gd])), (xI, .inl (cA, 120, .inl gI)), (xL, .inl (cA, 120, .inl gL)), (xO, .inl (cA, 400, .inl gO)), (xK, .inl (cA, 120, .inl gK)), (xR, .inl (cA, 121, .inl hR_)), (xW, .inl (cA, 1000, .inl gW))] H := hP.sub [0, 1, 2, 3, 4, 5, 6] rfl
                        replace hD : va_D A [(mo, .inr (5, [.int (nI I.length), .ref xI, .int (nI L.length), .ref xL, .int (nI O.length), .ref xO, .int (nI K.length), .ref xK, .int (nI acc.length), .ref xR, .int wr, .ref xW, .int (nI a2), .long (lN s2), .long (lN va), .long (lN pl), .int (nI bi), .int tk, .int gd])), (xI, .inl (cA, 120, .inl gI)), (xL, .inl (cA, 120, .inl gL)), (xO, .inl (cA, 400, .inl gO)), (xK, .inl (cA, 120, .inl gK)), (xR, .inl (cA, 121, .inl hR_)), (xW, .inl (cA, 1000, .inl gW))] := hD.sub [0, 1, 2, 3, 4, 5, 6] (by decide) rfl
                        obtain ⟨q1, q2, q3⟩ := rn_ok _ _ _ _ _ _ _ hz
                        refine lv_istore_n (lv' := [(3, .int (nI 0)), (2, .int (bI fb)), (0, .ref mo)]) hx hb dMo_fromLetters_143 rfl hl (by decide) rfl (fun ls hl => ?_)
                        refine lv_iload_n hx hb dMo_fromLetters_144 rfl (lv_at hl 0 rfl) ?_
                        refine lv_if_ge (tgt := 152) hx hb dMo_fromLetters_145 (by decide) (fun h145 => ?_) (fun h145 => ?_)
                        · skip
                          refine lv_aload_n hx hb dMo_fromLetters_152 rfl (lv_at hl 2 rfl) ?_
                          refine lv_iload_n hx hb dMo_fromLetters_153 rfl (lv_at hl 1 rfl) ?_
                          refine ca_i (wr := []) (va_runV (As := [.int (bI fb)]) (rest := []) Xf (k_Mo_putIn l D cA _ mo xI xL xO xK xR xW I L O K gI gL gO gK hR_ gW wr (nI a2) tk gd bi acc s2 va pl fb hfI hcI hfL hcL hfO hcO hfK hcK hgR (by omega) (by omega) (by omega) (by omega)) ⟨cb_of 1 hw w_504 w_7 w_501 (by decide +kernel) (by rw [hR]; exact ⟨Nat.le_of_ble_eq_true rfl, Nat.le_of_ble_eq_true rfl⟩), hw _ w_503, hw _ ws_21⟩ (pre_V (As := [.int (bI fb)]) hP hD hK hn [0, 1, 2, 3, 4, 5, 6] rfl (by decide) 0 5 rfl rfl) rfl rfl hl.1 rfl (lv_room (Nat.le_of_ble_eq_true rfl)) dMo_fromLetters_154 ⟨Nat.zero_le _, Nat.zero_le _⟩) hP hD hS hA [0, 1, 2, 3, 4, 5, 6] [] rfl rfl (by decide) (by decide) (fun r154 u_ H locs hq_ hP hD hS => ?_)
                          obtain ⟨gR4, acc4, va4, pl4, bi4⟩ := u_
                          dsimp only at hq_ hP hD
                          rcases hq_ with ⟨hov, rfl⟩ | ⟨hov, hsc, rfl⟩ | ⟨hov, hsc, rfl, e1_, e2_, e3_, e4_, hfR4⟩
                          · skip
                            replace hP : va_P D vwCl [(mo, .inr (5, [.int (nI I.length), .ref xI, .int (nI L.length), .ref xL, .int (nI O.length), .ref xO, .int (nI K.length), .ref xK, .int (nI acc4.length), .ref xR, .int wr, .ref xW, .int (nI a2), .long (lN s2), .long (lN va4), .long (lN pl4), .int (nI bi4), .int tk, .int gd])), (xI, .inl (cA, 120, .inl gI)), (xL, .inl (cA, 120, .inl gL)), (xO, .inl (cA, 400, .inl gO)), (xK, .inl (cA, 120, .inl gK)), (xR, .inl (cA, 121, .inl gR4)), (xW, .inl (cA, 1000, .inl gW))] H := hP.sub [0, 1, 2, 3, 4, 5, 6] rfl
                            replace hD : va_D A [(mo, .inr (5, [.int (nI I.length), .ref xI, .int (nI L.length), .ref xL, .int (nI O.length), .ref xO, .int (nI K.length), .ref xK, .int (nI acc4.length), .ref xR, .int wr, .ref xW, .int (nI a2), .long (lN s2), .long (lN va4), .long (lN pl4), .int (nI bi4), .int tk, .int gd])), (xI, .inl (cA, 120, .inl gI)), (xL, .inl (cA, 120, .inl gL)), (xO, .inl (cA, 400, .inl gO)), (xK, .inl (cA, 120, .inl gK)), (xR, .inl (cA, 121, .inl gR4)), (xW, .inl (cA, 1000, .inl gW))] := hD.sub [0, 1, 2, 3, 4, 5, 6] (by decide) rfl
                            refine lv_istore_n (lv' := [(3, .int (-2)), (2, .int (bI fb)), (0, .ref mo)]) hx hb dMo_fromLetters_157 rfl hl (by decide) rfl (fun ls hl => ?_)
                            refine lv_iload_n hx hb dMo_fromLetters_158 rfl (lv_at hl 0 rfl) ?_
                            refine lv_if_ge (tgt := 164) hx hb dMo_fromLetters_159 (by decide) (fun h159 => ?_) (fun h159 => ?_)
                            · skip
                              exact absurd h159 (by decide)
                            · skip
                              refine lv_iload_n hx hb dMo_fromLetters_162 rfl (lv_at hl 0 rfl) ?_
                              obtain ⟨k2, rfl⟩ : ∃ k2, kf = k2 + 1 := ⟨kf - 1, by omega⟩
                              have hz1 : rlS I = (-2, none) := by rw [← hF]; exact raS_ov h136 hz hov
                              exact ret (L, gL, gR4, nI acc4.length, nI a2, lN s2, lN va4, lN pl4, nI bi4) dMo_fromLetters_163 rfl ⟨by unfold spL; rw [hz1], by unfold spL; rw [hz1], hfL, hcL⟩ hP hD hS
                          · skip
                            replace hP : va_P D vwCl [(mo, .inr (5, [.int (nI I.length), .ref xI, .int (nI L.length), .ref xL, .int (nI O.length), .ref xO, .int (nI K.length), .ref xK, .int (nI acc4.length), .ref xR, .int wr, .ref xW, .int (nI a2), .long (lN s2), .long (lN va4), .long (lN pl4), .int (nI bi4), .int tk, .int gd])), (xI, .inl (cA, 120, .inl gI)), (xL, .inl (cA, 120, .inl gL)), (xO, .inl (cA, 400, .inl gO)), (xK, .inl (cA, 120, .inl gK)), (xR, .inl (cA, 121, .inl gR4)), (xW, .inl (cA, 1000, .inl gW))] H := hP.sub [0, 1, 2, 3, 4, 5, 6] rfl
                            replace hD : va_D A [(mo, .inr (5, [.int (nI I.length), .ref xI, .int (nI L.length), .ref xL, .int (nI O.length), .ref xO, .int (nI K.length), .ref xK, .int (nI acc4.length), .ref xR, .int wr, .ref xW, .int (nI a2), .long (lN s2), .long (lN va4), .long (lN pl4), .int (nI bi4), .int tk, .int gd])), (xI, .inl (cA, 120, .inl gI)), (xL, .inl (cA, 120, .inl gL)), (xO, .inl (cA, 400, .inl gO)), (xK, .inl (cA, 120, .inl gK)), (xR, .inl (cA, 121, .inl gR4)), (xW, .inl (cA, 1000, .inl gW))] := hD.sub [0, 1, 2, 3, 4, 5, 6] (by decide) rfl
                            refine lv_istore_n (lv' := [(3, .int (-4)), (2, .int (bI fb)), (0, .ref mo)]) hx hb dMo_fromLetters_157 rfl hl (by decide) rfl (fun ls hl => ?_)
                            refine lv_iload_n hx hb dMo_fromLetters_158 rfl (lv_at hl 0 rfl) ?_
                            refine lv_if_ge (tgt := 164) hx hb dMo_fromLetters_159 (by decide) (fun h159 => ?_) (fun h159 => ?_)
                            · skip
                              exact absurd h159 (by decide)
                            · skip
                              refine lv_iload_n hx hb dMo_fromLetters_162 rfl (lv_at hl 0 rfl) ?_
                              obtain ⟨k2, rfl⟩ : ∃ k2, kf = k2 + 1 := ⟨kf - 1, by omega⟩
                              have hz1 : rlS I = (-4, none) := by rw [← hF]; exact raS_ns h136 hz hov hsc
                              exact ret (L, gL, gR4, nI acc4.length, nI a2, lN s2, lN va4, lN pl4, nI bi4) dMo_fromLetters_163 rfl ⟨by unfold spL; rw [hz1], by unfold spL; rw [hz1], hfL, hcL⟩ hP hD hS
                          · skip
                            replace hP : va_P D vwCl [(mo, .inr (5, [.int (nI I.length), .ref xI, .int (nI L.length), .ref xL, .int (nI O.length), .ref xO, .int (nI K.length), .ref xK, .int (nI acc4.length), .ref xR, .int wr, .ref xW, .int (nI a2), .long (lN s2), .long (lN va4), .long (lN pl4), .int (nI bi4), .int tk, .int gd])), (xI, .inl (cA, 120, .inl gI)), (xL, .inl (cA, 120, .inl gL)), (xO, .inl (cA, 400, .inl gO)), (xK, .inl (cA, 120, .inl gK)), (xR, .inl (cA, 121, .inl gR4)), (xW, .inl (cA, 1000, .inl gW))] H := hP.sub [0, 1, 2, 3, 4, 5, 6] rfl
                            replace hD : va_D A [(mo, .inr (5, [.int (nI I.length), .ref xI, .int (nI L.length), .ref xL, .int (nI O.length), .ref xO, .int (nI K.length), .ref xK, .int (nI acc4.length), .ref xR, .int wr, .ref xW, .int (nI a2), .long (lN s2), .long (lN va4), .long (lN pl4), .int (nI bi4), .int tk, .int gd])), (xI, .inl (cA, 120, .inl gI)), (xL, .inl (cA, 120, .inl gL)), (xO, .inl (cA, 400, .inl gO)), (xK, .inl (cA, 120, .inl gK)), (xR, .inl (cA, 121, .inl gR4)), (xW, .inl (cA, 1000, .inl gW))] := hD.sub [0, 1, 2, 3, 4, 5, 6] (by decide) rfl
                            refine lv_istore_n (lv' := [(3, .int (nI 0)), (2, .int (bI fb)), (0, .ref mo)]) hx hb dMo_fromLetters_157 rfl hl (by decide) rfl (fun ls hl => ?_)
                            refine lv_iload_n hx hb dMo_fromLetters_158 rfl (lv_at hl 0 rfl) ?_
                            refine lv_if_ge (tgt := 164) hx hb dMo_fromLetters_159 (by decide) (fun h159 => ?_) (fun h159 => ?_)
                            · skip
                              refine lv_iconst (v := nI 0) hx hb dMo_fromLetters_164 (by decide) ?_
                              refine lv_istore_n (lv' := [(2, .int (nI 0)), (3, .int (nI 0)), (0, .ref mo)]) hx hb dMo_fromLetters_165 rfl hl (by decide) rfl (fun ls hl => ?_)
                              refine lv_goto (tgt := 128) hx hb dMo_fromLetters_166 (by decide) ?_
                              subst acc4 va4 pl4 bi4
                              obtain ⟨k2, rfl⟩ : ∃ k2, kf = k2 + 1 := ⟨kf - 1, by omega⟩
                              rw [raS_go h136 hz hov hsc] at hF
                              have hm9 : (pl + s2) % (acc.length + 1) < acc.length + 1 := Nat.mod_lt _ (Nat.succ_pos _)
                              have hil : (acc.insertIdx ((pl + s2) % (acc.length + 1)) (va + (pl + s2) / (acc.length + 1))).length = acc.length + 1 := List.length_insertIdx_of_le_length (by omega) _
                              have hab := adN_b (d := s2) (n := acc.length + 1) (fb := fb) (by omega)
                              have hsv := hsc.1
                              exact ih_loop3 a2 (va + (pl + s2) / (acc.length + 1)) ((pl + s2) % (acc.length + 1) + 1) (adN s2 (acc.length + 1) fb) false (acc.insertIdx ((pl + s2) % (acc.length + 1)) (va + (pl + s2) / (acc.length + 1))) gR4 (lN s2) k2 _ _ _ (by omega) hfR4 (by omega) (by omega) (by omega) (by omega) (by omega) (by omega) hF (lv_sub hl [0, 2] rfl) hP hD hS
                            · skip
                              exact absurd h159 (by decide)
                        · skip
                          exact absurd h145 (by decide)
                      · skip
                        replace hP : va_P D vwCl [(mo, .inr (5, [.int (nI I.length), .ref xI, .int (nI L.length), .ref xL, .int (nI O.length), .ref xO, .int (nI K.length), .ref xK, .int (nI acc.length), .ref xR, .int wr, .ref xW, .int (nI a2), .long (lN s2), .long (lN va), .long (lN pl), .int (nI bi), .int tk, .int gd])), (xI, .inl (cA, 120, .inl gI)), (xL, .inl (cA, 120, .inl gL)), (xO, .inl (cA, 400, .inl gO)), (xK, .inl (cA, 120, .inl gK)), (xR, .inl (cA, 121, .inl hR_)), (xW, .inl (cA, 1000, .inl gW))] H := hP.sub [0, 1, 2, 3, 4, 5, 6] rfl
                        replace hD : va_D A [(mo, .inr (5, [.int (nI I.length), .ref xI, .int (nI L.length), .ref xL, .int (nI O.length), .ref xO, .int (nI K.length), .ref xK, .int (nI acc.length), .ref xR, .int wr, .ref xW, .int (nI a2), .long (lN s2), .long (lN va), .long (lN pl), .int (nI bi), .int tk, .int gd])), (xI, .inl (cA, 120, .inl gI)), (xL, .inl (cA, 120, .inl gL)), (xO, .inl (cA, 400, .inl gO)), (xK, .inl (cA, 120, .inl gK)), (xR, .inl (cA, 121, .inl hR_)), (xW, .inl (cA, 1000, .inl gW))] := hD.sub [0, 1, 2, 3, 4, 5, 6] (by decide) rfl
                        refine lv_istore_n (lv' := [(3, .int (-1)), (2, .int (bI fb)), (0, .ref mo)]) hx hb dMo_fromLetters_143 rfl hl (by decide) rfl (fun ls hl => ?_)
                        refine lv_iload_n hx hb dMo_fromLetters_144 rfl (lv_at hl 0 rfl) ?_
                        refine lv_if_ge (tgt := 152) hx hb dMo_fromLetters_145 (by decide) (fun h145 => ?_) (fun h145 => ?_)
                        · skip
                          exact absurd h145 (by decide)
                        · skip
                          refine lv_iload_n hx hb dMo_fromLetters_148 rfl (lv_at hl 0 rfl) ?_
                          refine lv_goto (tgt := 157) hx hb dMo_fromLetters_149 (by decide) ?_
                          refine lv_istore_n (lv' := [(3, .int (-1)), (2, .int (bI fb)), (0, .ref mo)]) hx hb dMo_fromLetters_157 rfl hl (by decide) rfl (fun ls hl => ?_)
                          refine lv_iload_n hx hb dMo_fromLetters_158 rfl (lv_at hl 0 rfl) ?_
                          refine lv_if_ge (tgt := 164) hx hb dMo_fromLetters_159 (by decide) (fun h159 => ?_) (fun h159 => ?_)
                          · skip
                            exact absurd h159 (by decide)
                          · skip
                            refine lv_iload_n hx hb dMo_fromLetters_162 rfl (lv_at hl 0 rfl) ?_
                            obtain ⟨k2, rfl⟩ : ∃ k2, kf = k2 + 1 := ⟨kf - 1, by omega⟩
                            have hz1 : rlS I = (-1, none) := by rw [← hF]; exact raS_bad h136 hz (by decide)
                            exact ret (L, gL, hR_, nI acc.length, nI a2, lN s2, lN va, lN pl, nI bi) dMo_fromLetters_163 rfl ⟨by unfold spL; rw [hz1], by unfold spL; rw [hz1], hfL, hcL⟩ hP hD hS
                      · skip
                        replace hP : va_P D vwCl [(mo, .inr (5, [.int (nI I.length), .ref xI, .int (nI L.length), .ref xL, .int (nI O.length), .ref xO, .int (nI K.length), .ref xK, .int (nI acc.length), .ref xR, .int wr, .ref xW, .int (nI a2), .long (lN s2), .long (lN va), .long (lN pl), .int (nI bi), .int tk, .int gd])), (xI, .inl (cA, 120, .inl gI)), (xL, .inl (cA, 120, .inl gL)), (xO, .inl (cA, 400, .inl gO)), (xK, .inl (cA, 120, .inl gK)), (xR, .inl (cA, 121, .inl hR_)), (xW, .inl (cA, 1000, .inl gW))] H := hP.sub [0, 1, 2, 3, 4, 5, 6] rfl
                        replace hD : va_D A [(mo, .inr (5, [.int (nI I.length), .ref xI, .int (nI L.length), .ref xL, .int (nI O.length), .ref xO, .int (nI K.length), .ref xK, .int (nI acc.length), .ref xR, .int wr, .ref xW, .int (nI a2), .long (lN s2), .long (lN va), .long (lN pl), .int (nI bi), .int tk, .int gd])), (xI, .inl (cA, 120, .inl gI)), (xL, .inl (cA, 120, .inl gL)), (xO, .inl (cA, 400, .inl gO)), (xK, .inl (cA, 120, .inl gK)), (xR, .inl (cA, 121, .inl hR_)), (xW, .inl (cA, 1000, .inl gW))] := hD.sub [0, 1, 2, 3, 4, 5, 6] (by decide) rfl
                        refine lv_istore_n (lv' := [(3, .int (-2)), (2, .int (bI fb)), (0, .ref mo)]) hx hb dMo_fromLetters_143 rfl hl (by decide) rfl (fun ls hl => ?_)
                        refine lv_iload_n hx hb dMo_fromLetters_144 rfl (lv_at hl 0 rfl) ?_
                        refine lv_if_ge (tgt := 152) hx hb dMo_fromLetters_145 (by decide) (fun h145 => ?_) (fun h145 => ?_)
                        · skip
                          exact absurd h145 (by decide)
                        · skip
                          refine lv_iload_n hx hb dMo_fromLetters_148 rfl (lv_at hl 0 rfl) ?_
                          refine lv_goto (tgt := 157) hx hb dMo_fromLetters_149 (by decide) ?_
                          refine lv_istore_n (lv' := [(3, .int (-2)), (2, .int (bI fb)), (0, .ref mo)]) hx hb dMo_fromLetters_157 rfl hl (by decide) rfl (fun ls hl => ?_)
                          refine lv_iload_n hx hb dMo_fromLetters_158 rfl (lv_at hl 0 rfl) ?_
                          refine lv_if_ge (tgt := 164) hx hb dMo_fromLetters_159 (by decide) (fun h159 => ?_) (fun h159 => ?_)
                          · skip
                            exact absurd h159 (by decide)
                          · skip
                            refine lv_iload_n hx hb dMo_fromLetters_162 rfl (lv_at hl 0 rfl) ?_
                            obtain ⟨k2, rfl⟩ : ∃ k2, kf = k2 + 1 := ⟨kf - 1, by omega⟩
                            have hz1 : rlS I = (-2, none) := by rw [← hF]; exact raS_bad h136 hz (by decide)
                            exact ret (L, gL, hR_, nI acc.length, nI a2, lN s2, lN va, lN pl, nI bi) dMo_fromLetters_163 rfl ⟨by unfold spL; rw [hz1], by unfold spL; rw [hz1], hfL, hcL⟩ hP hD hS
                exact loop3 _ (lhG I I.length + 1) 128 0 72 true acc hR_ nu I.length _ _ _ (Nat.lt_succ_self _) hgR (by omega) (by omega) (by omega) (by omega) (by omega) (by omega) hz0.symm (lv_sub hl [0, 2] rfl) hP hD hS
            · skip
              replace h44 := nt_nle (a := lhG I I.length) (b := i) (by omega) (by omega) h44
              have hal := (plG_len hpl).1
              refine lv_aload_n hx hb dMo_fromLetters_47 rfl (lv_at hl 2 rfl) ?_
              refine va_get (D := D) (ci := 5) (v := .ref xI) (C := R_Mo) (T := T_Mo) (N := 19) hx hb hw in_Mo hown hK hP 0 rfl rfl 1 (by decide) (hw _ w_365) (fun _ h9 => h9) rfl dMo_fromLetters_48 ?_
              refine lv_iload_n hx hb dMo_fromLetters_51 rfl (lv_at hl 0 rfl) ?_
              refine va_iald hx hb hK hP 1 0 rfl rfl (vp_in_nI (by omega) (by omega)) dMo_fromLetters_52 ?_
              refine lv_rei (y := gI i) (by rw [nI_clamp (by omega)]) ?_
              refine lv_rei (y := un I i) (Hd_un hfI (by omega)) ?_
              refine lv_iconst (v := nI 0) hx hb dMo_fromLetters_53 (by decide) ?_
              refine lv_bipush (v := nI 127) hx hb dMo_fromLetters_54 (by decide) ?_
              refine ca_i (wr := [(mo, .inr (5, [.int (nI I.length), .ref xI, .int (nI L.length), .ref xL, .int (nI O.length), .ref xO, .int (nI K.length), .ref xK, .int (nI acc.length), .ref xR, .int wr, .ref xW, .int at_, .long nu, .long vl, .long pc_, .int bs, .int tk, .int gd])), (xI, .inl (cA, 120, .inl gI)), (xL, .inl (cA, 120, .inl gL)), (xO, .inl (cA, 400, .inl gO)), (xK, .inl (cA, 120, .inl gK)), (xR, .inl (cA, 121, .inl hR_)), (xW, .inl (cA, 1000, .inl gW))]) (va_runS (As := [.int (un I i), .int (nI 0), .int (nI 127)]) (rest := []) Xf (k_Mo_isIn l D cA _ (un I i) 0 127 (by omega) (by omega)) ⟨cb_of 3 hw w_455 w_7 w_453 (by decide +kernel) (by rw [hR]; exact ⟨Nat.le_of_ble_eq_true rfl, Nat.le_of_ble_eq_true rfl⟩), hw _ w_454⟩ (pre_S hP hD hK hn [] rfl (by decide)) rfl rfl hl.1 rfl (lv_room (Nat.le_of_ble_eq_true rfl)) dMo_fromLetters_56 ⟨Nat.zero_le _, Nat.zero_le _⟩) hP hD hS hA [] [0, 1, 2, 3, 4, 5, 6] rfl rfl (by decide) (by decide) (fun r56 u_ H locs hq_ hP hD hS => ?_)
              rcases hq_ with ⟨hk56_5, rfl⟩ | ⟨hk56_5, rfl⟩
              · skip
                replace hP : va_P D vwCl [(mo, .inr (5, [.int (nI I.length), .ref xI, .int (nI L.length), .ref xL, .int (nI O.length), .ref xO, .int (nI K.length), .ref xK, .int (nI acc.length), .ref xR, .int wr, .ref xW, .int at_, .long nu, .long vl, .long pc_, .int bs, .int tk, .int gd])), (xI, .inl (cA, 120, .inl gI)), (xL, .inl (cA, 120, .inl gL)), (xO, .inl (cA, 400, .inl gO)), (xK, .inl (cA, 120, .inl gK)), (xR, .inl (cA, 121, .inl hR_)), (xW, .inl (cA, 1000, .inl gW))] H := hP.sub [0, 1, 2, 3, 4, 5, 6] rfl
                replace hD : va_D A [(mo, .inr (5, [.int (nI I.length), .ref xI, .int (nI L.length), .ref xL, .int (nI O.length), .ref xO, .int (nI K.length), .ref xK, .int (nI acc.length), .ref xR, .int wr, .ref xW, .int at_, .long nu, .long vl, .long pc_, .int bs, .int tk, .int gd])), (xI, .inl (cA, 120, .inl gI)), (xL, .inl (cA, 120, .inl gL)), (xO, .inl (cA, 400, .inl gO)), (xK, .inl (cA, 120, .inl gK)), (xR, .inl (cA, 121, .inl hR_)), (xW, .inl (cA, 1000, .inl gW))] := hD.sub [0, 1, 2, 3, 4, 5, 6] (by decide) rfl
                refine lv_if_ne (tgt := 65) hx hb dMo_fromLetters_59 (by decide) (fun h59 => ?_) (fun h59 => ?_)
                · skip
                  refine lv_aload_n hx hb dMo_fromLetters_65 rfl (lv_at hl 2 rfl) ?_
                  refine va_get (D := D) (ci := 5) (v := .ref xR) (C := R_Mo) (T := T_Mo) (N := 19) hx hb hw in_Mo hown hK hP 0 rfl rfl 9 (by decide) (hw _ w_373) (fun _ h9 => h9) rfl dMo_fromLetters_66 ?_
                  refine lv_iload_n hx hb dMo_fromLetters_69 rfl (lv_at hl 0 rfl) ?_
                  refine lv_aload_n hx hb dMo_fromLetters_70 rfl (lv_at hl 2 rfl) ?_
                  refine va_get (D := D) (ci := 5) (v := .ref xI) (C := R_Mo) (T := T_Mo) (N := 19) hx hb hw in_Mo hown hK hP 0 rfl rfl 1 (by decide) (hw _ w_365) (fun _ h9 => h9) rfl dMo_fromLetters_71 ?_
                  refine lv_iload_n hx hb dMo_fromLetters_74 rfl (lv_at hl 0 rfl) ?_
                  refine va_iald hx hb hK hP 1 0 rfl rfl (vp_in_nI (by omega) (by omega)) dMo_fromLetters_75 ?_
                  refine lv_rei (y := gI i) (by rw [nI_clamp (by omega)]) ?_
                  refine lv_rei (y := un I i) (Hd_un hfI (by omega)) ?_
                  refine va_iast hx hb hK hP hD hS 5 0 rfl rfl (vp_in_nI (by omega) (by omega)) dMo_fromLetters_76 (fun H locs hP hD hS => ?_)
                  rw [nI_clamp (by omega)] at hP hD
                  have hP : va_P D vwCl [(mo, .inr (5, [.int (nI I.length), .ref xI, .int (nI L.length), .ref xL, .int (nI O.length), .ref xO, .int (nI K.length), .ref xK, .int (nI acc.length), .ref xR, .int wr, .ref xW, .int at_, .long nu, .long vl, .long pc_, .int bs, .int tk, .int gd])), (xI, .inl (cA, 120, .inl gI)), (xL, .inl (cA, 120, .inl gL)), (xO, .inl (cA, 400, .inl gO)), (xK, .inl (cA, 120, .inl gK)), (xR, .inl (cA, 121, .inl (upd hR_ i (un I i)))), (xW, .inl (cA, 1000, .inl gW))] H := hP
                  have hD : va_D A [(mo, .inr (5, [.int (nI I.length), .ref xI, .int (nI L.length), .ref xL, .int (nI O.length), .ref xO, .int (nI K.length), .ref xK, .int (nI acc.length), .ref xR, .int wr, .ref xW, .int at_, .long nu, .long vl, .long pc_, .int bs, .int tk, .int gd])), (xI, .inl (cA, 120, .inl gI)), (xL, .inl (cA, 120, .inl gL)), (xO, .inl (cA, 400, .inl gO)), (xK, .inl (cA, 120, .inl gK)), (xR, .inl (cA, 121, .inl (upd hR_ i (un I i)))), (xW, .inl (cA, 1000, .inl gW))] := hD
                  refine lv_aload_n hx hb dMo_fromLetters_77 rfl (lv_at hl 2 rfl) ?_
                  refine lv_aload_n hx hb dMo_fromLetters_78 rfl (lv_at hl 2 rfl) ?_
                  refine va_get (D := D) (ci := 5) (v := .int (nI acc.length)) (C := R_Mo) (T := T_Mo) (N := 19) hx hb hw in_Mo hown hK hP 0 rfl rfl 8 (by decide) (hw _ w_372) (fun _ h9 => h9) rfl dMo_fromLetters_79 ?_
                  refine lv_iconst (v := nI 1) hx hb dMo_fromLetters_82 (by decide) ?_
                  refine lv_iadd hx hb dMo_fromLetters_83 ?_
                  refine lv_rei (y := nI (acc.length + 1)) (nI_add _ _) ?_
                  refine va_put (D := D) (ci := 5) (v := .int (nI (acc.length + 1))) (ty := .int) (C := R_Mo) (T := T_Mo) (N := 19) hx hb hw in_Mo ty_Mo ty_Mo_ok nm_Mo hown hK hP hD hS 0 rfl rfl 8 (by decide) (hw _ w_372) (fun _ h9 => h9) rfl (by decide +kernel) rfl rfl (Nat.le_of_ble_eq_true rfl) dMo_fromLetters_84 (fun H locs hP hD hS => ?_)
                  have hP : va_P D vwCl [(mo, .inr (5, [.int (nI I.length), .ref xI, .int (nI L.length), .ref xL, .int (nI O.length), .ref xO, .int (nI K.length), .ref xK, .int (nI (acc.length + 1)), .ref xR, .int wr, .ref xW, .int at_, .long nu, .long vl, .long pc_, .int bs, .int tk, .int gd])), (xI, .inl (cA, 120, .inl gI)), (xL, .inl (cA, 120, .inl gL)), (xO, .inl (cA, 400, .inl gO)), (xK, .inl (cA, 120, .inl gK)), (xR, .inl (cA, 121, .inl (upd hR_ i (un I i)))), (xW, .inl (cA, 1000, .inl gW))] H := hP
                  have hD : va_D A [(mo, .inr (5, [.int (nI I.length), .ref xI, .int (nI L.length), .ref xL, .int (nI O.length), .ref xO, .int (nI K.length), .ref xK, .int (nI (acc.length + 1)), .ref xR, .int wr, .ref xW, .int at_, .long nu, .long vl, .long pc_, .int bs, .int tk, .int gd])), (xI, .inl (cA, 120, .inl gI)), (xL, .inl (cA, 120, .inl gL)), (xO, .inl (cA, 400, .inl gO)), (xK, .inl (cA, 120, .inl gK)), (xR, .inl (cA, 121, .inl (upd hR_ i (un I i)))), (xW, .inl (cA, 1000, .inl gW))] := hD
                  refine lv_iinc (k := 0) (v := nI (i + 1)) (lv' := [(2, .int (nI (i + 1))), (1, .int (nI (lhG I I.length))), (0, .ref mo)]) hx hb dMo_fromLetters_87 hl rfl (nI_1 _) (by decide) rfl (fun ls hl => ?_)
                  refine lv_goto (tgt := 42) hx hb dMo_fromLetters_90 (by decide) ?_
                  obtain ⟨ea, eb, ec⟩ := tn_of (show (0 : Int) ≤ (un I i).toInt by omega) (by decide)
                  have em : acc.map nI ++ [un I i] = (acc ++ [tn (un I i)]).map nI := by rw [← map_snoc, ← ea]
                  have hfn := Hd_add (x := un I i) hgR
                  rw [em, List.length_map, hal] at hfn
                  have el : acc.length + 1 = (acc ++ [tn (un I i)]).length := by simp
                  rw [el] at hP hD
                  exact ih_loop2 (i + 1) (acc ++ [tn (un I i)]) (upd hR_ i (un I i)) _ _ _ (by omega) (by omega) (plG_s hpl ⟨by omega, by omega⟩) hfn (lv_sub hl [0, 1, 2] rfl) hP hD hS
                · skip
                  exact absurd h59 (by decide)
              · skip
                replace hP : va_P D vwCl [(mo, .inr (5, [.int (nI I.length), .ref xI, .int (nI L.length), .ref xL, .int (nI O.length), .ref xO, .int (nI K.length), .ref xK, .int (nI acc.length), .ref xR, .int wr, .ref xW, .int at_, .long nu, .long vl, .long pc_, .int bs, .int tk, .int gd])), (xI, .inl (cA, 120, .inl gI)), (xL, .inl (cA, 120, .inl gL)), (xO, .inl (cA, 400, .inl gO)), (xK, .inl (cA, 120, .inl gK)), (xR, .inl (cA, 121, .inl hR_)), (xW, .inl (cA, 1000, .inl gW))] H := hP.sub [0, 1, 2, 3, 4, 5, 6] rfl
                replace hD : va_D A [(mo, .inr (5, [.int (nI I.length), .ref xI, .int (nI L.length), .ref xL, .int (nI O.length), .ref xO, .int (nI K.length), .ref xK, .int (nI acc.length), .ref xR, .int wr, .ref xW, .int at_, .long nu, .long vl, .long pc_, .int bs, .int tk, .int gd])), (xI, .inl (cA, 120, .inl gI)), (xL, .inl (cA, 120, .inl gL)), (xO, .inl (cA, 400, .inl gO)), (xK, .inl (cA, 120, .inl gK)), (xR, .inl (cA, 121, .inl hR_)), (xW, .inl (cA, 1000, .inl gW))] := hD.sub [0, 1, 2, 3, 4, 5, 6] (by decide) rfl
                refine lv_if_ne (tgt := 65) hx hb dMo_fromLetters_59 (by decide) (fun h59 => ?_) (fun h59 => ?_)
                · skip
                  exact absurd h59 (by decide)
                · skip
                  refine lv_bipush (v := (-3)) hx hb dMo_fromLetters_62 (by decide) ?_
                  have hz1 : rlS I = (-3, none) := by unfold rlS; rw [plG_f hpl (by omega) h44]
                  exact ret (L, gL, hR_, nI acc.length, at_, nu, vl, pc_, bs) dMo_fromLetters_64 rfl ⟨by unfold spL; rw [hz1], by unfold spL; rw [hz1], hfL, hcL⟩ hP hD hS
        exact loop2 _ 0 ([]) gR _ _ _ (Nat.lt_succ_self _) (Nat.zero_le _) rfl (Hd_nil _) (lv_sub hl [0, 1, 2] rfl) hP hD hS
      · skip
        replace h9 := nt_nle (a := I.length) (b := k) (by omega) (by omega) h9
        refine lv_aload_n hx hb dMo_fromLetters_12 rfl (lv_at hl 2 rfl) ?_
        refine va_get (D := D) (ci := 5) (v := .ref xI) (C := R_Mo) (T := T_Mo) (N := 19) hx hb hw in_Mo hown hK hP 0 rfl rfl 1 (by decide) (hw _ w_365) (fun _ h9 => h9) rfl dMo_fromLetters_13 ?_
        refine lv_iload_n hx hb dMo_fromLetters_16 rfl (lv_at hl 0 rfl) ?_
        refine va_iald hx hb hK hP 1 0 rfl rfl (vp_in_nI (by omega) (by omega)) dMo_fromLetters_17 ?_
        refine lv_rei (y := gI k) (by rw [nI_clamp (by omega)]) ?_
        refine lv_rei (y := un I k) (Hd_un hfI (by omega)) ?_
        refine lv_bipush (v := nI 45) hx hb dMo_fromLetters_18 (by decide) ?_
        refine lv_icmp_ne (tgt := 27) hx hb dMo_fromLetters_20 (by decide) (fun h20 => ?_) (fun h20 => ?_)
        · skip
          refine lv_iload_n hx hb dMo_fromLetters_27 rfl (lv_at hl 1 rfl) ?_
          refine lv_istore_n (lv' := [(1, .int (nI (lhG I k))), (2, .int (nI k)), (0, .ref mo)]) hx hb dMo_fromLetters_28 rfl hl (by decide) rfl (fun ls hl => ?_)
          refine lv_iinc (k := 1) (v := nI (k + 1)) (lv' := [(2, .int (nI (k + 1))), (1, .int (nI (lhG I k))), (0, .ref mo)]) hx hb dMo_fromLetters_29 hl rfl (nI_1 _) (by decide) rfl (fun ls hl => ?_)
          refine lv_goto (tgt := 4) hx hb dMo_fromLetters_32 (by decide) ?_
          replace hl : lv_has ls 4 [(2, .int (nI (k + 1))), (1, .int (nI (lhG I (k + 1)))), (0, .ref mo)] := by rw [lhG, if_neg (fun q => h20 q.2)]; exact hl
          exact ih_loop1 (k + 1) _ _ _ (by omega) (by omega) (by omega) (lv_sub hl [0, 1, 2] rfl) hP hD hS
        · skip
          refine lv_iload_n hx hb dMo_fromLetters_23 rfl (lv_at hl 0 rfl) ?_
          refine lv_goto (tgt := 28) hx hb dMo_fromLetters_24 (by decide) ?_
          refine lv_istore_n (lv' := [(1, .int (nI k)), (2, .int (nI k)), (0, .ref mo)]) hx hb dMo_fromLetters_28 rfl hl (by decide) rfl (fun ls hl => ?_)
          refine lv_iinc (k := 1) (v := nI (k + 1)) (lv' := [(2, .int (nI (k + 1))), (1, .int (nI k)), (0, .ref mo)]) hx hb dMo_fromLetters_29 hl rfl (nI_1 _) (by decide) rfl (fun ls hl => ?_)
          refine lv_goto (tgt := 4) hx hb dMo_fromLetters_32 (by decide) ?_
          replace hl : lv_has ls 4 [(2, .int (nI (k + 1))), (1, .int (nI (lhG I (k + 1)))), (0, .ref mo)] := by rw [lhG, if_pos ⟨by omega, h20⟩]; exact hl
          exact ih_loop1 (k + 1) _ _ _ (by omega) (by omega) (by omega) (lv_sub hl [0, 1, 2] rfl) hP hD hS
  exact loop1 _ 1 _ _ _ (Nat.lt_succ_self _) (by omega) (by omega) (lv_sub hl [0, 1, 2] rfl) hP hD hS
