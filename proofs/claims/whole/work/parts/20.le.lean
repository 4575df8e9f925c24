set_option maxHeartbeats 4000000 in
set_option maxRecDepth 100000 in
theorem k_Le_readAll (l : Launch) (D : va_G) (cA : ClassId) (sz : Nat) (oT : Nat) (lat lva lpl lbi lfi : Int32) (h a : Nat) (I : List Int32) (f : Nat → Int32) (g b : Nat) (X : List Int32) (q : Nat → Int32) (hf : Hd f I) (hc : I.length ≤ 120) (hq : Hd q X) (hcX : X.length ≤ 120) : KI l D cA y_Le_readAll c_Le_readAll 7 .int 3 76 [.ref oT, .ref h, .ref g] sz [(oT, .inr (3, [.int lat, .int lva, .int lpl, .int lbi, .int lfi])), (h, .inr (0, [.ref a, .int (nI I.length)])), (a, .inl (cA, 120, .inl f)), (g, .inr (0, [.ref b, .int (nI X.length)])), (b, .inl (cA, 120, .inl q))] (S := List Int32 × (Nat → Int32) × Int32 × Int32 × Int32 × Int32 × Int32) (fun r u => match u with | (X2, q2, lat2, lva2, lpl2, lbi2, lfi2) => ((∃ acc, rlS I = (nI acc.length, some acc) ∧ r = nI acc.length ∧ X2 = acc.map nI) ∨ (rlS I = (-1, none) ∧ r = -1) ∨ (rlS I = (-2, none) ∧ r = -2) ∨ (rlS I = (-3, none) ∧ r = -3) ∨ (rlS I = (-4, none) ∧ r = -4)) ∧ Hd q2 X2 ∧ X2.length ≤ 120) (fun u => match u with | (X2, q2, lat2, lva2, lpl2, lbi2, lfi2) => [(oT, .inr (3, [.int lat2, .int lva2, .int lpl2, .int lbi2, .int lfi2])), (h, .inr (0, [.ref a, .int (nI I.length)])), (a, .inl (cA, 120, .inl f)), (g, .inr (0, [.ref b, .int (nI X2.length)])), (b, .inl (cA, 120, .inl q2))]) := by
  refine KI.of (by decide) (Nat.le_of_ble_eq_true rfl) ?_
  intro p e s m args below meth c Q R A ls Xf hR hA hS hP hD hK hn hl ret
  have hx := Xf.1
  have hb := Xf.2.1
  have hown : s.vm.findClass "ScalarScribe$Letters" = some m.cls := Xf.2.2.2.1
  have hw := Xf.2.2.2.2
  have hl : lv_has ls 7 [(0, .ref oT), (1, .ref h), (2, .ref g)] := hl
  refine lv_aload_n hx hb dLe_readAll_0 rfl (lv_at hl 0 rfl) ?_
  refine ca_v (wr := [(h, .inr (0, [.ref a, .int (nI I.length)])), (a, .inl (cA, 120, .inl f)), (g, .inr (0, [.ref b, .int (nI X.length)])), (b, .inl (cA, 120, .inl q))]) (va_runV (As := []) (rest := []) Xf (k_Le_begin l D cA _ oT lat lva lpl lbi lfi) ⟨cb_of 0 hw w_213 w_6 w_210 (by decide +kernel) (by rw [hR]; exact ⟨Nat.le_of_ble_eq_true rfl, Nat.le_of_ble_eq_true rfl⟩), hw _ w_212, hw _ ws_2⟩ (pre_V (As := []) hP hD hK hn [0] rfl (by decide) 0 3 rfl rfl) rfl rfl hl.1 rfl (lv_room (Nat.le_of_ble_eq_true rfl)) dLe_readAll_1 ⟨Nat.zero_le _, Nat.zero_le _⟩) hP hD hS hA [0] [1, 2, 3, 4] rfl rfl (by decide) (by decide) (fun u_ H locs hq_ hP hD hS => ?_)
  replace hP : va_P D vwCl [(oT, .inr (3, [.int lat, .int (nI 128), .int (nI 0), .int (nI 72), .int (bI true)])), (h, .inr (0, [.ref a, .int (nI I.length)])), (a, .inl (cA, 120, .inl f)), (g, .inr (0, [.ref b, .int (nI X.length)])), (b, .inl (cA, 120, .inl q))] H := hP.sub [4, 0, 1, 2, 3] rfl
  replace hD : va_D A [(oT, .inr (3, [.int lat, .int (nI 128), .int (nI 0), .int (nI 72), .int (bI true)])), (h, .inr (0, [.ref a, .int (nI I.length)])), (a, .inl (cA, 120, .inl f)), (g, .inr (0, [.ref b, .int (nI X.length)])), (b, .inl (cA, 120, .inl q))] := hD.sub [4, 0, 1, 2, 3] (by decide) rfl
  refine lv_aload_n hx hb dLe_readAll_4 rfl (lv_at hl 2 rfl) ?_
  refine ca_v (wr := [(oT, .inr (3, [.int lat, .int (nI 128), .int (nI 0), .int (nI 72), .int (bI true)])), (h, .inr (0, [.ref a, .int (nI I.length)])), (a, .inl (cA, 120, .inl f))]) (va_runV (As := []) (rest := []) Xf (k_Row_clear l D cA _ g b 120 X q) ⟨cb_of 0 hw w_136 w_2 w_214 (by decide +kernel) (by rw [hR]; exact ⟨Nat.le_of_ble_eq_true rfl, Nat.le_of_ble_eq_true rfl⟩), hw _ w_134, hw _ w_135⟩ (pre_V (As := []) hP hD hK hn [3, 4] rfl (by decide) 3 0 rfl rfl) rfl rfl hl.1 rfl (lv_room (Nat.le_of_ble_eq_true rfl)) dLe_readAll_5 ⟨Nat.zero_le _, Nat.zero_le _⟩) hP hD hS hA [3, 4] [0, 1, 2] rfl rfl (by decide) (by decide) (fun u_ H locs hq_ hP hD hS => ?_)
  replace hP : va_P D vwCl [(oT, .inr (3, [.int lat, .int (nI 128), .int (nI 0), .int (nI 72), .int (bI true)])), (h, .inr (0, [.ref a, .int (nI I.length)])), (a, .inl (cA, 120, .inl f)), (g, .inr (0, [.ref b, .int (nI (([] : List Int32).length))])), (b, .inl (cA, 120, .inl q))] H := hP.sub [0, 1, 2, 3, 4] rfl
  replace hD : va_D A [(oT, .inr (3, [.int lat, .int (nI 128), .int (nI 0), .int (nI 72), .int (bI true)])), (h, .inr (0, [.ref a, .int (nI I.length)])), (a, .inl (cA, 120, .inl f)), (g, .inr (0, [.ref b, .int (nI (([] : List Int32).length))])), (b, .inl (cA, 120, .inl q))] := hD.sub [0, 1, 2, 3, 4] (by decide) rfl
  refine lv_aload_n hx hb dLe_readAll_8 rfl (lv_at hl 1 rfl) ?_
  refine ca_i (wr := [(oT, .inr (3, [.int lat, .int (nI 128), .int (nI 0), .int (nI 72), .int (bI true)])), (g, .inr (0, [.ref b, .int (nI (([] : List Int32).length))])), (b, .inl (cA, 120, .inl q))]) (va_runS (As := [.ref h]) (rest := []) Xf (k_Le_lastHyphen l D cA _ h a 120 I f hf hc (by omega)) ⟨cb_of 1 hw w_217 w_6 w_215 (by decide +kernel) (by rw [hR]; exact ⟨Nat.le_of_ble_eq_true rfl, Nat.le_of_ble_eq_true rfl⟩), hw _ w_216⟩ (pre_S hP hD hK hn [1, 2] rfl (by decide)) rfl rfl hl.1 rfl (lv_room (Nat.le_of_ble_eq_true rfl)) dLe_readAll_9 ⟨Nat.zero_le _, Nat.zero_le _⟩) hP hD hS hA [1, 2] [0, 3, 4] rfl rfl (by decide) (by decide) (fun r9 u_ H locs hq_ hP hD hS => ?_)
  obtain rfl : r9 = nI (lhG I I.length) := hq_
  replace hP : va_P D vwCl [(oT, .inr (3, [.int lat, .int (nI 128), .int (nI 0), .int (nI 72), .int (bI true)])), (h, .inr (0, [.ref a, .int (nI I.length)])), (a, .inl (cA, 120, .inl f)), (g, .inr (0, [.ref b, .int (nI (([] : List Int32).length))])), (b, .inl (cA, 120, .inl q))] H := hP.sub [0, 3, 4, 1, 2] rfl
  replace hD : va_D A [(oT, .inr (3, [.int lat, .int (nI 128), .int (nI 0), .int (nI 72), .int (bI true)])), (h, .inr (0, [.ref a, .int (nI I.length)])), (a, .inl (cA, 120, .inl f)), (g, .inr (0, [.ref b, .int (nI (([] : List Int32).length))])), (b, .inl (cA, 120, .inl q))] := hD.sub [0, 3, 4, 1, 2] (by decide) rfl
  have hhl := lhG_le I I.length
  have hhy : lhG I I.length = 0 ∨ lhG I I.length < I.length := by
    rcases Nat.eq_zero_or_pos I.length with h9 | h9
    · exact Or.inl (by omega)
    · exact Or.inr (lhG_lt I _ h9)
  refine lv_istore_n (lv' := [(3, .int (nI (lhG I I.length))), (0, .ref oT), (1, .ref h), (2, .ref g)]) hx hb dLe_readAll_12 rfl hl (by decide) rfl (fun ls hl => ?_)
  refine lv_iconst (v := nI 0) hx hb dLe_readAll_13 (by decide) ?_
  refine lv_istore (lv' := [(4, .int (nI 0)), (3, .int (nI (lhG I I.length))), (0, .ref oT), (1, .ref h), (2, .ref g)]) hx hb dLe_readAll_14 hl (by decide) rfl (fun ls hl => ?_)
  have loop1 : ∀ (n_ : Nat) (i : Nat) (acc : List Nat) (gq : Nat → Int32) (ls : Array Slot) (H : Heap) (locs : List Loc), lhG I I.length - i < n_ → i ≤ lhG I I.length → plG I i = some acc → Hd gq (acc.map nI) → lv_has ls 7 [(4, .int (nI i)), (3, .int (nI (lhG I I.length))), (0, .ref oT), (1, .ref h), (2, .ref g)] → va_P D vwCl [(oT, .inr (3, [.int lat, .int (nI 128), .int (nI 0), .int (nI 72), .int (bI true)])), (h, .inr (0, [.ref a, .int (nI I.length)])), (a, .inl (cA, 120, .inl f)), (g, .inr (0, [.ref b, .int (nI ((acc.map nI).length))])), (b, .inl (cA, 120, .inl gq))] H → va_D A [(oT, .inr (3, [.int lat, .int (nI 128), .int (nI 0), .int (nI 72), .int (bI true)])), (h, .inr (0, [.ref a, .int (nI I.length)])), (a, .inl (cA, 120, .inl f)), (g, .inr (0, [.ref b, .int (nI ((acc.map nI).length))])), (b, .inl (cA, 120, .inl gq))] → va_S A s.heap H locs → W p l e R s m args below meth c H locs 0 0 Q (F0 m 16 ls []) := by
    intro n_
    induction n_ with
    | zero => intro i acc gq ls H locs hm_; exact absurd hm_ (Nat.not_lt_zero _)
    | succ n_ ih_loop1 =>
      intro i acc gq ls H locs hm_ hi hpl hgq hl hP hD hS
      refine lv_iload hx hb dLe_readAll_16 (lv_at hl 0 rfl) ?_
      refine lv_iload_n hx hb dLe_readAll_18 rfl (lv_at hl 1 rfl) ?_
      refine lv_icmp_ge (tgt := 59) hx hb dLe_readAll_19 (by decide) (fun h19 => ?_) (fun h19 => ?_)
      · skip
        replace h19 := nt_le (a := lhG I I.length) (b := i) (by omega) (by omega) h19
        have hieq : i = lhG I I.length := by omega
        rw [hieq] at hpl
        obtain ⟨hal, -⟩ := plG_len hpl
        refine lv_aload_n hx hb dLe_readAll_59 rfl (lv_at hl 2 rfl) ?_
        refine lv_iload_n hx hb dLe_readAll_60 rfl (lv_at hl 1 rfl) ?_
        refine lv_if_ne (tgt := 68) hx hb dLe_readAll_61 (by decide) (fun h61 => ?_) (fun h61 => ?_)
        · skip
          replace h61 := nt_ne (a := lhG I I.length) (b := 0) (by omega) (by omega) h61
          have hz0 : rlS I = raS I I.length (lhG I I.length + 1) 128 0 72 true acc := by unfold rlS; rw [hpl]; dsimp only; rw [if_neg h61]
          refine lv_iload_n hx hb dLe_readAll_68 rfl (lv_at hl 1 rfl) ?_
          refine lv_iconst (v := nI 1) hx hb dLe_readAll_69 (by decide) ?_
          refine lv_iadd hx hb dLe_readAll_70 ?_
          refine lv_rei (y := nI (lhG I I.length + 1)) (nI_add _ _) ?_
          refine va_put (D := D) (ci := 3) (v := .int (nI (lhG I I.length + 1))) (ty := .int) (C := R_Le) (T := T_Le) (N := 5) hx hb hw in_Le ty_Le ty_Le_ok nm_Le hown hK hP hD hS 0 rfl rfl 0 (by decide) (hw _ w_73) (fun _ h9 => h9) rfl (by decide +kernel) rfl rfl (Nat.le_of_ble_eq_true rfl) dLe_readAll_71 (fun H locs hP hD hS => ?_)
          have hP : va_P D vwCl [(oT, .inr (3, [.int (nI (lhG I I.length + 1)), .int (nI 128), .int (nI 0), .int (nI 72), .int (bI true)])), (h, .inr (0, [.ref a, .int (nI I.length)])), (a, .inl (cA, 120, .inl f)), (g, .inr (0, [.ref b, .int (nI ((acc.map nI).length))])), (b, .inl (cA, 120, .inl gq))] H := hP
          have hD : va_D A [(oT, .inr (3, [.int (nI (lhG I I.length + 1)), .int (nI 128), .int (nI 0), .int (nI 72), .int (bI true)])), (h, .inr (0, [.ref a, .int (nI I.length)])), (a, .inl (cA, 120, .inl f)), (g, .inr (0, [.ref b, .int (nI ((acc.map nI).length))])), (b, .inl (cA, 120, .inl gq))] := hD
          refine lv_iconst (v := nI 0) hx hb dLe_readAll_74 (by decide) ?_
          refine lv_istore (lv' := [(4, .int (nI 0)), (3, .int (nI (lhG I I.length))), (0, .ref oT), (1, .ref h), (2, .ref g)]) hx hb dLe_readAll_75 hl (by decide) rfl (fun ls hl => ?_)
          have loop2 : ∀ (n_ : Nat) (j : Nat) (ax : Nat) (va : Nat) (pl : Nat) (bi : Nat) (fb : Bool) (acc : List Nat) (gq : Nat → Int32) (kf : Nat) (ls : Array Slot) (H : Heap) (locs : List Loc), kf < n_ → j + kf = I.length → Hd gq (acc.map nI) → acc.length ≤ ax → ax ≤ I.length → va ≤ 1114111 → pl ≤ acc.length → bi ≤ 252 → raS I kf ax va pl bi fb acc = rlS I → lv_has ls 7 [(4, .int (nI j)), (0, .ref oT), (1, .ref h), (2, .ref g)] → va_P D vwCl [(oT, .inr (3, [.int (nI ax), .int (nI va), .int (nI pl), .int (nI bi), .int (bI fb)])), (h, .inr (0, [.ref a, .int (nI I.length)])), (a, .inl (cA, 120, .inl f)), (g, .inr (0, [.ref b, .int (nI ((acc.map nI).length))])), (b, .inl (cA, 120, .inl gq))] H → va_D A [(oT, .inr (3, [.int (nI ax), .int (nI va), .int (nI pl), .int (nI bi), .int (bI fb)])), (h, .inr (0, [.ref a, .int (nI I.length)])), (a, .inl (cA, 120, .inl f)), (g, .inr (0, [.ref b, .int (nI ((acc.map nI).length))])), (b, .inl (cA, 120, .inl gq))] → va_S A s.heap H locs → W p l e R s m args below meth c H locs 0 0 Q (F0 m 77 ls []) := by
            intro n_
            induction n_ with
            | zero => intro j ax va pl bi fb acc gq kf ls H locs hm_; exact absurd hm_ (Nat.not_lt_zero _)
            | succ n_ ih_loop2 =>
              intro j ax va pl bi fb acc gq kf ls H locs hm_ hjk hgq hac hax hva hpl hbi hF hl hP hD hS
              refine lv_iload hx hb dLe_readAll_77 (lv_at hl 0 rfl) ?_
              refine lv_aload_n hx hb dLe_readAll_79 rfl (lv_at hl 2 rfl) ?_
              refine va_getN (D := D) (ci := 0) (v := .int (nI I.length)) (C := R_Row) (T := T_Row) (N := 2) hx hb hw in_Row hown hK hP 1 rfl rfl 1 (by decide) (va_Nw.use rfl (hn _ w_27)) (fun _ h9 => h9) rfl dLe_readAll_80 ?_
              refine lv_icmp_ge (tgt := 137) hx hb dLe_readAll_83 (by decide) (fun h83 => ?_) (fun h83 => ?_)
              · skip
                replace h83 := nt_le (a := I.length) (b := j) (by omega) (by omega) h83
                refine lv_aload_n hx hb dLe_readAll_137 rfl (lv_at hl 3 rfl) ?_
                refine va_getN (D := D) (ci := 0) (v := .int (nI ((acc.map nI).length))) (C := R_Row) (T := T_Row) (N := 2) hx hb hw in_Row hown hK hP 3 rfl rfl 1 (by decide) (va_Nw.use rfl (hn _ w_27)) (fun _ h9 => h9) rfl dLe_readAll_138 ?_
                have hz1 : rlS I = (nI acc.length, some acc) := by rw [← hF]; exact (by rw [show kf = 0 by omega]; rfl)
                exact ret ((acc.map nI), gq, nI ax, nI va, nI pl, nI bi, bI fb) dLe_readAll_141 rfl ⟨Or.inl ⟨acc, hz1, by rw [List.length_map], rfl⟩, hgq, by simp only [List.length_map]; omega⟩ hP hD hS
              · skip
                replace h83 := nt_nle (a := I.length) (b := j) (by omega) (by omega) h83
                refine lv_aload_n hx hb dLe_readAll_86 rfl (lv_at hl 1 rfl) ?_
                refine va_get (D := D) (ci := 3) (v := .int (nI ax)) (C := R_Le) (T := T_Le) (N := 5) hx hb hw in_Le hown hK hP 0 rfl rfl 0 (by decide) (hw _ w_73) (fun _ h9 => h9) rfl dLe_readAll_87 ?_
                refine lv_aload_n hx hb dLe_readAll_90 rfl (lv_at hl 2 rfl) ?_
                refine va_getN (D := D) (ci := 0) (v := .int (nI I.length)) (C := R_Row) (T := T_Row) (N := 2) hx hb hw in_Row hown hK hP 1 rfl rfl 1 (by decide) (va_Nw.use rfl (hn _ w_27)) (fun _ h9 => h9) rfl dLe_readAll_91 ?_
                refine lv_icmp_ge (tgt := 137) hx hb dLe_readAll_94 (by decide) (fun h94 => ?_) (fun h94 => ?_)
                · skip
                  replace h94 := nt_le (a := I.length) (b := ax) (by omega) (by omega) h94
                  refine lv_aload_n hx hb dLe_readAll_137 rfl (lv_at hl 3 rfl) ?_
                  refine va_getN (D := D) (ci := 0) (v := .int (nI ((acc.map nI).length))) (C := R_Row) (T := T_Row) (N := 2) hx hb hw in_Row hown hK hP 3 rfl rfl 1 (by decide) (va_Nw.use rfl (hn _ w_27)) (fun _ h9 => h9) rfl dLe_readAll_138 ?_
                  have hz1 : rlS I = (nI acc.length, some acc) := by rw [← hF]; exact raS_end h94
                  exact ret ((acc.map nI), gq, nI ax, nI va, nI pl, nI bi, bI fb) dLe_readAll_141 rfl ⟨Or.inl ⟨acc, hz1, by rw [List.length_map], rfl⟩, hgq, by simp only [List.length_map]; omega⟩ hP hD hS
                · skip
                  replace h94 := nt_nle (a := I.length) (b := ax) (by omega) (by omega) h94
                  refine lv_aload_n hx hb dLe_readAll_97 rfl (lv_at hl 1 rfl) ?_
                  refine lv_aload_n hx hb dLe_readAll_98 rfl (lv_at hl 2 rfl) ?_
                  refine ca_i (wr := [(g, .inr (0, [.ref b, .int (nI ((acc.map nI).length))])), (b, .inl (cA, 120, .inl gq))]) (va_runV (As := [.ref h]) (rest := []) Xf (k_Le_readNumber l D cA _ oT ax (nI va) (nI pl) bi (bI fb) h a 120 I f hf hc (by omega) (by omega) (by omega)) ⟨cb_of 1 hw w_223 w_6 w_220 (by decide +kernel) (by rw [hR]; exact ⟨Nat.le_of_ble_eq_true rfl, Nat.le_of_ble_eq_true rfl⟩), hw _ w_222, hw _ ws_3⟩ (pre_V (As := [.ref h]) hP hD hK hn [0, 1, 2] rfl (by decide) 0 3 rfl rfl) rfl rfl hl.1 rfl (lv_room (Nat.le_of_ble_eq_true rfl)) dLe_readAll_99 ⟨Nat.zero_le _, Nat.zero_le _⟩) hP hD hS hA [0, 1, 2] [3, 4] rfl rfl (by decide) (by decide) (fun r99 u_ H locs hq_ hP hD hS => ?_)
                  obtain ⟨a2, s2⟩ := u_
                  dsimp only at hq_ hP hD
                  rcases hq_ with ⟨hz, rfl⟩ | ⟨hz, rfl⟩ | ⟨hz, rfl⟩
                  · skip
                    replace hP : va_P D vwCl [(oT, .inr (3, [.int (nI a2), .int (nI va), .int (nI pl), .int (nI bi), .int (bI fb)])), (h, .inr (0, [.ref a, .int (nI I.length)])), (a, .inl (cA, 120, .inl f)), (g, .inr (0, [.ref b, .int (nI ((acc.map nI).length))])), (b, .inl (cA, 120, .inl gq))] H := hP.sub [2, 3, 4, 0, 1] rfl
                    replace hD : va_D A [(oT, .inr (3, [.int (nI a2), .int (nI va), .int (nI pl), .int (nI bi), .int (bI fb)])), (h, .inr (0, [.ref a, .int (nI I.length)])), (a, .inl (cA, 120, .inl f)), (g, .inr (0, [.ref b, .int (nI ((acc.map nI).length))])), (b, .inl (cA, 120, .inl gq))] := hD.sub [2, 3, 4, 0, 1] (by decide) rfl
                    obtain ⟨q1, q2, q3⟩ := rn_ok _ _ _ _ _ _ _ hz
                    refine lv_istore (lv' := [(5, .int (nI s2)), (4, .int (nI j)), (0, .ref oT), (1, .ref h), (2, .ref g)]) hx hb dLe_readAll_102 hl (by decide) rfl (fun ls hl => ?_)
                    refine lv_iload hx hb dLe_readAll_104 (lv_at hl 0 rfl) ?_
                    refine lv_if_ge (tgt := 114) hx hb dLe_readAll_106 (by decide) (fun h106 => ?_) (fun h106 => ?_)
                    · skip
                      refine lv_aload_n hx hb dLe_readAll_114 rfl (lv_at hl 2 rfl) ?_
                      refine lv_iload hx hb dLe_readAll_115 (lv_at hl 0 rfl) ?_
                      refine lv_aload_n hx hb dLe_readAll_117 rfl (lv_at hl 4 rfl) ?_
                      refine ca_i (wr := [(h, .inr (0, [.ref a, .int (nI I.length)])), (a, .inl (cA, 120, .inl f))]) (va_runV (As := [.int (nI s2), .ref g]) (rest := []) Xf (k_Le_putIn l D cA _ oT (nI a2) va pl bi fb g b 120 acc gq s2 hgq (by simp only [List.length_map]; omega) (by omega) (by omega) (by omega) (by omega) (by omega)) ⟨cb_of 2 hw w_237 w_6 w_234 (by decide +kernel) (by rw [hR]; exact ⟨Nat.le_of_ble_eq_true rfl, Nat.le_of_ble_eq_true rfl⟩), hw _ w_236, hw _ ws_5⟩ (pre_V (As := [.int (nI s2), .ref g]) hP hD hK hn [0, 3, 4] rfl (by decide) 0 3 rfl rfl) rfl rfl hl.1 rfl (lv_room (Nat.le_of_ble_eq_true rfl)) dLe_readAll_118 ⟨Nat.zero_le _, Nat.zero_le _⟩) hP hD hS hA [0, 3, 4] [1, 2] rfl rfl (by decide) (by decide) (fun r118 u_ H locs hq_ hP hD hS => ?_)
                      obtain ⟨acc1, f1, va1, pl1, bi1, fb1⟩ := u_
                      dsimp only at hq_ hP hD
                      rcases hq_ with ⟨hov, rfl, e1_, e2_, e3_, e4_, e5_, hf1⟩ | ⟨hov, hsc, rfl, e1_, e2_, e3_, e4_, e5_, hf1⟩ | ⟨hov, hsc, rfl, e1_, e2_, e3_, e4_, e5_, hf1⟩
                      · skip
                        subst acc1 va1 pl1 bi1 fb1
                        replace hP : va_P D vwCl [(oT, .inr (3, [.int (nI a2), .int (nI va), .int (nI pl), .int (nI bi), .int (bI fb)])), (h, .inr (0, [.ref a, .int (nI I.length)])), (a, .inl (cA, 120, .inl f)), (g, .inr (0, [.ref b, .int (nI ((acc.map nI).length))])), (b, .inl (cA, 120, .inl f1))] H := hP.sub [2, 0, 1, 3, 4] rfl
                        replace hD : va_D A [(oT, .inr (3, [.int (nI a2), .int (nI va), .int (nI pl), .int (nI bi), .int (bI fb)])), (h, .inr (0, [.ref a, .int (nI I.length)])), (a, .inl (cA, 120, .inl f)), (g, .inr (0, [.ref b, .int (nI ((acc.map nI).length))])), (b, .inl (cA, 120, .inl f1))] := hD.sub [2, 0, 1, 3, 4] (by decide) rfl
                        refine lv_istore (lv' := [(6, .int (-2)), (5, .int (nI s2)), (4, .int (nI j)), (0, .ref oT), (1, .ref h), (2, .ref g)]) hx hb dLe_readAll_121 hl (by decide) rfl (fun ls hl => ?_)
                        refine lv_iload hx hb dLe_readAll_123 (lv_at hl 0 rfl) ?_
                        refine lv_if_ge (tgt := 131) hx hb dLe_readAll_125 (by decide) (fun h125 => ?_) (fun h125 => ?_)
                        · skip
                          exact absurd h125 (by decide)
                        · skip
                          refine lv_iload hx hb dLe_readAll_128 (lv_at hl 0 rfl) ?_
                          obtain ⟨k2, rfl⟩ : ∃ k2, kf = k2 + 1 := ⟨kf - 1, by omega⟩
                          have hz1 : rlS I = (-2, none) := by rw [← hF]; exact raS_ov h94 hz hov
                          exact ret ((acc.map nI), f1, nI a2, nI va, nI pl, nI bi, bI fb) dLe_readAll_130 rfl ⟨Or.inr (Or.inr (Or.inl ⟨hz1, rfl⟩)), hf1, by simp only [List.length_map]; omega⟩ hP hD hS
                      · skip
                        subst acc1 va1 pl1 bi1 fb1
                        replace hP : va_P D vwCl [(oT, .inr (3, [.int (nI a2), .int (nI va), .int (nI pl), .int (nI bi), .int (bI fb)])), (h, .inr (0, [.ref a, .int (nI I.length)])), (a, .inl (cA, 120, .inl f)), (g, .inr (0, [.ref b, .int (nI ((acc.map nI).length))])), (b, .inl (cA, 120, .inl f1))] H := hP.sub [2, 0, 1, 3, 4] rfl
                        replace hD : va_D A [(oT, .inr (3, [.int (nI a2), .int (nI va), .int (nI pl), .int (nI bi), .int (bI fb)])), (h, .inr (0, [.ref a, .int (nI I.length)])), (a, .inl (cA, 120, .inl f)), (g, .inr (0, [.ref b, .int (nI ((acc.map nI).length))])), (b, .inl (cA, 120, .inl f1))] := hD.sub [2, 0, 1, 3, 4] (by decide) rfl
                        refine lv_istore (lv' := [(6, .int (-4)), (5, .int (nI s2)), (4, .int (nI j)), (0, .ref oT), (1, .ref h), (2, .ref g)]) hx hb dLe_readAll_121 hl (by decide) rfl (fun ls hl => ?_)
                        refine lv_iload hx hb dLe_readAll_123 (lv_at hl 0 rfl) ?_
                        refine lv_if_ge (tgt := 131) hx hb dLe_readAll_125 (by decide) (fun h125 => ?_) (fun h125 => ?_)
                        · skip
                          exact absurd h125 (by decide)
                        · skip
                          refine lv_iload hx hb dLe_readAll_128 (lv_at hl 0 rfl) ?_
                          obtain ⟨k2, rfl⟩ : ∃ k2, kf = k2 + 1 := ⟨kf - 1, by omega⟩
                          have hz1 : rlS I = (-4, none) := by rw [← hF]; exact raS_ns h94 hz hov hsc
                          exact ret ((acc.map nI), f1, nI a2, nI va, nI pl, nI bi, bI fb) dLe_readAll_130 rfl ⟨Or.inr (Or.inr (Or.inr (Or.inr ⟨hz1, rfl⟩))), hf1, by simp only [List.length_map]; omega⟩ hP hD hS
                      · skip
                        subst acc1 va1 pl1 bi1 fb1
                        replace hP : va_P D vwCl [(oT, .inr (3, [.int (nI a2), .int (nI (va + (pl + s2) / (acc.length + 1))), .int (nI ((pl + s2) % (acc.length + 1) + 1)), .int (nI (adN s2 (acc.length + 1) fb)), .int (bI false)])), (h, .inr (0, [.ref a, .int (nI I.length)])), (a, .inl (cA, 120, .inl f)), (g, .inr (0, [.ref b, .int (nI (((acc.insertIdx ((pl + s2) % (acc.length + 1)) (va + (pl + s2) / (acc.length + 1))).map nI).length))])), (b, .inl (cA, 120, .inl f1))] H := hP.sub [2, 0, 1, 3, 4] rfl
                        replace hD : va_D A [(oT, .inr (3, [.int (nI a2), .int (nI (va + (pl + s2) / (acc.length + 1))), .int (nI ((pl + s2) % (acc.length + 1) + 1)), .int (nI (adN s2 (acc.length + 1) fb)), .int (bI false)])), (h, .inr (0, [.ref a, .int (nI I.length)])), (a, .inl (cA, 120, .inl f)), (g, .inr (0, [.ref b, .int (nI (((acc.insertIdx ((pl + s2) % (acc.length + 1)) (va + (pl + s2) / (acc.length + 1))).map nI).length))])), (b, .inl (cA, 120, .inl f1))] := hD.sub [2, 0, 1, 3, 4] (by decide) rfl
                        refine lv_istore (lv' := [(6, .int (nI 0)), (5, .int (nI s2)), (4, .int (nI j)), (0, .ref oT), (1, .ref h), (2, .ref g)]) hx hb dLe_readAll_121 hl (by decide) rfl (fun ls hl => ?_)
                        refine lv_iload hx hb dLe_readAll_123 (lv_at hl 0 rfl) ?_
                        refine lv_if_ge (tgt := 131) hx hb dLe_readAll_125 (by decide) (fun h125 => ?_) (fun h125 => ?_)
                        · skip
                          refine lv_iinc (k := 2) (v := nI (j + 1)) (lv' := [(4, .int (nI (j + 1))), (6, .int (nI 0)), (5, .int (nI s2)), (0, .ref oT), (1, .ref h), (2, .ref g)]) hx hb dLe_readAll_131 hl rfl (nI_1 _) (by decide) rfl (fun ls hl => ?_)
                          refine lv_goto (tgt := 77) hx hb dLe_readAll_134 (by decide) ?_
                          obtain ⟨k2, rfl⟩ : ∃ k2, kf = k2 + 1 := ⟨kf - 1, by omega⟩
                          rw [raS_go h94 hz hov hsc] at hF
                          have hm9 : (pl + s2) % (acc.length + 1) < acc.length + 1 := Nat.mod_lt _ (Nat.succ_pos _)
                          have hil : (acc.insertIdx ((pl + s2) % (acc.length + 1)) (va + (pl + s2) / (acc.length + 1))).length = acc.length + 1 := List.length_insertIdx_of_le_length (by omega) _
                          have hab := adN_b (d := s2) (n := acc.length + 1) (fb := fb) (by omega)
                          have hsv := hsc.1
                          exact ih_loop2 (j + 1) a2 (va + (pl + s2) / (acc.length + 1)) ((pl + s2) % (acc.length + 1) + 1) (adN s2 (acc.length + 1) fb) false (acc.insertIdx ((pl + s2) % (acc.length + 1)) (va + (pl + s2) / (acc.length + 1))) f1 k2 _ _ _ (by omega) (by omega) hf1 (by omega) (by omega) (by omega) (by omega) (by omega) hF (lv_sub hl [0, 3, 4, 5] rfl) hP hD hS
                        · skip
                          exact absurd h125 (by decide)
                    · skip
                      exact absurd (nI_pos' (by omega)) h106
                  · skip
                    replace hP : va_P D vwCl [(oT, .inr (3, [.int (nI a2), .int (nI va), .int (nI pl), .int (nI bi), .int (bI fb)])), (h, .inr (0, [.ref a, .int (nI I.length)])), (a, .inl (cA, 120, .inl f)), (g, .inr (0, [.ref b, .int (nI ((acc.map nI).length))])), (b, .inl (cA, 120, .inl gq))] H := hP.sub [2, 3, 4, 0, 1] rfl
                    replace hD : va_D A [(oT, .inr (3, [.int (nI a2), .int (nI va), .int (nI pl), .int (nI bi), .int (bI fb)])), (h, .inr (0, [.ref a, .int (nI I.length)])), (a, .inl (cA, 120, .inl f)), (g, .inr (0, [.ref b, .int (nI ((acc.map nI).length))])), (b, .inl (cA, 120, .inl gq))] := hD.sub [2, 3, 4, 0, 1] (by decide) rfl
                    refine lv_istore (lv' := [(5, .int (-1)), (4, .int (nI j)), (0, .ref oT), (1, .ref h), (2, .ref g)]) hx hb dLe_readAll_102 hl (by decide) rfl (fun ls hl => ?_)
                    refine lv_iload hx hb dLe_readAll_104 (lv_at hl 0 rfl) ?_
                    refine lv_if_ge (tgt := 114) hx hb dLe_readAll_106 (by decide) (fun h106 => ?_) (fun h106 => ?_)
                    · skip
                      exact absurd h106 (by decide)
                    · skip
                      refine lv_iload hx hb dLe_readAll_109 (lv_at hl 0 rfl) ?_
                      refine lv_goto (tgt := 121) hx hb dLe_readAll_111 (by decide) ?_
                      refine lv_istore (lv' := [(6, .int (-1)), (5, .int (-1)), (4, .int (nI j)), (0, .ref oT), (1, .ref h), (2, .ref g)]) hx hb dLe_readAll_121 hl (by decide) rfl (fun ls hl => ?_)
                      refine lv_iload hx hb dLe_readAll_123 (lv_at hl 0 rfl) ?_
                      refine lv_if_ge (tgt := 131) hx hb dLe_readAll_125 (by decide) (fun h125 => ?_) (fun h125 => ?_)
                      · skip
                        exact absurd h125 (by decide)
                      · skip
                        refine lv_iload hx hb dLe_readAll_128 (lv_at hl 0 rfl) ?_
                        obtain ⟨k2, rfl⟩ : ∃ k2, kf = k2 + 1 := ⟨kf - 1, by omega⟩
                        have hz1 : rlS I = (-1, none) := by rw [← hF]; exact raS_bad h94 hz (by decide)
                        exact ret ((acc.map nI), gq, nI a2, nI va, nI pl, nI bi, bI fb) dLe_readAll_130 rfl ⟨Or.inr (Or.inl ⟨hz1, rfl⟩), hgq, by simp only [List.length_map]; omega⟩ hP hD hS
                  · skip
                    replace hP : va_P D vwCl [(oT, .inr (3, [.int (nI a2), .int (nI va), .int (nI pl), .int (nI bi), .int (bI fb)])), (h, .inr (0, [.ref a, .int (nI I.length)])), (a, .inl (cA, 120, .inl f)), (g, .inr (0, [.ref b, .int (nI ((acc.map nI).length))])), (b, .inl (cA, 120, .inl gq))] H := hP.sub [2, 3, 4, 0, 1] rfl
                    replace hD : va_D A [(oT, .inr (3, [.int (nI a2), .int (nI va), .int (nI pl), .int (nI bi), .int (bI fb)])), (h, .inr (0, [.ref a, .int (nI I.length)])), (a, .inl (cA, 120, .inl f)), (g, .inr (0, [.ref b, .int (nI ((acc.map nI).length))])), (b, .inl (cA, 120, .inl gq))] := hD.sub [2, 3, 4, 0, 1] (by decide) rfl
                    refine lv_istore (lv' := [(5, .int (-2)), (4, .int (nI j)), (0, .ref oT), (1, .ref h), (2, .ref g)]) hx hb dLe_readAll_102 hl (by decide) rfl (fun ls hl => ?_)
                    refine lv_iload hx hb dLe_readAll_104 (lv_at hl 0 rfl) ?_
                    refine lv_if_ge (tgt := 114) hx hb dLe_readAll_106 (by decide) (fun h106 => ?_) (fun h106 => ?_)
                    · skip
                      exact absurd h106 (by decide)
                    · skip
                      refine lv_iload hx hb dLe_readAll_109 (lv_at hl 0 rfl) ?_
                      refine lv_goto (tgt := 121) hx hb dLe_readAll_111 (by decide) ?_
                      refine lv_istore (lv' := [(6, .int (-2)), (5, .int (-2)), (4, .int (nI j)), (0, .ref oT), (1, .ref h), (2, .ref g)]) hx hb dLe_readAll_121 hl (by decide) rfl (fun ls hl => ?_)
                      refine lv_iload hx hb dLe_readAll_123 (lv_at hl 0 rfl) ?_
                      refine lv_if_ge (tgt := 131) hx hb dLe_readAll_125 (by decide) (fun h125 => ?_) (fun h125 => ?_)
                      · skip
                        exact absurd h125 (by decide)
                      · skip
                        refine lv_iload hx hb dLe_readAll_128 (lv_at hl 0 rfl) ?_
                        obtain ⟨k2, rfl⟩ : ∃ k2, kf = k2 + 1 := ⟨kf - 1, by omega⟩
                        have hz1 : rlS I = (-2, none) := by rw [← hF]; exact raS_bad h94 hz (by decide)
                        exact ret ((acc.map nI), gq, nI a2, nI va, nI pl, nI bi, bI fb) dLe_readAll_130 rfl ⟨Or.inr (Or.inr (Or.inl ⟨hz1, rfl⟩)), hgq, by simp only [List.length_map]; omega⟩ hP hD hS
          exact loop2 _ 0 (lhG I I.length + 1) 128 0 72 true acc gq I.length _ _ _ (Nat.lt_succ_self _) (by omega) hgq (by omega) (by omega) (by omega) (by omega) (by omega) hz0.symm (lv_sub hl [0, 2, 3, 4] rfl) hP hD hS
        · skip
          replace h61 := nt_eq (a := lhG I I.length) (b := 0) (by omega) (by omega) h61
          have hz0 : rlS I = raS I I.length (0) 128 0 72 true acc := by unfold rlS; rw [hpl]; dsimp only; rw [if_pos h61]
          refine lv_iconst (v := nI 0) hx hb dLe_readAll_64 (by decide) ?_
          refine lv_goto (tgt := 71) hx hb dLe_readAll_65 (by decide) ?_
          refine va_put (D := D) (ci := 3) (v := .int (nI 0)) (ty := .int) (C := R_Le) (T := T_Le) (N := 5) hx hb hw in_Le ty_Le ty_Le_ok nm_Le hown hK hP hD hS 0 rfl rfl 0 (by decide) (hw _ w_73) (fun _ h9 => h9) rfl (by decide +kernel) rfl rfl (Nat.le_of_ble_eq_true rfl) dLe_readAll_71 (fun H locs hP hD hS => ?_)
          have hP : va_P D vwCl [(oT, .inr (3, [.int (nI 0), .int (nI 128), .int (nI 0), .int (nI 72), .int (bI true)])), (h, .inr (0, [.ref a, .int (nI I.length)])), (a, .inl (cA, 120, .inl f)), (g, .inr (0, [.ref b, .int (nI ((acc.map nI).length))])), (b, .inl (cA, 120, .inl gq))] H := hP
          have hD : va_D A [(oT, .inr (3, [.int (nI 0), .int (nI 128), .int (nI 0), .int (nI 72), .int (bI true)])), (h, .inr (0, [.ref a, .int (nI I.length)])), (a, .inl (cA, 120, .inl f)), (g, .inr (0, [.ref b, .int (nI ((acc.map nI).length))])), (b, .inl (cA, 120, .inl gq))] := hD
          refine lv_iconst (v := nI 0) hx hb dLe_readAll_74 (by decide) ?_
          refine lv_istore (lv' := [(4, .int (nI 0)), (3, .int (nI (lhG I I.length))), (0, .ref oT), (1, .ref h), (2, .ref g)]) hx hb dLe_readAll_75 hl (by decide) rfl (fun ls hl => ?_)
          have loop2 : ∀ (n_ : Nat) (j : Nat) (ax : Nat) (va : Nat) (pl : Nat) (bi : Nat) (fb : Bool) (acc : List Nat) (gq : Nat → Int32) (kf : Nat) (ls : Array Slot) (H : Heap) (locs : List Loc), kf < n_ → j + kf = I.length → Hd gq (acc.map nI) → acc.length ≤ ax → ax ≤ I.length → va ≤ 1114111 → pl ≤ acc.length → bi ≤ 252 → raS I kf ax va pl bi fb acc = rlS I → lv_has ls 7 [(4, .int (nI j)), (0, .ref oT), (1, .ref h), (2, .ref g)] → va_P D vwCl [(oT, .inr (3, [.int (nI ax), .int (nI va), .int (nI pl), .int (nI bi), .int (bI fb)])), (h, .inr (0, [.ref a, .int (nI I.length)])), (a, .inl (cA, 120, .inl f)), (g, .inr (0, [.ref b, .int (nI ((acc.map nI).length))])), (b, .inl (cA, 120, .inl gq))] H → va_D A [(oT, .inr (3, [.int (nI ax), .int (nI va), .int (nI pl), .int (nI bi), .int (bI fb)])), (h, .inr (0, [.ref a, .int (nI I.length)])), (a, .inl (cA, 120, .inl f)), (g, .inr (0, [.ref b, .int (nI ((acc.map nI).length))])), (b, .inl (cA, 120, .inl gq))] → va_S A s.heap H locs → W p l e R s m args below meth c H locs 0 0 Q (F0 m 77 ls []) := by
            intro n_
            induction n_ with
            | zero => intro j ax va pl bi fb acc gq kf ls H locs hm_; exact absurd hm_ (Nat.not_lt_zero _)
            | succ n_ ih_loop2 =>
              intro j ax va pl bi fb acc gq kf ls H locs hm_ hjk hgq hac hax hva hpl hbi hF hl hP hD hS
              refine lv_iload hx hb dLe_readAll_77 (lv_at hl 0 rfl) ?_
              refine lv_aload_n hx hb dLe_readAll_79 rfl (lv_at hl 2 rfl) ?_
              refine va_getN (D := D) (ci := 0) (v := .int (nI I.length)) (C := R_Row) (T := T_Row) (N := 2) hx hb hw in_Row hown hK hP 1 rfl rfl 1 (by decide) (va_Nw.use rfl (hn _ w_27)) (fun _ h9 => h9) rfl dLe_readAll_80 ?_
              refine lv_icmp_ge (tgt := 137) hx hb dLe_readAll_83 (by decide) (fun h83 => ?_) (fun h83 => ?_)
              · skip
                replace h83 := nt_le (a := I.length) (b := j) (by omega) (by omega) h83
                refine lv_aload_n hx hb dLe_readAll_137 rfl (lv_at hl 3 rfl) ?_
                refine va_getN (D := D) (ci := 0) (v := .int (nI ((acc.map nI).length))) (C := R_Row) (T := T_Row) (N := 2) hx hb hw in_Row hown hK hP 3 rfl rfl 1 (by decide) (va_Nw.use rfl (hn _ w_27)) (fun _ h9 => h9) rfl dLe_readAll_138 ?_
                have hz1 : rlS I = (nI acc.length, some acc) := by rw [← hF]; exact (by rw [show kf = 0 by omega]; rfl)
                exact ret ((acc.map nI), gq, nI ax, nI va, nI pl, nI bi, bI fb) dLe_readAll_141 rfl ⟨Or.inl ⟨acc, hz1, by rw [List.length_map], rfl⟩, hgq, by simp only [List.length_map]; omega⟩ hP hD hS
              · skip
                replace h83 := nt_nle (a := I.length) (b := j) (by omega) (by omega) h83
                refine lv_aload_n hx hb dLe_readAll_86 rfl (lv_at hl 1 rfl) ?_
                refine va_get (D := D) (ci := 3) (v := .int (nI ax)) (C := R_Le) (T := T_Le) (N := 5) hx hb hw in_Le hown hK hP 0 rfl rfl 0 (by decide) (hw _ w_73) (fun _ h9 => h9) rfl dLe_readAll_87 ?_
                refine lv_aload_n hx hb dLe_readAll_90 rfl (lv_at hl 2 rfl) ?_
                refine va_getN (D := D) (ci := 0) (v := .int (nI I.length)) (C := R_Row) (T := T_Row) (N := 2) hx hb hw in_Row hown hK hP 1 rfl rfl 1 (by decide) (va_Nw.use rfl (hn _ w_27)) (fun _ h9 => h9) rfl dLe_readAll_91 ?_
                refine lv_icmp_ge (tgt := 137) hx hb dLe_readAll_94 (by decide) (fun h94 => ?_) (fun h94 => ?_)
                · skip
                  replace h94 := nt_le (a := I.length) (b := ax) (by omega) (by omega) h94
                  refine lv_aload_n hx hb dLe_readAll_137 rfl (lv_at hl 3 rfl) ?_
                  refine va_getN (D := D) (ci := 0) (v := .int (nI ((acc.map nI).length))) (C := R_Row) (T := T_Row) (N := 2) hx hb hw in_Row hown hK hP 3 rfl rfl 1 (by decide) (va_Nw.use rfl (hn _ w_27)) (fun _ h9 => h9) rfl dLe_readAll_138 ?_
                  have hz1 : rlS I = (nI acc.length, some acc) := by rw [← hF]; exact raS_end h94
                  exact ret ((acc.map nI), gq, nI ax, nI va, nI pl, nI bi, bI fb) dLe_readAll_141 rfl ⟨Or.inl ⟨acc, hz1, by rw [List.length_map], rfl⟩, hgq, by simp only [List.length_map]; omega⟩ hP hD hS
                · skip
                  replace h94 := nt_nle (a := I.length) (b := ax) (by omega) (by omega) h94
                  refine lv_aload_n hx hb dLe_readAll_97 rfl (lv_at hl 1 rfl) ?_
                  refine lv_aload_n hx hb dLe_readAll_98 rfl (lv_at hl 2 rfl) ?_
                  refine ca_i (wr := [(g, .inr (0, [.ref b, .int (nI ((acc.map nI).length))])), (b, .inl (cA, 120, .inl gq))]) (va_runV (As := [.ref h]) (rest := []) Xf (k_Le_readNumber l D cA _ oT ax (nI va) (nI pl) bi (bI fb) h a 120 I f hf hc (by omega) (by omega) (by omega)) ⟨cb_of 1 hw w_223 w_6 w_220 (by decide +kernel) (by rw [hR]; exact ⟨Nat.le_of_ble_eq_true rfl, Nat.le_of_ble_eq_true rfl⟩), hw _ w_222, hw _ ws_3⟩ (pre_V (As := [.ref h]) hP hD hK hn [0, 1, 2] rfl (by decide) 0 3 rfl rfl) rfl rfl hl.1 rfl (lv_room (Nat.le_of_ble_eq_true rfl)) dLe_readAll_99 ⟨Nat.zero_le _, Nat.zero_le _⟩) hP hD hS hA [0, 1, 2] [3, 4] rfl rfl (by decide) (by decide) (fun r99 u_ H locs hq_ hP hD hS => ?_)
                  obtain ⟨a2, s2⟩ := u_
                  dsimp only at hq_ hP hD
                  rcases hq_ with ⟨hz, rfl⟩ | ⟨hz, rfl⟩ | ⟨hz, rfl⟩
                  · skip
                    replace hP : va_P D vwCl [(oT, .inr (3, [.int (nI a2), .int (nI va), .int (nI pl), .int (nI bi), .int (bI fb)])), (h, .inr (0, [.ref a, .int (nI I.length)])), (a, .inl (cA, 120, .inl f)), (g, .inr (0, [.ref b, .int (nI ((acc.map nI).length))])), (b, .inl (cA, 120, .inl gq))] H := hP.sub [2, 3, 4, 0, 1] rfl
                    replace hD : va_D A [(oT, .inr (3, [.int (nI a2), .int (nI va), .int (nI pl), .int (nI bi), .int (bI fb)])), (h, .inr (0, [.ref a, .int (nI I.length)])), (a, .inl (cA, 120, .inl f)), (g, .inr (0, [.ref b, .int (nI ((acc.map nI).length))])), (b, .inl (cA, 120, .inl gq))] := hD.sub [2, 3, 4, 0, 1] (by decide) rfl
                    obtain ⟨q1, q2, q3⟩ := rn_ok _ _ _ _ _ _ _ hz
                    refine lv_istore (lv' := [(5, .int (nI s2)), (4, .int (nI j)), (0, .ref oT), (1, .ref h), (2, .ref g)]) hx hb dLe_readAll_102 hl (by decide) rfl (fun ls hl => ?_)
                    refine lv_iload hx hb dLe_readAll_104 (lv_at hl 0 rfl) ?_
                    refine lv_if_ge (tgt := 114) hx hb dLe_readAll_106 (by decide) (fun h106 => ?_) (fun h106 => ?_)
                    · skip
                      refine lv_aload_n hx hb dLe_readAll_114 rfl (lv_at hl 2 rfl) ?_
                      refine lv_iload hx hb dLe_readAll_115 (lv_at hl 0 rfl) ?_
                      refine lv_aload_n hx hb dLe_readAll_117 rfl (lv_at hl 4 rfl) ?_
                      refine ca_i (wr := [(h, .inr (0, [.ref a, .int (nI I.length)])), (a, .inl (cA, 120, .inl f))]) (va_runV (As := [.int (nI s2), .ref g]) (rest := []) Xf (k_Le_putIn l D cA _ oT (nI a2) va pl bi fb g b 120 acc gq s2 hgq (by simp only [List.length_map]; omega) (by omega) (by omega) (by omega) (by omega) (by omega)) ⟨cb_of 2 hw w_237 w_6 w_234 (by decide +kernel) (by rw [hR]; exact ⟨Nat.le_of_ble_eq_true rfl, Nat.le_of_ble_eq_true rfl⟩), hw _ w_236, hw _ ws_5⟩ (pre_V (As := [.int (nI s2), .ref g]) hP hD hK hn [0, 3, 4] rfl (by decide) 0 3 rfl rfl) rfl rfl hl.1 rfl (lv_room (Nat.le_of_ble_eq_true rfl)) dLe_readAll_118 ⟨Nat.zero_le _, Nat.zero_le _⟩) hP hD hS hA [0, 3, 4] [1, 2] rfl rfl (by decide) (by decide) (fun r118 u_ H locs hq_ hP hD hS => ?_)
                      obtain ⟨acc2, f2, va2, pl2, bi2, fb2⟩ := u_
                      dsimp only at hq_ hP hD
                      rcases hq_ with ⟨hov, rfl, e1_, e2_, e3_, e4_, e5_, hf2⟩ | ⟨hov, hsc, rfl, e1_, e2_, e3_, e4_, e5_, hf2⟩ | ⟨hov, hsc, rfl, e1_, e2_, e3_, e4_, e5_, hf2⟩
                      · skip
                        subst acc2 va2 pl2 bi2 fb2
                        replace hP : va_P D vwCl [(oT, .inr (3, [.int (nI a2), .int (nI va), .int (nI pl), .int (nI bi), .int (bI fb)])), (h, .inr (0, [.ref a, .int (nI I.length)])), (a, .inl (cA, 120, .inl f)), (g, .inr (0, [.ref b, .int (nI ((acc.map nI).length))])), (b, .inl (cA, 120, .inl f2))] H := hP.sub [2, 0, 1, 3, 4] rfl
                        replace hD : va_D A [(oT, .inr (3, [.int (nI a2), .int (nI va), .int (nI pl), .int (nI bi), .int (bI fb)])), (h, .inr (0, [.ref a, .int (nI I.length)])), (a, .inl (cA, 120, .inl f)), (g, .inr (0, [.ref b, .int (nI ((acc.map nI).length))])), (b, .inl (cA, 120, .inl f2))] := hD.sub [2, 0, 1, 3, 4] (by decide) rfl
                        refine lv_istore (lv' := [(6, .int (-2)), (5, .int (nI s2)), (4, .int (nI j)), (0, .ref oT), (1, .ref h), (2, .ref g)]) hx hb dLe_readAll_121 hl (by decide) rfl (fun ls hl => ?_)
                        refine lv_iload hx hb dLe_readAll_123 (lv_at hl 0 rfl) ?_
                        refine lv_if_ge (tgt := 131) hx hb dLe_readAll_125 (by decide) (fun h125 => ?_) (fun h125 => ?_)
                        · skip
                          exact absurd h125 (by decide)
                        · skip
                          refine lv_iload hx hb dLe_readAll_128 (lv_at hl 0 rfl) ?_
                          obtain ⟨k2, rfl⟩ : ∃ k2, kf = k2 + 1 := ⟨kf - 1, by omega⟩
                          have hz1 : rlS I = (-2, none) := by rw [← hF]; exact raS_ov h94 hz hov
                          exact ret ((acc.map nI), f2, nI a2, nI va, nI pl, nI bi, bI fb) dLe_readAll_130 rfl ⟨Or.inr (Or.inr (Or.inl ⟨hz1, rfl⟩)), hf2, by simp only [List.length_map]; omega⟩ hP hD hS
                      · skip
                        subst acc2 va2 pl2 bi2 fb2
                        replace hP : va_P D vwCl [(oT, .inr (3, [.int (nI a2), .int (nI va), .int (nI pl), .int (nI bi), .int (bI fb)])), (h, .inr (0, [.ref a, .int (nI I.length)])), (a, .inl (cA, 120, .inl f)), (g, .inr (0, [.ref b, .int (nI ((acc.map nI).length))])), (b, .inl (cA, 120, .inl f2))] H := hP.sub [2, 0, 1, 3, 4] rfl
                        replace hD : va_D A [(oT, .inr (3, [.int (nI a2), .int (nI va), .int (nI pl), .int (nI bi), .int (bI fb)])), (h, .inr (0, [.ref a, .int (nI I.length)])), (a, .inl (cA, 120, .inl f)), (g, .inr (0, [.ref b, .int (nI ((acc.map nI).length))])), (b, .inl (cA, 120, .inl f2))] := hD.sub [2, 0, 1, 3, 4] (by decide) rfl
                        refine lv_istore (lv' := [(6, .int (-4)), (5, .int (nI s2)), (4, .int (nI j)), (0, .ref oT), (1, .ref h), (2, .ref g)]) hx hb dLe_readAll_121 hl (by decide) rfl (fun ls hl => ?_)
                        refine lv_iload hx hb dLe_readAll_123 (lv_at hl 0 rfl) ?_
                        refine lv_if_ge (tgt := 131) hx hb dLe_readAll_125 (by decide) (fun h125 => ?_) (fun h125 => ?_)
                        · skip
                          exact absurd h125 (by decide)
                        · skip
                          refine lv_iload hx hb dLe_readAll_128 (lv_at hl 0 rfl) ?_
                          obtain ⟨k2, rfl⟩ : ∃ k2, kf = k2 + 1 := ⟨kf - 1, by omega⟩
                          have hz1 : rlS I = (-4, none) := by rw [← hF]; exact raS_ns h94 hz hov hsc
                          exact ret ((acc.map nI), f2, nI a2, nI va, nI pl, nI bi, bI fb) dLe_readAll_130 rfl ⟨Or.inr (Or.inr (Or.inr (Or.inr ⟨hz1, rfl⟩))), hf2, by simp only [List.length_map]; omega⟩ hP hD hS
                      · skip
                        subst acc2 va2 pl2 bi2 fb2
                        replace hP : va_P D vwCl [(oT, .inr (3, [.int (nI a2), .int (nI (va + (pl + s2) / (acc.length + 1))), .int (nI ((pl + s2) % (acc.length + 1) + 1)), .int (nI (adN s2 (acc.length + 1) fb)), .int (bI false)])), (h, .inr (0, [.ref a, .int (nI I.length)])), (a, .inl (cA, 120, .inl f)), (g, .inr (0, [.ref b, .int (nI (((acc.insertIdx ((pl + s2) % (acc.length + 1)) (va + (pl + s2) / (acc.length + 1))).map nI).length))])), (b, .inl (cA, 120, .inl f2))] H := hP.sub [2, 0, 1, 3, 4] rfl
                        replace hD : va_D A [(oT, .inr (3, [.int (nI a2), .int (nI (va + (pl + s2) / (acc.length + 1))), .int (nI ((pl + s2) % (acc.length + 1) + 1)), .int (nI (adN s2 (acc.length + 1) fb)), .int (bI false)])), (h, .inr (0, [.ref a, .int (nI I.length)])), (a, .inl (cA, 120, .inl f)), (g, .inr (0, [.ref b, .int (nI (((acc.insertIdx ((pl + s2) % (acc.length + 1)) (va + (pl + s2) / (acc.length + 1))).map nI).length))])), (b, .inl (cA, 120, .inl f2))] := hD.sub [2, 0, 1, 3, 4] (by decide) rfl
                        refine lv_istore (lv' := [(6, .int (nI 0)), (5, .int (nI s2)), (4, .int (nI j)), (0, .ref oT), (1, .ref h), (2, .ref g)]) hx hb dLe_readAll_121 hl (by decide) rfl (fun ls hl => ?_)
                        refine lv_iload hx hb dLe_readAll_123 (lv_at hl 0 rfl) ?_
                        refine lv_if_ge (tgt := 131) hx hb dLe_readAll_125 (by decide) (fun h125 => ?_) (fun h125 => ?_)
                        · skip
                          refine lv_iinc (k := 2) (v := nI (j + 1)) (lv' := [(4, .int (nI (j + 1))), (6, .int (nI 0)), (5, .int (nI s2)), (0, .ref oT), (1, .ref h), (2, .ref g)]) hx hb dLe_readAll_131 hl rfl (nI_1 _) (by decide) rfl (fun ls hl => ?_)
                          refine lv_goto (tgt := 77) hx hb dLe_readAll_134 (by decide) ?_
                          obtain ⟨k2, rfl⟩ : ∃ k2, kf = k2 + 1 := ⟨kf - 1, by omega⟩
                          rw [raS_go h94 hz hov hsc] at hF
                          have hm9 : (pl + s2) % (acc.length + 1) < acc.length + 1 := Nat.mod_lt _ (Nat.succ_pos _)
                          have hil : (acc.insertIdx ((pl + s2) % (acc.length + 1)) (va + (pl + s2) / (acc.length + 1))).length = acc.length + 1 := List.length_insertIdx_of_le_length (by omega) _
                          have hab := adN_b (d := s2) (n := acc.length + 1) (fb := fb) (by omega)
                          have hsv := hsc.1
                          exact ih_loop2 (j + 1) a2 (va + (pl + s2) / (acc.length + 1)) ((pl + s2) % (acc.length + 1) + 1) (adN s2 (acc.length + 1) fb) false (acc.insertIdx ((pl + s2) % (acc.length + 1)) (va + (pl + s2) / (acc.length + 1))) f2 k2 _ _ _ (by omega) (by omega) hf2 (by omega) (by omega) (by omega) (by omega) (by omega) hF (lv_sub hl [0, 3, 4, 5] rfl) hP hD hS
                        · skip
                          exact absurd h125 (by decide)
                    · skip
                      exact absurd (nI_pos' (by omega)) h106
                  · skip
                    replace hP : va_P D vwCl [(oT, .inr (3, [.int (nI a2), .int (nI va), .int (nI pl), .int (nI bi), .int (bI fb)])), (h, .inr (0, [.ref a, .int (nI I.length)])), (a, .inl (cA, 120, .inl f)), (g, .inr (0, [.ref b, .int (nI ((acc.map nI).length))])), (b, .inl (cA, 120, .inl gq))] H := hP.sub [2, 3, 4, 0, 1] rfl
                    replace hD : va_D A [(oT, .inr (3, [.int (nI a2), .int (nI va), .int (nI pl), .int (nI bi), .int (bI fb)])), (h, .inr (0, [.ref a, .int (nI I.length)])), (a, .inl (cA, 120, .inl f)), (g, .inr (0, [.ref b, .int (nI ((acc.map nI).length))])), (b, .inl (cA, 120, .inl gq))] := hD.sub [2, 3, 4, 0, 1] (by decide) rfl
                    refine lv_istore (lv' := [(5, .int (-1)), (4, .int (nI j)), (0, .ref oT), (1, .ref h), (2, .ref g)]) hx hb dLe_readAll_102 hl (by decide) rfl (fun ls hl => ?_)
                    refine lv_iload hx hb dLe_readAll_104 (lv_at hl 0 rfl) ?_
                    refine lv_if_ge (tgt := 114) hx hb dLe_readAll_106 (by decide) (fun h106 => ?_) (fun h106 => ?_)
                    · skip
                      exact absurd h106 (by decide)
                    · skip
                      refine lv_iload hx hb dLe_readAll_109 (lv_at hl 0 rfl) ?_
                      refine lv_goto (tgt := 121) hx hb dLe_readAll_111 (by decide) ?_
                      refine lv_istore (lv' := [(6, .int (-1)), (5, .int (-1)), (4, .int (nI j)), (0, .ref oT), (1, .ref h), (2, .ref g)]) hx hb dLe_readAll_121 hl (by decide) rfl (fun ls hl => ?_)
                      refine lv_iload hx hb dLe_readAll_123 (lv_at hl 0 rfl) ?_
                      refine lv_if_ge (tgt := 131) hx hb dLe_readAll_125 (by decide) (fun h125 => ?_) (fun h125 => ?_)
                      · skip
                        exact absurd h125 (by decide)
                      · skip
                        refine lv_iload hx hb dLe_readAll_128 (lv_at hl 0 rfl) ?_
                        obtain ⟨k2, rfl⟩ : ∃ k2, kf = k2 + 1 := ⟨kf - 1, by omega⟩
                        have hz1 : rlS I = (-1, none) := by rw [← hF]; exact raS_bad h94 hz (by decide)
                        exact ret ((acc.map nI), gq, nI a2, nI va, nI pl, nI bi, bI fb) dLe_readAll_130 rfl ⟨Or.inr (Or.inl ⟨hz1, rfl⟩), hgq, by simp only [List.length_map]; omega⟩ hP hD hS
                  · skip
                    replace hP : va_P D vwCl [(oT, .inr (3, [.int (nI a2), .int (nI va), .int (nI pl), .int (nI bi), .int (bI fb)])), (h, .inr (0, [.ref a, .int (nI I.length)])), (a, .inl (cA, 120, .inl f)), (g, .inr (0, [.ref b, .int (nI ((acc.map nI).length))])), (b, .inl (cA, 120, .inl gq))] H := hP.sub [2, 3, 4, 0, 1] rfl
                    replace hD : va_D A [(oT, .inr (3, [.int (nI a2), .int (nI va), .int (nI pl), .int (nI bi), .int (bI fb)])), (h, .inr (0, [.ref a, .int (nI I.length)])), (a, .inl (cA, 120, .inl f)), (g, .inr (0, [.ref b, .int (nI ((acc.map nI).length))])), (b, .inl (cA, 120, .inl gq))] := hD.sub [2, 3, 4, 0, 1] (by decide) rfl
                    refine lv_istore (lv' := [(5, .int (-2)), (4, .int (nI j)), (0, .ref oT), (1, .ref h), (2, .ref g)]) hx hb dLe_readAll_102 hl (by decide) rfl (fun ls hl => ?_)
                    refine lv_iload hx hb dLe_readAll_104 (lv_at hl 0 rfl) ?_
                    refine lv_if_ge (tgt := 114) hx hb dLe_readAll_106 (by decide) (fun h106 => ?_) (fun h106 => ?_)
                    · skip
                      exact absurd h106 (by decide)
                    · skip
                      refine lv_iload hx hb dLe_readAll_109 (lv_at hl 0 rfl) ?_
                      refine lv_goto (tgt := 121) hx hb dLe_readAll_111 (by decide) ?_
                      refine lv_istore (lv' := [(6, .int (-2)), (5, .int (-2)), (4, .int (nI j)), (0, .ref oT), (1, .ref h), (2, .ref g)]) hx hb dLe_readAll_121 hl (by decide) rfl (fun ls hl => ?_)
                      refine lv_iload hx hb dLe_readAll_123 (lv_at hl 0 rfl) ?_
                      refine lv_if_ge (tgt := 131) hx hb dLe_readAll_125 (by decide) (fun h125 => ?_) (fun h125 => ?_)
                      · skip
                        exact absurd h125 (by decide)
                      · skip
                        refine lv_iload hx hb dLe_readAll_128 (lv_at hl 0 rfl) ?_
                        obtain ⟨k2, rfl⟩ : ∃ k2, kf = k2 + 1 := ⟨kf - 1, by omega⟩
                        have hz1 : rlS I = (-2, none) := by rw [← hF]; exact raS_bad h94 hz (by decide)
                        exact ret ((acc.map nI), gq, nI a2, nI va, nI pl, nI bi, bI fb) dLe_readAll_130 rfl ⟨Or.inr (Or.inr (Or.inl ⟨hz1, rfl⟩)), hgq, by simp only [List.length_map]; omega⟩ hP hD hS
          exact loop2 _ 0 0 128 0 72 true acc gq I.length _ _ _ (Nat.lt_succ_self _) (by omega) hgq (by omega) (by omega) (by omega) (by omega) (by omega) hz0.symm (lv_sub hl [0, 2, 3, 4] rfl) hP hD hS
      · skip
        replace h19 := nt_nle (a := lhG I I.length) (b := i) (by omega) (by omega) h19
        refine lv_aload_n hx hb dLe_readAll_22 rfl (lv_at hl 3 rfl) ?_
        refine lv_iload hx hb dLe_readAll_23 (lv_at hl 0 rfl) ?_
        refine ca_i (wr := [(oT, .inr (3, [.int lat, .int (nI 128), .int (nI 0), .int (nI 72), .int (bI true)])), (g, .inr (0, [.ref b, .int (nI ((acc.map nI).length))])), (b, .inl (cA, 120, .inl gq))]) (va_runV (As := [.int (nI i)]) (rest := []) Xf (k_Row_unitAt l D cA _ h a 120 I f (nI i) hf hc (by omega)) ⟨cb_of 1 hw w_154 w_2 w_218 (by decide +kernel) (by rw [hR]; exact ⟨Nat.le_of_ble_eq_true rfl, Nat.le_of_ble_eq_true rfl⟩), hw _ w_152, hw _ w_153⟩ (pre_V (As := [.int (nI i)]) hP hD hK hn [1, 2] rfl (by decide) 1 0 rfl rfl) rfl rfl hl.1 rfl (lv_room (Nat.le_of_ble_eq_true rfl)) dLe_readAll_25 ⟨Nat.zero_le _, Nat.zero_le _⟩) hP hD hS hA [1, 2] [0, 3, 4] rfl rfl (by decide) (by decide) (fun r25 u_ H locs hq_ hP hD hS => ?_)
        obtain rfl : r25 = un I i := hq_.trans (gt_n (by omega) (by omega))
        replace hP : va_P D vwCl [(oT, .inr (3, [.int lat, .int (nI 128), .int (nI 0), .int (nI 72), .int (bI true)])), (h, .inr (0, [.ref a, .int (nI I.length)])), (a, .inl (cA, 120, .inl f)), (g, .inr (0, [.ref b, .int (nI ((acc.map nI).length))])), (b, .inl (cA, 120, .inl gq))] H := hP.sub [0, 3, 4, 1, 2] rfl
        replace hD : va_D A [(oT, .inr (3, [.int lat, .int (nI 128), .int (nI 0), .int (nI 72), .int (bI true)])), (h, .inr (0, [.ref a, .int (nI I.length)])), (a, .inl (cA, 120, .inl f)), (g, .inr (0, [.ref b, .int (nI ((acc.map nI).length))])), (b, .inl (cA, 120, .inl gq))] := hD.sub [0, 3, 4, 1, 2] (by decide) rfl
        refine lv_istore (lv' := [(5, .int (un I i)), (4, .int (nI i)), (3, .int (nI (lhG I I.length))), (0, .ref oT), (1, .ref h), (2, .ref g)]) hx hb dLe_readAll_28 hl (by decide) rfl (fun ls hl => ?_)
        refine lv_iload hx hb dLe_readAll_30 (lv_at hl 0 rfl) ?_
        refine lv_if_lt (tgt := 43) hx hb dLe_readAll_32 (by decide) (fun h32 => ?_) (fun h32 => ?_)
        · skip
          rw [Int32.lt_iff_toInt_lt, Int32.toInt_zero] at h32
          refine lv_bipush (v := (-3)) hx hb dLe_readAll_43 (by decide) ?_
          have hz1 : rlS I = (-3, none) := by unfold rlS; rw [plG_f hpl (by omega) h19]
          exact ret ((acc.map nI), gq, lat, nI 128, nI 0, nI 72, bI true) dLe_readAll_45 rfl ⟨Or.inr (Or.inr (Or.inr (Or.inl ⟨hz1, rfl⟩))), hgq, by have := (plG_len hpl).1; simp only [List.length_map]; omega⟩ hP hD hS
        · skip
          rw [Int32.lt_iff_toInt_lt, Int32.toInt_zero] at h32
          refine lv_iload hx hb dLe_readAll_35 (lv_at hl 0 rfl) ?_
          refine lv_sipush (v := nI 128) hx hb dLe_readAll_37 (by decide) ?_
          refine lv_icmp_lt (tgt := 46) hx hb dLe_readAll_40 (by decide) (fun h40 => ?_) (fun h40 => ?_)
          · skip
            rw [Int32.lt_iff_toInt_lt, nI_toInt (n := 128) (by omega)] at h40
            refine lv_aload_n hx hb dLe_readAll_46 rfl (lv_at hl 5 rfl) ?_
            refine lv_iload hx hb dLe_readAll_47 (lv_at hl 0 rfl) ?_
            refine ca_i (wr := [(oT, .inr (3, [.int lat, .int (nI 128), .int (nI 0), .int (nI 72), .int (bI true)])), (h, .inr (0, [.ref a, .int (nI I.length)])), (a, .inl (cA, 120, .inl f))]) (va_runV (As := [.int (un I i)]) (rest := []) Xf (k_Row_add l D cA _ g b 120 (acc.map nI) gq (un I i) hgq (by have := (plG_len hpl).1; simp only [List.length_map]; omega) (by omega)) ⟨cb_of 1 hw w_124 w_2 w_219 (by decide +kernel) (by rw [hR]; exact ⟨Nat.le_of_ble_eq_true rfl, Nat.le_of_ble_eq_true rfl⟩), hw _ w_122, hw _ w_123⟩ (pre_V (As := [.int (un I i)]) hP hD hK hn [3, 4] rfl (by decide) 3 0 rfl rfl) rfl rfl hl.1 rfl (lv_room (Nat.le_of_ble_eq_true rfl)) dLe_readAll_49 ⟨Nat.zero_le _, Nat.zero_le _⟩) hP hD hS hA [3, 4] [0, 1, 2] rfl rfl (by decide) (by decide) (fun r49 u_ H locs hq_ hP hD hS => ?_)
            obtain ⟨L3, f3⟩ := u_
            dsimp only at hq_ hP hD
            rcases hq_ with ⟨hlt_3, rfl, hL_, hf3⟩ | ⟨hlt_3, rfl, hL_, hf3⟩
            · skip
              subst L3
              try simp only [List.length_append, List.length_singleton, List.length_nil, List.length_map, List.length_cons] at hlt_3
              replace hP : va_P D vwCl [(oT, .inr (3, [.int lat, .int (nI 128), .int (nI 0), .int (nI 72), .int (bI true)])), (h, .inr (0, [.ref a, .int (nI I.length)])), (a, .inl (cA, 120, .inl f)), (g, .inr (0, [.ref b, .int (nI (((acc.map nI) ++ [un I i]).length))])), (b, .inl (cA, 120, .inl f3))] H := hP.sub [0, 1, 2, 3, 4] rfl
              replace hD : va_D A [(oT, .inr (3, [.int lat, .int (nI 128), .int (nI 0), .int (nI 72), .int (bI true)])), (h, .inr (0, [.ref a, .int (nI I.length)])), (a, .inl (cA, 120, .inl f)), (g, .inr (0, [.ref b, .int (nI (((acc.map nI) ++ [un I i]).length))])), (b, .inl (cA, 120, .inl f3))] := hD.sub [0, 1, 2, 3, 4] (by decide) rfl
              refine lv_pop hx hb dLe_readAll_52 rfl ?_
              refine lv_iinc (k := 1) (v := nI (i + 1)) (lv' := [(4, .int (nI (i + 1))), (5, .int (un I i)), (3, .int (nI (lhG I I.length))), (0, .ref oT), (1, .ref h), (2, .ref g)]) hx hb dLe_readAll_53 hl rfl (nI_1 _) (by decide) rfl (fun ls hl => ?_)
              refine lv_goto (tgt := 16) hx hb dLe_readAll_56 (by decide) ?_
              obtain ⟨ea, eb, ec⟩ := tn_of (show (0 : Int) ≤ (un I i).toInt by omega) (by decide)
              have em : acc.map nI ++ [un I i] = (acc ++ [tn (un I i)]).map nI := by rw [← map_snoc, ← ea]
              rw [em] at hP hD hf3
              exact ih_loop1 (i + 1) (acc ++ [tn (un I i)]) f3 _ _ _ (by omega) (by omega) (plG_s hpl ⟨by omega, by omega⟩) hf3 (lv_sub hl [0, 2, 3, 4, 5] rfl) hP hD hS
            · skip
              subst L3
              try simp only [List.length_append, List.length_singleton, List.length_nil, List.length_map, List.length_cons] at hlt_3
              replace hP : va_P D vwCl [(oT, .inr (3, [.int lat, .int (nI 128), .int (nI 0), .int (nI 72), .int (bI true)])), (h, .inr (0, [.ref a, .int (nI I.length)])), (a, .inl (cA, 120, .inl f)), (g, .inr (0, [.ref b, .int (nI ((acc.map nI).length))])), (b, .inl (cA, 120, .inl f3))] H := hP.sub [0, 1, 2, 3, 4] rfl
              replace hD : va_D A [(oT, .inr (3, [.int lat, .int (nI 128), .int (nI 0), .int (nI 72), .int (bI true)])), (h, .inr (0, [.ref a, .int (nI I.length)])), (a, .inl (cA, 120, .inl f)), (g, .inr (0, [.ref b, .int (nI ((acc.map nI).length))])), (b, .inl (cA, 120, .inl f3))] := hD.sub [0, 1, 2, 3, 4] (by decide) rfl
              exact absurd hlt_3 (by have := (plG_len hpl).1; omega)
          · skip
            rw [Int32.lt_iff_toInt_lt, nI_toInt (n := 128) (by omega)] at h40
            refine lv_bipush (v := (-3)) hx hb dLe_readAll_43 (by decide) ?_
            have hz1 : rlS I = (-3, none) := by unfold rlS; rw [plG_f hpl (by omega) h19]
            exact ret ((acc.map nI), gq, lat, nI 128, nI 0, nI 72, bI true) dLe_readAll_45 rfl ⟨Or.inr (Or.inr (Or.inr (Or.inl ⟨hz1, rfl⟩))), hgq, by have := (plG_len hpl).1; simp only [List.length_map]; omega⟩ hP hD hS
  exact loop1 _ 0 ([]) q _ _ _ (Nat.lt_succ_self _) (Nat.zero_le _) rfl (Hd_nil _) (lv_sub hl [0, 1, 2, 3, 4] rfl) hP hD hS
def spL (I L : List Int32) : Int32 × List Int32 := ((rlS I).1, match (rlS I).2 with
  | some M => M.map nI
  | none => L)
set_option maxHeartbeats 4000000 in
set_option maxRecDepth 100000 in
theorem k_Sc_fromLetters (l : Launch) (D : va_G) (cA : ClassId) (sz : Nat) (o oI aI oL aL oO aO oK aK oX aX oY aY o8 o6 oT : Nat) (I L O K X Y : List Int32) (fI fL fO fK fX fY : Nat → Int32) (s8 t8 s6 t6 lat lva lpl lbi lfi : Int32) (hfI : Hd fI I) (hcI : I.length ≤ 120) (hfL : Hd fL L) (hcL : L.length ≤ 120) (hfO : Hd fO O) (hcO : O.length ≤ 400) (hfK : Hd fK K) (hcK : K.length ≤ 120) (hfX : Hd fX X) (hcX : X.length ≤ 120) (hfY : Hd fY Y) (hcY : Y.length ≤ 400) : KI l D cA y_Sc_fromLetters c_Sc_fromLetters 2 .int 4 102 [.ref o] sz [(o, .inr (4, [.ref oI, .ref oL, .ref oO, .ref oK, .ref oX, .ref oY, .ref o8, .ref o6, .ref oT])), (oI, .inr (0, [.ref aI, .int (nI I.length)])), (aI, .inl (cA, 120, .inl fI)), (oL, .inr (0, [.ref aL, .int (nI L.length)])), (aL, .inl (cA, 120, .inl fL)), (oO, .inr (0, [.ref aO, .int (nI O.length)])), (aO, .inl (cA, 400, .inl fO)), (oK, .inr (0, [.ref aK, .int (nI K.length)])), (aK, .inl (cA, 120, .inl fK)), (oX, .inr (0, [.ref aX, .int (nI X.length)])), (aX, .inl (cA, 120, .inl fX)), (oY, .inr (0, [.ref aY, .int (nI Y.length)])), (aY, .inl (cA, 400, .inl fY)), (o8, .inr (1, [.int s8, .int t8])), (o6, .inr (2, [.int s6, .int t6])), (oT, .inr (3, [.int lat, .int lva, .int lpl, .int lbi, .int lfi]))] (S := List Int32 × (Nat → Int32) × List Int32 × (Nat → Int32) × Int32 × Int32 × Int32 × Int32 × Int32) (fun r u => match u with | (L2, fL2, X2, fX2, lat2, lva2, lpl2, lbi2, lfi2) => r = (spL I L).1 ∧ L2 = (spL I L).2 ∧ Hd fL2 L2 ∧ L2.length ≤ 120 ∧ Hd fX2 X2 ∧ X2.length ≤ 120) (fun u => match u with | (L2, fL2, X2, fX2, lat2, lva2, lpl2, lbi2, lfi2) => [(o, .inr (4, [.ref oI, .ref oL, .ref oO, .ref oK, .ref oX, .ref oY, .ref o8, .ref o6, .ref oT])), (oI, .inr (0, [.ref aI, .int (nI I.length)])), (aI, .inl (cA, 120, .inl fI)), (oL, .inr (0, [.ref aL, .int (nI L2.length)])), (aL, .inl (cA, 120, .inl fL2)), (oO, .inr (0, [.ref aO, .int (nI O.length)])), (aO, .inl (cA, 400, .inl fO)), (oK, .inr (0, [.ref aK, .int (nI K.length)])), (aK, .inl (cA, 120, .inl fK)), (oX, .inr (0, [.ref aX, .int (nI X2.length)])), (aX, .inl (cA, 120, .inl fX2)), (oY, .inr (0, [.ref aY, .int (nI Y.length)])), (aY, .inl (cA, 400, .inl fY)), (o8, .inr (1, [.int s8, .int t8])), (o6, .inr (2, [.int s6, .int t6])), (oT, .inr (3, [.int lat2, .int lva2, .int lpl2, .int lbi2, .int lfi2]))]) := by
  refine KI.of (by decide) (Nat.le_of_ble_eq_true rfl) ?_
  intro p e s m args below meth c Q R A ls Xf hR hA hS hP hD hK hn hl ret
  have hx := Xf.1
  have hb := Xf.2.1
  have hown : s.vm.findClass "ScalarScribe" = some m.cls := Xf.2.2.2.1
  have hw := Xf.2.2.2.2
  have hl : lv_has ls 2 [(0, .ref o)] := hl
  refine lv_aload_n hx hb dSc_fromLetters_0 rfl (lv_at hl 0 rfl) ?_
  refine va_get (D := D) (ci := 4) (v := .ref oT) (C := R_Sc) (T := T_Sc) (N := 9) hx hb hw in_Sc hown hK hP 0 rfl rfl 8 (by decide) (hw _ w_97) (fun _ h9 => h9) rfl dSc_fromLetters_1 ?_
  refine lv_aload_n hx hb dSc_fromLetters_4 rfl (lv_at hl 0 rfl) ?_
  refine va_get (D := D) (ci := 4) (v := .ref oI) (C := R_Sc) (T := T_Sc) (N := 9) hx hb hw in_Sc hown hK hP 0 rfl rfl 0 (by decide) (hw _ w_89) (fun _ h9 => h9) rfl dSc_fromLetters_5 ?_
  refine lv_aload_n hx hb dSc_fromLetters_8 rfl (lv_at hl 0 rfl) ?_
  refine va_get (D := D) (ci := 4) (v := .ref oX) (C := R_Sc) (T := T_Sc) (N := 9) hx hb hw in_Sc hown hK hP 0 rfl rfl 4 (by decide) (hw _ w_93) (fun _ h9 => h9) rfl dSc_fromLetters_9 ?_
  refine ca_i (wr := [(o, .inr (4, [.ref oI, .ref oL, .ref oO, .ref oK, .ref oX, .ref oY, .ref o8, .ref o6, .ref oT])), (oL, .inr (0, [.ref aL, .int (nI L.length)])), (aL, .inl (cA, 120, .inl fL)), (oO, .inr (0, [.ref aO, .int (nI O.length)])), (aO, .inl (cA, 400, .inl fO)), (oK, .inr (0, [.ref aK, .int (nI K.length)])), (aK, .inl (cA, 120, .inl fK)), (oY, .inr (0, [.ref aY, .int (nI Y.length)])), (aY, .inl (cA, 400, .inl fY)), (o8, .inr (1, [.int s8, .int t8])), (o6, .inr (2, [.int s6, .int t6]))]) (va_runV (As := [.ref oI, .ref oX]) (rest := []) Xf (k_Le_readAll l D cA _ oT lat lva lpl lbi lfi oI aI I fI oX aX X fX hfI hcI hfX hcX) ⟨cb_of 2 hw w_209 w_6 w_206 (by decide +kernel) (by rw [hR]; exact ⟨Nat.le_of_ble_eq_true rfl, Nat.le_of_ble_eq_true rfl⟩), hw _ w_207, hw _ w_208⟩ (pre_V (As := [.ref oI, .ref oX]) hP hD hK hn [15, 1, 2, 9, 10] rfl (by decide) 15 3 rfl rfl) rfl rfl hl.1 rfl (lv_room (Nat.le_of_ble_eq_true rfl)) dSc_fromLetters_12 ⟨Nat.zero_le _, Nat.zero_le _⟩) hP hD hS hA [15, 1, 2, 9, 10] [0, 3, 4, 5, 6, 7, 8, 11, 12, 13, 14] rfl rfl (by decide) (by decide) (fun r12 u_ H locs hq_ hP hD hS => ?_)
  obtain ⟨X_1, q_1, lat_1, lva_1, lpl_1, lbi_1, lfi_1⟩ := u_
  dsimp only at hq_ hP hD
  obtain ⟨hq_, hq_1, hcX_1⟩ := hq_
  rcases hq_ with ⟨acc, hz, rfl, rfl⟩ | ⟨hz, rfl⟩ | ⟨hz, rfl⟩ | ⟨hz, rfl⟩ | ⟨hz, rfl⟩
  · skip
    replace hP : va_P D vwCl [(o, .inr (4, [.ref oI, .ref oL, .ref oO, .ref oK, .ref oX, .ref oY, .ref o8, .ref o6, .ref oT])), (oI, .inr (0, [.ref aI, .int (nI I.length)])), (aI, .inl (cA, 120, .inl fI)), (oL, .inr (0, [.ref aL, .int (nI L.length)])), (aL, .inl (cA, 120, .inl fL)), (oO, .inr (0, [.ref aO, .int (nI O.length)])), (aO, .inl (cA, 400, .inl fO)), (oK, .inr (0, [.ref aK, .int (nI K.length)])), (aK, .inl (cA, 120, .inl fK)), (oX, .inr (0, [.ref aX, .int (nI ((acc.map nI).length))])), (aX, .inl (cA, 120, .inl q_1)), (oY, .inr (0, [.ref aY, .int (nI Y.length)])), (aY, .inl (cA, 400, .inl fY)), (o8, .inr (1, [.int s8, .int t8])), (o6, .inr (2, [.int s6, .int t6])), (oT, .inr (3, [.int lat_1, .int lva_1, .int lpl_1, .int lbi_1, .int lfi_1]))] H := hP.sub [0, 12, 13, 1, 2, 3, 4, 5, 6, 14, 15, 7, 8, 9, 10, 11] rfl
    replace hD : va_D A [(o, .inr (4, [.ref oI, .ref oL, .ref oO, .ref oK, .ref oX, .ref oY, .ref o8, .ref o6, .ref oT])), (oI, .inr (0, [.ref aI, .int (nI I.length)])), (aI, .inl (cA, 120, .inl fI)), (oL, .inr (0, [.ref aL, .int (nI L.length)])), (aL, .inl (cA, 120, .inl fL)), (oO, .inr (0, [.ref aO, .int (nI O.length)])), (aO, .inl (cA, 400, .inl fO)), (oK, .inr (0, [.ref aK, .int (nI K.length)])), (aK, .inl (cA, 120, .inl fK)), (oX, .inr (0, [.ref aX, .int (nI ((acc.map nI).length))])), (aX, .inl (cA, 120, .inl q_1)), (oY, .inr (0, [.ref aY, .int (nI Y.length)])), (aY, .inl (cA, 400, .inl fY)), (o8, .inr (1, [.int s8, .int t8])), (o6, .inr (2, [.int s6, .int t6])), (oT, .inr (3, [.int lat_1, .int lva_1, .int lpl_1, .int lbi_1, .int lfi_1]))] := hD.sub [0, 12, 13, 1, 2, 3, 4, 5, 6, 14, 15, 7, 8, 9, 10, 11] (by decide) rfl
    refine lv_istore_n (lv' := [(1, .int (nI acc.length)), (0, .ref o)]) hx hb dSc_fromLetters_15 rfl hl (by decide) rfl (fun ls hl => ?_)
    refine lv_iload_n hx hb dSc_fromLetters_16 rfl (lv_at hl 0 rfl) ?_
    refine lv_if_lt (tgt := 32) hx hb dSc_fromLetters_17 (by decide) (fun h17 => ?_) (fun h17 => ?_)
    · skip
      exact absurd h17 (nI_pos (by rw [List.length_map] at hcX_1; omega))
    · skip
      refine lv_aload_n hx hb dSc_fromLetters_20 rfl (lv_at hl 1 rfl) ?_
      refine va_get (D := D) (ci := 4) (v := .ref oL) (C := R_Sc) (T := T_Sc) (N := 9) hx hb hw in_Sc hown hK hP 0 rfl rfl 1 (by decide) (hw _ w_90) (fun _ h9 => h9) rfl dSc_fromLetters_21 ?_
      refine lv_aload_n hx hb dSc_fromLetters_24 rfl (lv_at hl 1 rfl) ?_
      refine va_get (D := D) (ci := 4) (v := .ref oX) (C := R_Sc) (T := T_Sc) (N := 9) hx hb hw in_Sc hown hK hP 0 rfl rfl 4 (by decide) (hw _ w_93) (fun _ h9 => h9) rfl dSc_fromLetters_25 ?_
      refine ca_i (wr := [(o, .inr (4, [.ref oI, .ref oL, .ref oO, .ref oK, .ref oX, .ref oY, .ref o8, .ref o6, .ref oT])), (oI, .inr (0, [.ref aI, .int (nI I.length)])), (aI, .inl (cA, 120, .inl fI)), (oO, .inr (0, [.ref aO, .int (nI O.length)])), (aO, .inl (cA, 400, .inl fO)), (oK, .inr (0, [.ref aK, .int (nI K.length)])), (aK, .inl (cA, 120, .inl fK)), (oY, .inr (0, [.ref aY, .int (nI Y.length)])), (aY, .inl (cA, 400, .inl fY)), (o8, .inr (1, [.int s8, .int t8])), (o6, .inr (2, [.int s6, .int t6])), (oT, .inr (3, [.int lat_1, .int lva_1, .int lpl_1, .int lbi_1, .int lfi_1]))]) (va_runV (As := [.ref oX]) (rest := []) Xf (k_Row_become l D cA _ oL aL 120 L fL oX aX 120 (acc.map nI) q_1 hfL hcL (by omega) hq_1 hcX_1 (by omega)) ⟨cb_of 1 hw w_194 w_2 w_191 (by decide +kernel) (by rw [hR]; exact ⟨Nat.le_of_ble_eq_true rfl, Nat.le_of_ble_eq_true rfl⟩), hw _ w_192, hw _ w_193⟩ (pre_V (As := [.ref oX]) hP hD hK hn [3, 4, 9, 10] rfl (by decide) 3 0 rfl rfl) rfl rfl hl.1 rfl (lv_room (Nat.le_of_ble_eq_true rfl)) dSc_fromLetters_28 ⟨Nat.zero_le _, Nat.zero_le _⟩) hP hD hS hA [3, 4, 9, 10] [0, 1, 2, 5, 6, 7, 8, 11, 12, 13, 14, 15] rfl rfl (by decide) (by decide) (fun r28 u_ H locs hq_ hP hD hS => ?_)
      obtain ⟨L2, f2⟩ := u_
      dsimp only at hq_ hP hD
      rcases hq_ with ⟨hlt_2, rfl, hL_, hf2⟩ | ⟨hlt_2, rfl, hL_, hf2⟩
      · skip
        subst L2
        try simp only [List.length_append, List.length_singleton, List.length_nil, List.length_map, List.length_cons] at hlt_2
        replace hP : va_P D vwCl [(o, .inr (4, [.ref oI, .ref oL, .ref oO, .ref oK, .ref oX, .ref oY, .ref o8, .ref o6, .ref oT])), (oI, .inr (0, [.ref aI, .int (nI I.length)])), (aI, .inl (cA, 120, .inl fI)), (oL, .inr (0, [.ref aL, .int (nI ((acc.map nI).length))])), (aL, .inl (cA, 120, .inl f2)), (oO, .inr (0, [.ref aO, .int (nI O.length)])), (aO, .inl (cA, 400, .inl fO)), (oK, .inr (0, [.ref aK, .int (nI K.length)])), (aK, .inl (cA, 120, .inl fK)), (oX, .inr (0, [.ref aX, .int (nI ((acc.map nI).length))])), (aX, .inl (cA, 120, .inl q_1)), (oY, .inr (0, [.ref aY, .int (nI Y.length)])), (aY, .inl (cA, 400, .inl fY)), (o8, .inr (1, [.int s8, .int t8])), (o6, .inr (2, [.int s6, .int t6])), (oT, .inr (3, [.int lat_1, .int lva_1, .int lpl_1, .int lbi_1, .int lfi_1]))] H := hP.sub [0, 1, 2, 12, 13, 3, 4, 5, 6, 14, 15, 7, 8, 9, 10, 11] rfl
        replace hD : va_D A [(o, .inr (4, [.ref oI, .ref oL, .ref oO, .ref oK, .ref oX, .ref oY, .ref o8, .ref o6, .ref oT])), (oI, .inr (0, [.ref aI, .int (nI I.length)])), (aI, .inl (cA, 120, .inl fI)), (oL, .inr (0, [.ref aL, .int (nI ((acc.map nI).length))])), (aL, .inl (cA, 120, .inl f2)), (oO, .inr (0, [.ref aO, .int (nI O.length)])), (aO, .inl (cA, 400, .inl fO)), (oK, .inr (0, [.ref aK, .int (nI K.length)])), (aK, .inl (cA, 120, .inl fK)), (oX, .inr (0, [.ref aX, .int (nI ((acc.map nI).length))])), (aX, .inl (cA, 120, .inl q_1)), (oY, .inr (0, [.ref aY, .int (nI Y.length)])), (aY, .inl (cA, 400, .inl fY)), (o8, .inr (1, [.int s8, .int t8])), (o6, .inr (2, [.int s6, .int t6])), (oT, .inr (3, [.int lat_1, .int lva_1, .int lpl_1, .int lbi_1, .int lfi_1]))] := hD.sub [0, 1, 2, 12, 13, 3, 4, 5, 6, 14, 15, 7, 8, 9, 10, 11] (by decide) rfl
        refine lv_pop hx hb dSc_fromLetters_31 rfl ?_
        refine lv_iload_n hx hb dSc_fromLetters_32 rfl (lv_at hl 0 rfl) ?_
        exact ret ((acc.map nI), f2, (acc.map nI), q_1, lat_1, lva_1, lpl_1, lbi_1, lfi_1) dSc_fromLetters_33 rfl ⟨by unfold spL; rw [hz], by unfold spL; rw [hz], hf2, hcX_1, hq_1, hcX_1⟩ hP hD hS
      · skip
        subst L2
        try simp only [List.length_append, List.length_singleton, List.length_nil, List.length_map, List.length_cons] at hlt_2
        replace hP : va_P D vwCl [(o, .inr (4, [.ref oI, .ref oL, .ref oO, .ref oK, .ref oX, .ref oY, .ref o8, .ref o6, .ref oT])), (oI, .inr (0, [.ref aI, .int (nI I.length)])), (aI, .inl (cA, 120, .inl fI)), (oL, .inr (0, [.ref aL, .int (nI L.length)])), (aL, .inl (cA, 120, .inl f2)), (oO, .inr (0, [.ref aO, .int (nI O.length)])), (aO, .inl (cA, 400, .inl fO)), (oK, .inr (0, [.ref aK, .int (nI K.length)])), (aK, .inl (cA, 120, .inl fK)), (oX, .inr (0, [.ref aX, .int (nI ((acc.map nI).length))])), (aX, .inl (cA, 120, .inl q_1)), (oY, .inr (0, [.ref aY, .int (nI Y.length)])), (aY, .inl (cA, 400, .inl fY)), (o8, .inr (1, [.int s8, .int t8])), (o6, .inr (2, [.int s6, .int t6])), (oT, .inr (3, [.int lat_1, .int lva_1, .int lpl_1, .int lbi_1, .int lfi_1]))] H := hP.sub [0, 1, 2, 12, 13, 3, 4, 5, 6, 14, 15, 7, 8, 9, 10, 11] rfl
        replace hD : va_D A [(o, .inr (4, [.ref oI, .ref oL, .ref oO, .ref oK, .ref oX, .ref oY, .ref o8, .ref o6, .ref oT])), (oI, .inr (0, [.ref aI, .int (nI I.length)])), (aI, .inl (cA, 120, .inl fI)), (oL, .inr (0, [.ref aL, .int (nI L.length)])), (aL, .inl (cA, 120, .inl f2)), (oO, .inr (0, [.ref aO, .int (nI O.length)])), (aO, .inl (cA, 400, .inl fO)), (oK, .inr (0, [.ref aK, .int (nI K.length)])), (aK, .inl (cA, 120, .inl fK)), (oX, .inr (0, [.ref aX, .int (nI ((acc.map nI).length))])), (aX, .inl (cA, 120, .inl q_1)), (oY, .inr (0, [.ref aY, .int (nI Y.length)])), (aY, .inl (cA, 400, .inl fY)), (o8, .inr (1, [.int s8, .int t8])), (o6, .inr (2, [.int s6, .int t6])), (oT, .inr (3, [.int lat_1, .int lva_1, .int lpl_1, .int lbi_1, .int lfi_1]))] := hD.sub [0, 1, 2, 12, 13, 3, 4, 5, 6, 14, 15, 7, 8, 9, 10, 11] (by decide) rfl
        exact absurd hlt_2 (by rw [List.length_map] at hcX_1; omega)
  · skip
    replace hP : va_P D vwCl [(o, .inr (4, [.ref oI, .ref oL, .ref oO, .ref oK, .ref oX, .ref oY, .ref o8, .ref o6, .ref oT])), (oI, .inr (0, [.ref aI, .int (nI I.length)])), (aI, .inl (cA, 120, .inl fI)), (oL, .inr (0, [.ref aL, .int (nI L.length)])), (aL, .inl (cA, 120, .inl fL)), (oO, .inr (0, [.ref aO, .int (nI O.length)])), (aO, .inl (cA, 400, .inl fO)), (oK, .inr (0, [.ref aK, .int (nI K.length)])), (aK, .inl (cA, 120, .inl fK)), (oX, .inr (0, [.ref aX, .int (nI X_1.length)])), (aX, .inl (cA, 120, .inl q_1)), (oY, .inr (0, [.ref aY, .int (nI Y.length)])), (aY, .inl (cA, 400, .inl fY)), (o8, .inr (1, [.int s8, .int t8])), (o6, .inr (2, [.int s6, .int t6])), (oT, .inr (3, [.int lat_1, .int lva_1, .int lpl_1, .int lbi_1, .int lfi_1]))] H := hP.sub [0, 12, 13, 1, 2, 3, 4, 5, 6, 14, 15, 7, 8, 9, 10, 11] rfl
    replace hD : va_D A [(o, .inr (4, [.ref oI, .ref oL, .ref oO, .ref oK, .ref oX, .ref oY, .ref o8, .ref o6, .ref oT])), (oI, .inr (0, [.ref aI, .int (nI I.length)])), (aI, .inl (cA, 120, .inl fI)), (oL, .inr (0, [.ref aL, .int (nI L.length)])), (aL, .inl (cA, 120, .inl fL)), (oO, .inr (0, [.ref aO, .int (nI O.length)])), (aO, .inl (cA, 400, .inl fO)), (oK, .inr (0, [.ref aK, .int (nI K.length)])), (aK, .inl (cA, 120, .inl fK)), (oX, .inr (0, [.ref aX, .int (nI X_1.length)])), (aX, .inl (cA, 120, .inl q_1)), (oY, .inr (0, [.ref aY, .int (nI Y.length)])), (aY, .inl (cA, 400, .inl fY)), (o8, .inr (1, [.int s8, .int t8])), (o6, .inr (2, [.int s6, .int t6])), (oT, .inr (3, [.int lat_1, .int lva_1, .int lpl_1, .int lbi_1, .int lfi_1]))] := hD.sub [0, 12, 13, 1, 2, 3, 4, 5, 6, 14, 15, 7, 8, 9, 10, 11] (by decide) rfl
    refine lv_istore_n (lv' := [(1, .int (-1)), (0, .ref o)]) hx hb dSc_fromLetters_15 rfl hl (by decide) rfl (fun ls hl => ?_)
    refine lv_iload_n hx hb dSc_fromLetters_16 rfl (lv_at hl 0 rfl) ?_
    refine lv_if_lt (tgt := 32) hx hb dSc_fromLetters_17 (by decide) (fun h17 => ?_) (fun h17 => ?_)
    · skip
      refine lv_iload_n hx hb dSc_fromLetters_32 rfl (lv_at hl 0 rfl) ?_
      exact ret (L, fL, X_1, q_1, lat_1, lva_1, lpl_1, lbi_1, lfi_1) dSc_fromLetters_33 rfl ⟨by unfold spL; rw [hz], by unfold spL; rw [hz], hfL, hcL, hq_1, hcX_1⟩ hP hD hS
    · skip
      exact absurd h17 (by decide)
  · skip
    replace hP : va_P D vwCl [(o, .inr (4, [.ref oI, .ref oL, .ref oO, .ref oK, .ref oX, .ref oY, .ref o8, .ref o6, .ref oT])), (oI, .inr (0, [.ref aI, .int (nI I.length)])), (aI, .inl (cA, 120, .inl fI)), (oL, .inr (0, [.ref aL, .int (nI L.length)])), (aL, .inl (cA, 120, .inl fL)), (oO, .inr (0, [.ref aO, .int (nI O.length)])), (aO, .inl (cA, 400, .inl fO)), (oK, .inr (0, [.ref aK, .int (nI K.length)])), (aK, .inl (cA, 120, .inl fK)), (oX, .inr (0, [.ref aX, .int (nI X_1.length)])), (aX, .inl (cA, 120, .inl q_1)), (oY, .inr (0, [.ref aY, .int (nI Y.length)])), (aY, .inl (cA, 400, .inl fY)), (o8, .inr (1, [.int s8, .int t8])), (o6, .inr (2, [.int s6, .int t6])), (oT, .inr (3, [.int lat_1, .int lva_1, .int lpl_1, .int lbi_1, .int lfi_1]))] H := hP.sub [0, 12, 13, 1, 2, 3, 4, 5, 6, 14, 15, 7, 8, 9, 10, 11] rfl
    replace hD : va_D A [(o, .inr (4, [.ref oI, .ref oL, .ref oO, .ref oK, .ref oX, .ref oY, .ref o8, .ref o6, .ref oT])), (oI, .inr (0, [.ref aI, .int (nI I.length)])), (aI, .inl (cA, 120, .inl fI)), (oL, .inr (0, [.ref aL, .int (nI L.length)])), (aL, .inl (cA, 120, .inl fL)), (oO, .inr (0, [.ref aO, .int (nI O.length)])), (aO, .inl (cA, 400, .inl fO)), (oK, .inr (0, [.ref aK, .int (nI K.length)])), (aK, .inl (cA, 120, .inl fK)), (oX, .inr (0, [.ref aX, .int (nI X_1.length)])), (aX, .inl (cA, 120, .inl q_1)), (oY, .inr (0, [.ref aY, .int (nI Y.length)])), (aY, .inl (cA, 400, .inl fY)), (o8, .inr (1, [.int s8, .int t8])), (o6, .inr (2, [.int s6, .int t6])), (oT, .inr (3, [.int lat_1, .int lva_1, .int lpl_1, .int lbi_1, .int lfi_1]))] := hD.sub [0, 12, 13, 1, 2, 3, 4, 5, 6, 14, 15, 7, 8, 9, 10, 11] (by decide) rfl
    refine lv_istore_n (lv' := [(1, .int (-2)), (0, .ref o)]) hx hb dSc_fromLetters_15 rfl hl (by decide) rfl (fun ls hl => ?_)
    refine lv_iload_n hx hb dSc_fromLetters_16 rfl (lv_at hl 0 rfl) ?_
    refine lv_if_lt (tgt := 32) hx hb dSc_fromLetters_17 (by decide) (fun h17 => ?_) (fun h17 => ?_)
    · skip
      refine lv_iload_n hx hb dSc_fromLetters_32 rfl (lv_at hl 0 rfl) ?_
      exact ret (L, fL, X_1, q_1, lat_1, lva_1, lpl_1, lbi_1, lfi_1) dSc_fromLetters_33 rfl ⟨by unfold spL; rw [hz], by unfold spL; rw [hz], hfL, hcL, hq_1, hcX_1⟩ hP hD hS
    · skip
      exact absurd h17 (by decide)
  · skip
    replace hP : va_P D vwCl [(o, .inr (4, [.ref oI, .ref oL, .ref oO, .ref oK, .ref oX, .ref oY, .ref o8, .ref o6, .ref oT])), (oI, .inr (0, [.ref aI, .int (nI I.length)])), (aI, .inl (cA, 120, .inl fI)), (oL, .inr (0, [.ref aL, .int (nI L.length)])), (aL, .inl (cA, 120, .inl fL)), (oO, .inr (0, [.ref aO, .int (nI O.length)])), (aO, .inl (cA, 400, .inl fO)), (oK, .inr (0, [.ref aK, .int (nI K.length)])), (aK, .inl (cA, 120, .inl fK)), (oX, .inr (0, [.ref aX, .int (nI X_1.length)])), (aX, .inl (cA, 120, .inl q_1)), (oY, .inr (0, [.ref aY, .int (nI Y.length)])), (aY, .inl (cA, 400, .inl fY)), (o8, .inr (1, [.int s8, .int t8])), (o6, .inr (2, [.int s6, .int t6])), (oT, .inr (3, [.int lat_1, .int lva_1, .int lpl_1, .int lbi_1, .int lfi_1]))] H := hP.sub [0, 12, 13, 1, 2, 3, 4, 5, 6, 14, 15, 7, 8, 9, 10, 11] rfl
    replace hD : va_D A [(o, .inr (4, [.ref oI, .ref oL, .ref oO, .ref oK, .ref oX, .ref oY, .ref o8, .ref o6, .ref oT])), (oI, .inr (0, [.ref aI, .int (nI I.length)])), (aI, .inl (cA, 120, .inl fI)), (oL, .inr (0, [.ref aL, .int (nI L.length)])), (aL, .inl (cA, 120, .inl fL)), (oO, .inr (0, [.ref aO, .int (nI O.length)])), (aO, .inl (cA, 400, .inl fO)), (oK, .inr (0, [.ref aK, .int (nI K.length)])), (aK, .inl (cA, 120, .inl fK)), (oX, .inr (0, [.ref aX, .int (nI X_1.length)])), (aX, .inl (cA, 120, .inl q_1)), (oY, .inr (0, [.ref aY, .int (nI Y.length)])), (aY, .inl (cA, 400, .inl fY)), (o8, .inr (1, [.int s8, .int t8])), (o6, .inr (2, [.int s6, .int t6])), (oT, .inr (3, [.int lat_1, .int lva_1, .int lpl_1, .int lbi_1, .int lfi_1]))] := hD.sub [0, 12, 13, 1, 2, 3, 4, 5, 6, 14, 15, 7, 8, 9, 10, 11] (by decide) rfl
    refine lv_istore_n (lv' := [(1, .int (-3)), (0, .ref o)]) hx hb dSc_fromLetters_15 rfl hl (by decide) rfl (fun ls hl => ?_)
    refine lv_iload_n hx hb dSc_fromLetters_16 rfl (lv_at hl 0 rfl) ?_
    refine lv_if_lt (tgt := 32) hx hb dSc_fromLetters_17 (by decide) (fun h17 => ?_) (fun h17 => ?_)
    · skip
      refine lv_iload_n hx hb dSc_fromLetters_32 rfl (lv_at hl 0 rfl) ?_
      exact ret (L, fL, X_1, q_1, lat_1, lva_1, lpl_1, lbi_1, lfi_1) dSc_fromLetters_33 rfl ⟨by unfold spL; rw [hz], by unfold spL; rw [hz], hfL, hcL, hq_1, hcX_1⟩ hP hD hS
    · skip
      exact absurd h17 (by decide)
  · skip
    replace hP : va_P D vwCl [(o, .inr (4, [.ref oI, .ref oL, .ref oO, .ref oK, .ref oX, .ref oY, .ref o8, .ref o6, .ref oT])), (oI, .inr (0, [.ref aI, .int (nI I.length)])), (aI, .inl (cA, 120, .inl fI)), (oL, .inr (0, [.ref aL, .int (nI L.length)])), (aL, .inl (cA, 120, .inl fL)), (oO, .inr (0, [.ref aO, .int (nI O.length)])), (aO, .inl (cA, 400, .inl fO)), (oK, .inr (0, [.ref aK, .int (nI K.length)])), (aK, .inl (cA, 120, .inl fK)), (oX, .inr (0, [.ref aX, .int (nI X_1.length)])), (aX, .inl (cA, 120, .inl q_1)), (oY, .inr (0, [.ref aY, .int (nI Y.length)])), (aY, .inl (cA, 400, .inl fY)), (o8, .inr (1, [.int s8, .int t8])), (o6, .inr (2, [.int s6, .int t6])), (oT, .inr (3, [.int lat_1, .int lva_1, .int lpl_1, .int lbi_1, .int lfi_1]))] H := hP.sub [0, 12, 13, 1, 2, 3, 4, 5, 6, 14, 15, 7, 8, 9, 10, 11] rfl
    replace hD : va_D A [(o, .inr (4, [.ref oI, .ref oL, .ref oO, .ref oK, .ref oX, .ref oY, .ref o8, .ref o6, .ref oT])), (oI, .inr (0, [.ref aI, .int (nI I.length)])), (aI, .inl (cA, 120, .inl fI)), (oL, .inr (0, [.ref aL, .int (nI L.length)])), (aL, .inl (cA, 120, .inl fL)), (oO, .inr (0, [.ref aO, .int (nI O.length)])), (aO, .inl (cA, 400, .inl fO)), (oK, .inr (0, [.ref aK, .int (nI K.length)])), (aK, .inl (cA, 120, .inl fK)), (oX, .inr (0, [.ref aX, .int (nI X_1.length)])), (aX, .inl (cA, 120, .inl q_1)), (oY, .inr (0, [.ref aY, .int (nI Y.length)])), (aY, .inl (cA, 400, .inl fY)), (o8, .inr (1, [.int s8, .int t8])), (o6, .inr (2, [.int s6, .int t6])), (oT, .inr (3, [.int lat_1, .int lva_1, .int lpl_1, .int lbi_1, .int lfi_1]))] := hD.sub [0, 12, 13, 1, 2, 3, 4, 5, 6, 14, 15, 7, 8, 9, 10, 11] (by decide) rfl
    refine lv_istore_n (lv' := [(1, .int (-4)), (0, .ref o)]) hx hb dSc_fromLetters_15 rfl hl (by decide) rfl (fun ls hl => ?_)
    refine lv_iload_n hx hb dSc_fromLetters_16 rfl (lv_at hl 0 rfl) ?_
    refine lv_if_lt (tgt := 32) hx hb dSc_fromLetters_17 (by decide) (fun h17 => ?_) (fun h17 => ?_)
    · skip
      refine lv_iload_n hx hb dSc_fromLetters_32 rfl (lv_at hl 0 rfl) ?_
      exact ret (L, fL, X_1, q_1, lat_1, lva_1, lpl_1, lbi_1, lfi_1) dSc_fromLetters_33 rfl ⟨by unfold spL; rw [hz], by unfold spL; rw [hz], hfL, hcL, hq_1, hcX_1⟩ hP hD hS
    · skip
      exact absurd h17 (by decide)
