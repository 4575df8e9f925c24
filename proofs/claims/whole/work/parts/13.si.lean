set_option maxHeartbeats 4000000 in
set_option maxRecDepth 100000 in
theorem k_Ei_writeFurther (l : Launch) (D : va_G) (cA : ClassId) (sz : Nat) (h a N : Nat) (L : List Int32) (f : Nat → Int32) (v : Nat) (hf : Hd f L) (hc : L.length ≤ N) (hN : N < 2 ^ 31) (hv : v < 2 ^ 31) : KI l D cA y_Ei_writeFurther c_Ei_writeFurther 2 .boolean 2 44 [.int (nI v), .ref h] sz [(h, .inr (0, [.ref a, .int (nI L.length)])), (a, .inl (cA, N, .inl f))] (S := List Int32 × (Nat → Int32)) (fun r u => (L.length < N ∧ r = 1 ∧ u.1 = L ++ [nI (128 + v % 64)] ∧ Hd u.2 u.1) ∨ (N ≤ L.length ∧ r = 0 ∧ u.1 = L ∧ Hd u.2 u.1)) (fun u => [(h, .inr (0, [.ref a, .int (nI u.1.length)])), (a, .inl (cA, N, .inl u.2))]) := by
  refine KI.of (by decide) (Nat.le_of_ble_eq_true rfl) ?_
  intro p e s m args below meth c Q R A ls Xf hR hA hS hP hD hK hn hl ret
  have hx := Xf.1
  have hb := Xf.2.1
  have hown : s.vm.findClass "ScalarScribe$Eights" = some m.cls := Xf.2.2.2.1
  have hw := Xf.2.2.2.2
  have hl : lv_has ls 2 [(0, .int (nI v)), (1, .ref h)] := hl
  refine lv_aload_n hx hb dEi_writeFurther_0 rfl (lv_at hl 1 rfl) ?_
  refine lv_sipush (v := nI 128) hx hb dEi_writeFurther_1 (by decide) ?_
  refine lv_iload_n hx hb dEi_writeFurther_4 rfl (lv_at hl 0 rfl) ?_
  refine lv_bipush (v := nI 64) hx hb dEi_writeFurther_5 (by decide) ?_
  refine lv_irem hx hb dEi_writeFurther_7 (by decide) ?_
  refine lv_rei (y := nI (v % 64)) (pk_rem (by omega) (by omega) (by omega)) ?_
  refine lv_iadd hx hb dEi_writeFurther_8 ?_
  refine lv_rei (y := nI (128 + (v % 64))) (nI_add _ _) ?_
  refine ca_i (wr := []) (va_runV (As := [.int (nI (128 + (v % 64)))]) (rest := []) Xf (k_Row_add l D cA _ h a N L f (nI (128 + (v % 64))) hf hc hN) ⟨cb_of 1 hw w_124 w_2 w_272 (by decide +kernel) (by rw [hR]; exact ⟨Nat.le_of_ble_eq_true rfl, Nat.le_of_ble_eq_true rfl⟩), hw _ w_122, hw _ w_123⟩ (pre_V (As := [.int (nI (128 + (v % 64)))]) hP hD hK hn [0, 1] rfl (by decide) 0 0 rfl rfl) rfl rfl hl.1 rfl (lv_room (Nat.le_of_ble_eq_true rfl)) dEi_writeFurther_9 ⟨Nat.zero_le _, Nat.zero_le _⟩) hP hD hS hA [0, 1] [] rfl rfl (by decide) (by decide) (fun r9 u_ H locs hq_ hP hD hS => ?_)
  obtain ⟨L1, f1⟩ := u_
  dsimp only at hq_ hP hD
  rcases hq_ with ⟨hlt_1, rfl, hL_, hf1⟩ | ⟨hlt_1, rfl, hL_, hf1⟩
  · skip
    subst L1
    try simp only [List.length_append, List.length_singleton, List.length_nil, List.length_map, List.length_cons] at hlt_1
    replace hP : va_P D vwCl [(h, .inr (0, [.ref a, .int (nI ((L ++ [nI (128 + (v % 64))]).length))])), (a, .inl (cA, N, .inl f1))] H := hP.sub [0, 1] rfl
    replace hD : va_D A [(h, .inr (0, [.ref a, .int (nI ((L ++ [nI (128 + (v % 64))]).length))])), (a, .inl (cA, N, .inl f1))] := hD.sub [0, 1] (by decide) rfl
    exact ret ((L ++ [nI (128 + (v % 64))]), f1) dEi_writeFurther_12 rfl (Or.inl ⟨by assumption, rfl, rfl, hf1⟩) hP hD hS
  · skip
    subst L1
    try simp only [List.length_append, List.length_singleton, List.length_nil, List.length_map, List.length_cons] at hlt_1
    replace hP : va_P D vwCl [(h, .inr (0, [.ref a, .int (nI L.length)])), (a, .inl (cA, N, .inl f1))] H := hP.sub [0, 1] rfl
    replace hD : va_D A [(h, .inr (0, [.ref a, .int (nI L.length)])), (a, .inl (cA, N, .inl f1))] := hD.sub [0, 1] (by decide) rfl
    exact ret (L, f1) dEi_writeFurther_12 rfl (Or.inr ⟨by assumption, rfl, rfl, hf1⟩) hP hD hS
set_option maxHeartbeats 4000000 in
set_option maxRecDepth 100000 in
theorem k_Ei_writeOne (l : Launch) (D : va_G) (cA : ClassId) (sz : Nat) (h8 : Nat) (sc tk : Int32) (h a N : Nat) (L : List Int32) (f : Nat → Int32) (v : Nat) (hf : Hd f L) (hc : L.length ≤ N) (hN : N < 2 ^ 31) (hv : v < 2 ^ 30) : KI l D cA y_Ei_writeOne c_Ei_writeOne 3 .boolean 3 65 [.ref h8, .int (nI v), .ref h] sz [(h8, .inr (1, [.int sc, .int tk])), (h, .inr (0, [.ref a, .int (nI L.length)])), (a, .inl (cA, N, .inl f))] (S := List Int32 × (Nat → Int32)) (fun r u => (L.length + (en8 v).length ≤ N ∧ r = 1 ∧ u.1 = L ++ (en8 v).map nI ∧ Hd u.2 u.1) ∨ (N < L.length + (en8 v).length ∧ r = 0 ∧ u.1.length ≤ N ∧ Hd u.2 u.1)) (fun u => [(h8, .inr (1, [.int sc, .int tk])), (h, .inr (0, [.ref a, .int (nI u.1.length)])), (a, .inl (cA, N, .inl u.2))]) := by
  refine KI.of (by decide) (Nat.le_of_ble_eq_true rfl) ?_
  intro p e s m args below meth c Q R A ls Xf hR hA hS hP hD hK hn hl ret
  have hx := Xf.1
  have hb := Xf.2.1
  have hown : s.vm.findClass "ScalarScribe$Eights" = some m.cls := Xf.2.2.2.1
  have hw := Xf.2.2.2.2
  have hl : lv_has ls 3 [(0, .ref h8), (1, .int (nI v)), (2, .ref h)] := hl
  refine lv_iload_n hx hb dEi_writeOne_0 rfl (lv_at hl 1 rfl) ?_
  refine lv_sipush (v := nI 128) hx hb dEi_writeOne_1 (by decide) ?_
  refine lv_icmp_ge (tgt := 13) hx hb dEi_writeOne_4 (by decide) (fun h4 => ?_) (fun h4 => ?_)
  · skip
    replace h4 := nt_le (a := 128) (b := v) (by omega) (by omega) h4
    refine lv_iload_n hx hb dEi_writeOne_13 rfl (lv_at hl 1 rfl) ?_
    refine lv_sipush (v := nI 2048) hx hb dEi_writeOne_14 (by decide) ?_
    refine lv_icmp_ge (tgt := 49) hx hb dEi_writeOne_17 (by decide) (fun h17 => ?_) (fun h17 => ?_)
    · skip
      replace h17 := nt_le (a := 2048) (b := v) (by omega) (by omega) h17
      refine lv_iload_n hx hb dEi_writeOne_49 rfl (lv_at hl 1 rfl) ?_
      refine lv_ldc (v := nI 65536) hx hb hown (hw _ w_276) dEi_writeOne_50 ?_
      refine lv_icmp_ge (tgt := 96) hx hb dEi_writeOne_52 (by decide) (fun h52 => ?_) (fun h52 => ?_)
      · skip
        replace h52 := nt_le (a := 65536) (b := v) (by omega) (by omega) h52
        refine lv_aload_n hx hb dEi_writeOne_96 rfl (lv_at hl 2 rfl) ?_
        refine lv_sipush (v := nI 240) hx hb dEi_writeOne_97 (by decide) ?_
        refine lv_iload_n hx hb dEi_writeOne_100 rfl (lv_at hl 1 rfl) ?_
        refine lv_ldc (v := nI 262144) hx hb hown (hw _ w_277) dEi_writeOne_101 ?_
        refine lv_idiv hx hb dEi_writeOne_103 (by decide) ?_
        refine lv_rei (y := nI (v / 262144)) (pk_div (by omega) (by omega) (by omega)) ?_
        refine lv_iadd hx hb dEi_writeOne_104 ?_
        refine lv_rei (y := nI (240 + (v / 262144))) (nI_add _ _) ?_
        refine ca_i (wr := [(h8, .inr (1, [.int sc, .int tk]))]) (va_runV (As := [.int (nI (240 + (v / 262144)))]) (rest := []) Xf (k_Row_add l D cA _ h a N L f (nI (240 + (v / 262144))) hf hc hN) ⟨cb_of 1 hw w_124 w_2 w_272 (by decide +kernel) (by rw [hR]; exact ⟨Nat.le_of_ble_eq_true rfl, Nat.le_of_ble_eq_true rfl⟩), hw _ w_122, hw _ w_123⟩ (pre_V (As := [.int (nI (240 + (v / 262144)))]) hP hD hK hn [1, 2] rfl (by decide) 1 0 rfl rfl) rfl rfl hl.1 rfl (lv_room (Nat.le_of_ble_eq_true rfl)) dEi_writeOne_105 ⟨Nat.zero_le _, Nat.zero_le _⟩) hP hD hS hA [1, 2] [0] rfl rfl (by decide) (by decide) (fun r105 u_ H locs hq_ hP hD hS => ?_)
        obtain ⟨L1, f1⟩ := u_
        dsimp only at hq_ hP hD
        rcases hq_ with ⟨hlt_1, rfl, hL_, hf1⟩ | ⟨hlt_1, rfl, hL_, hf1⟩
        · skip
          subst L1
          try simp only [List.length_append, List.length_singleton, List.length_nil, List.length_map, List.length_cons] at hlt_1
          replace hP : va_P D vwCl [(h8, .inr (1, [.int sc, .int tk])), (h, .inr (0, [.ref a, .int (nI ((L ++ [nI (240 + (v / 262144))]).length))])), (a, .inl (cA, N, .inl f1))] H := hP.sub [0, 1, 2] rfl
          replace hD : va_D A [(h8, .inr (1, [.int sc, .int tk])), (h, .inr (0, [.ref a, .int (nI ((L ++ [nI (240 + (v / 262144))]).length))])), (a, .inl (cA, N, .inl f1))] := hD.sub [0, 1, 2] (by decide) rfl
          refine lv_if_eq (tgt := 146) hx hb dEi_writeOne_108 (by decide) (fun h108 => ?_) (fun h108 => ?_)
          · skip
            exact absurd h108 (by decide)
          · skip
            refine lv_iload_n hx hb dEi_writeOne_111 rfl (lv_at hl 1 rfl) ?_
            refine lv_sipush (v := nI 4096) hx hb dEi_writeOne_112 (by decide) ?_
            refine lv_idiv hx hb dEi_writeOne_115 (by decide) ?_
            refine lv_rei (y := nI (v / 4096)) (pk_div (by omega) (by omega) (by omega)) ?_
            refine lv_aload_n hx hb dEi_writeOne_116 rfl (lv_at hl 2 rfl) ?_
            refine ca_i (wr := [(h8, .inr (1, [.int sc, .int tk]))]) (va_runS (As := [.int (nI (v / 4096)), .ref h]) (rest := []) Xf (k_Ei_writeFurther l D cA _ h a N (L ++ [nI (240 + (v / 262144))]) f1 (v / 4096) hf1 (by first | omega | (simp only [List.length_append, List.length_singleton, List.length_nil, List.length_map, List.length_cons]; omega)) hN (by omega)) ⟨cb_of 2 hw w_275 w_4 w_273 (by decide +kernel) (by rw [hR]; exact ⟨Nat.le_of_ble_eq_true rfl, Nat.le_of_ble_eq_true rfl⟩), hw _ w_274⟩ (pre_S hP hD hK hn [1, 2] rfl (by decide)) rfl rfl hl.1 rfl (lv_room (Nat.le_of_ble_eq_true rfl)) dEi_writeOne_117 ⟨Nat.zero_le _, Nat.zero_le _⟩) hP hD hS hA [1, 2] [0] rfl rfl (by decide) (by decide) (fun r117 u_ H locs hq_ hP hD hS => ?_)
            obtain ⟨L2, f2⟩ := u_
            dsimp only at hq_ hP hD
            rcases hq_ with ⟨hlt_2, rfl, hL_, hf2⟩ | ⟨hlt_2, rfl, hL_, hf2⟩
            · skip
              subst L2
              try simp only [List.length_append, List.length_singleton, List.length_nil, List.length_map, List.length_cons] at hlt_2
              replace hP : va_P D vwCl [(h8, .inr (1, [.int sc, .int tk])), (h, .inr (0, [.ref a, .int (nI (((L ++ [nI (240 + (v / 262144))]) ++ [nI (128 + (v / 4096) % 64)]).length))])), (a, .inl (cA, N, .inl f2))] H := hP.sub [0, 1, 2] rfl
              replace hD : va_D A [(h8, .inr (1, [.int sc, .int tk])), (h, .inr (0, [.ref a, .int (nI (((L ++ [nI (240 + (v / 262144))]) ++ [nI (128 + (v / 4096) % 64)]).length))])), (a, .inl (cA, N, .inl f2))] := hD.sub [0, 1, 2] (by decide) rfl
              refine lv_if_eq (tgt := 146) hx hb dEi_writeOne_120 (by decide) (fun h120 => ?_) (fun h120 => ?_)
              · skip
                exact absurd h120 (by decide)
              · skip
                refine lv_iload_n hx hb dEi_writeOne_123 rfl (lv_at hl 1 rfl) ?_
                refine lv_bipush (v := nI 64) hx hb dEi_writeOne_124 (by decide) ?_
                refine lv_idiv hx hb dEi_writeOne_126 (by decide) ?_
                refine lv_rei (y := nI (v / 64)) (pk_div (by omega) (by omega) (by omega)) ?_
                refine lv_aload_n hx hb dEi_writeOne_127 rfl (lv_at hl 2 rfl) ?_
                refine ca_i (wr := [(h8, .inr (1, [.int sc, .int tk]))]) (va_runS (As := [.int (nI (v / 64)), .ref h]) (rest := []) Xf (k_Ei_writeFurther l D cA _ h a N ((L ++ [nI (240 + (v / 262144))]) ++ [nI (128 + (v / 4096) % 64)]) f2 (v / 64) hf2 (by first | omega | (simp only [List.length_append, List.length_singleton, List.length_nil, List.length_map, List.length_cons]; omega)) hN (by omega)) ⟨cb_of 2 hw w_275 w_4 w_273 (by decide +kernel) (by rw [hR]; exact ⟨Nat.le_of_ble_eq_true rfl, Nat.le_of_ble_eq_true rfl⟩), hw _ w_274⟩ (pre_S hP hD hK hn [1, 2] rfl (by decide)) rfl rfl hl.1 rfl (lv_room (Nat.le_of_ble_eq_true rfl)) dEi_writeOne_128 ⟨Nat.zero_le _, Nat.zero_le _⟩) hP hD hS hA [1, 2] [0] rfl rfl (by decide) (by decide) (fun r128 u_ H locs hq_ hP hD hS => ?_)
                obtain ⟨L3, f3⟩ := u_
                dsimp only at hq_ hP hD
                rcases hq_ with ⟨hlt_3, rfl, hL_, hf3⟩ | ⟨hlt_3, rfl, hL_, hf3⟩
                · skip
                  subst L3
                  try simp only [List.length_append, List.length_singleton, List.length_nil, List.length_map, List.length_cons] at hlt_3
                  replace hP : va_P D vwCl [(h8, .inr (1, [.int sc, .int tk])), (h, .inr (0, [.ref a, .int (nI ((((L ++ [nI (240 + (v / 262144))]) ++ [nI (128 + (v / 4096) % 64)]) ++ [nI (128 + (v / 64) % 64)]).length))])), (a, .inl (cA, N, .inl f3))] H := hP.sub [0, 1, 2] rfl
                  replace hD : va_D A [(h8, .inr (1, [.int sc, .int tk])), (h, .inr (0, [.ref a, .int (nI ((((L ++ [nI (240 + (v / 262144))]) ++ [nI (128 + (v / 4096) % 64)]) ++ [nI (128 + (v / 64) % 64)]).length))])), (a, .inl (cA, N, .inl f3))] := hD.sub [0, 1, 2] (by decide) rfl
                  refine lv_if_eq (tgt := 146) hx hb dEi_writeOne_131 (by decide) (fun h131 => ?_) (fun h131 => ?_)
                  · skip
                    exact absurd h131 (by decide)
                  · skip
                    refine lv_iload_n hx hb dEi_writeOne_134 rfl (lv_at hl 1 rfl) ?_
                    refine lv_aload_n hx hb dEi_writeOne_135 rfl (lv_at hl 2 rfl) ?_
                    refine ca_i (wr := [(h8, .inr (1, [.int sc, .int tk]))]) (va_runS (As := [.int (nI v), .ref h]) (rest := []) Xf (k_Ei_writeFurther l D cA _ h a N (((L ++ [nI (240 + (v / 262144))]) ++ [nI (128 + (v / 4096) % 64)]) ++ [nI (128 + (v / 64) % 64)]) f3 v hf3 (by first | omega | (simp only [List.length_append, List.length_singleton, List.length_nil, List.length_map, List.length_cons]; omega)) hN (by omega)) ⟨cb_of 2 hw w_275 w_4 w_273 (by decide +kernel) (by rw [hR]; exact ⟨Nat.le_of_ble_eq_true rfl, Nat.le_of_ble_eq_true rfl⟩), hw _ w_274⟩ (pre_S hP hD hK hn [1, 2] rfl (by decide)) rfl rfl hl.1 rfl (lv_room (Nat.le_of_ble_eq_true rfl)) dEi_writeOne_136 ⟨Nat.zero_le _, Nat.zero_le _⟩) hP hD hS hA [1, 2] [0] rfl rfl (by decide) (by decide) (fun r136 u_ H locs hq_ hP hD hS => ?_)
                    obtain ⟨L4, f4⟩ := u_
                    dsimp only at hq_ hP hD
                    rcases hq_ with ⟨hlt_4, rfl, hL_, hf4⟩ | ⟨hlt_4, rfl, hL_, hf4⟩
                    · skip
                      subst L4
                      try simp only [List.length_append, List.length_singleton, List.length_nil, List.length_map, List.length_cons] at hlt_4
                      replace hP : va_P D vwCl [(h8, .inr (1, [.int sc, .int tk])), (h, .inr (0, [.ref a, .int (nI (((((L ++ [nI (240 + (v / 262144))]) ++ [nI (128 + (v / 4096) % 64)]) ++ [nI (128 + (v / 64) % 64)]) ++ [nI (128 + v % 64)]).length))])), (a, .inl (cA, N, .inl f4))] H := hP.sub [0, 1, 2] rfl
                      replace hD : va_D A [(h8, .inr (1, [.int sc, .int tk])), (h, .inr (0, [.ref a, .int (nI (((((L ++ [nI (240 + (v / 262144))]) ++ [nI (128 + (v / 4096) % 64)]) ++ [nI (128 + (v / 64) % 64)]) ++ [nI (128 + v % 64)]).length))])), (a, .inl (cA, N, .inl f4))] := hD.sub [0, 1, 2] (by decide) rfl
                      refine lv_if_eq (tgt := 146) hx hb dEi_writeOne_139 (by decide) (fun h139 => ?_) (fun h139 => ?_)
                      · skip
                        exact absurd h139 (by decide)
                      · skip
                        refine lv_iconst (v := nI 1) hx hb dEi_writeOne_142 (by decide) ?_
                        refine lv_goto (tgt := 147) hx hb dEi_writeOne_143 (by decide) ?_
                        exact ret (((((L ++ [nI (240 + (v / 262144))]) ++ [nI (128 + (v / 4096) % 64)]) ++ [nI (128 + (v / 64) % 64)]) ++ [nI (128 + v % 64)]), f4) dEi_writeOne_147 rfl (Or.inl ⟨by rw [en8_4 h52]; simp only [List.length_append, List.length_singleton, List.length_nil, List.length_map, List.length_cons]; omega, rfl, by rw [en8_4 h52]; simp, hf4⟩) hP hD hS
                    · skip
                      subst L4
                      try simp only [List.length_append, List.length_singleton, List.length_nil, List.length_map, List.length_cons] at hlt_4
                      replace hP : va_P D vwCl [(h8, .inr (1, [.int sc, .int tk])), (h, .inr (0, [.ref a, .int (nI ((((L ++ [nI (240 + (v / 262144))]) ++ [nI (128 + (v / 4096) % 64)]) ++ [nI (128 + (v / 64) % 64)]).length))])), (a, .inl (cA, N, .inl f4))] H := hP.sub [0, 1, 2] rfl
                      replace hD : va_D A [(h8, .inr (1, [.int sc, .int tk])), (h, .inr (0, [.ref a, .int (nI ((((L ++ [nI (240 + (v / 262144))]) ++ [nI (128 + (v / 4096) % 64)]) ++ [nI (128 + (v / 64) % 64)]).length))])), (a, .inl (cA, N, .inl f4))] := hD.sub [0, 1, 2] (by decide) rfl
                      refine lv_if_eq (tgt := 146) hx hb dEi_writeOne_139 (by decide) (fun h139 => ?_) (fun h139 => ?_)
                      · skip
                        refine lv_iconst (v := nI 0) hx hb dEi_writeOne_146 (by decide) ?_
                        exact ret ((((L ++ [nI (240 + (v / 262144))]) ++ [nI (128 + (v / 4096) % 64)]) ++ [nI (128 + (v / 64) % 64)]), f4) dEi_writeOne_147 rfl (Or.inr ⟨by rw [en8_4 h52]; simp only [List.length_append, List.length_singleton, List.length_nil, List.length_map, List.length_cons]; omega, rfl, by dsimp only; exact (by first | omega | (simp only [List.length_append, List.length_singleton, List.length_nil, List.length_map, List.length_cons]; omega)), hf4⟩) hP hD hS
                      · skip
                        exact absurd h139 (by decide)
                · skip
                  subst L3
                  try simp only [List.length_append, List.length_singleton, List.length_nil, List.length_map, List.length_cons] at hlt_3
                  replace hP : va_P D vwCl [(h8, .inr (1, [.int sc, .int tk])), (h, .inr (0, [.ref a, .int (nI (((L ++ [nI (240 + (v / 262144))]) ++ [nI (128 + (v / 4096) % 64)]).length))])), (a, .inl (cA, N, .inl f3))] H := hP.sub [0, 1, 2] rfl
                  replace hD : va_D A [(h8, .inr (1, [.int sc, .int tk])), (h, .inr (0, [.ref a, .int (nI (((L ++ [nI (240 + (v / 262144))]) ++ [nI (128 + (v / 4096) % 64)]).length))])), (a, .inl (cA, N, .inl f3))] := hD.sub [0, 1, 2] (by decide) rfl
                  refine lv_if_eq (tgt := 146) hx hb dEi_writeOne_131 (by decide) (fun h131 => ?_) (fun h131 => ?_)
                  · skip
                    refine lv_iconst (v := nI 0) hx hb dEi_writeOne_146 (by decide) ?_
                    exact ret (((L ++ [nI (240 + (v / 262144))]) ++ [nI (128 + (v / 4096) % 64)]), f3) dEi_writeOne_147 rfl (Or.inr ⟨by rw [en8_4 h52]; simp only [List.length_append, List.length_singleton, List.length_nil, List.length_map, List.length_cons]; omega, rfl, by dsimp only; exact (by first | omega | (simp only [List.length_append, List.length_singleton, List.length_nil, List.length_map, List.length_cons]; omega)), hf3⟩) hP hD hS
                  · skip
                    exact absurd h131 (by decide)
            · skip
              subst L2
              try simp only [List.length_append, List.length_singleton, List.length_nil, List.length_map, List.length_cons] at hlt_2
              replace hP : va_P D vwCl [(h8, .inr (1, [.int sc, .int tk])), (h, .inr (0, [.ref a, .int (nI ((L ++ [nI (240 + (v / 262144))]).length))])), (a, .inl (cA, N, .inl f2))] H := hP.sub [0, 1, 2] rfl
              replace hD : va_D A [(h8, .inr (1, [.int sc, .int tk])), (h, .inr (0, [.ref a, .int (nI ((L ++ [nI (240 + (v / 262144))]).length))])), (a, .inl (cA, N, .inl f2))] := hD.sub [0, 1, 2] (by decide) rfl
              refine lv_if_eq (tgt := 146) hx hb dEi_writeOne_120 (by decide) (fun h120 => ?_) (fun h120 => ?_)
              · skip
                refine lv_iconst (v := nI 0) hx hb dEi_writeOne_146 (by decide) ?_
                exact ret ((L ++ [nI (240 + (v / 262144))]), f2) dEi_writeOne_147 rfl (Or.inr ⟨by rw [en8_4 h52]; simp only [List.length_append, List.length_singleton, List.length_nil, List.length_map, List.length_cons]; omega, rfl, by dsimp only; exact (by first | omega | (simp only [List.length_append, List.length_singleton, List.length_nil, List.length_map, List.length_cons]; omega)), hf2⟩) hP hD hS
              · skip
                exact absurd h120 (by decide)
        · skip
          subst L1
          try simp only [List.length_append, List.length_singleton, List.length_nil, List.length_map, List.length_cons] at hlt_1
          replace hP : va_P D vwCl [(h8, .inr (1, [.int sc, .int tk])), (h, .inr (0, [.ref a, .int (nI L.length)])), (a, .inl (cA, N, .inl f1))] H := hP.sub [0, 1, 2] rfl
          replace hD : va_D A [(h8, .inr (1, [.int sc, .int tk])), (h, .inr (0, [.ref a, .int (nI L.length)])), (a, .inl (cA, N, .inl f1))] := hD.sub [0, 1, 2] (by decide) rfl
          refine lv_if_eq (tgt := 146) hx hb dEi_writeOne_108 (by decide) (fun h108 => ?_) (fun h108 => ?_)
          · skip
            refine lv_iconst (v := nI 0) hx hb dEi_writeOne_146 (by decide) ?_
            exact ret (L, f1) dEi_writeOne_147 rfl (Or.inr ⟨by rw [en8_4 h52]; simp only [List.length_append, List.length_singleton, List.length_nil, List.length_map, List.length_cons]; omega, rfl, by dsimp only; exact hc, hf1⟩) hP hD hS
          · skip
            exact absurd h108 (by decide)
      · skip
        replace h52 := nt_nle (a := 65536) (b := v) (by omega) (by omega) h52
        refine lv_aload_n hx hb dEi_writeOne_55 rfl (lv_at hl 2 rfl) ?_
        refine lv_sipush (v := nI 224) hx hb dEi_writeOne_56 (by decide) ?_
        refine lv_iload_n hx hb dEi_writeOne_59 rfl (lv_at hl 1 rfl) ?_
        refine lv_sipush (v := nI 4096) hx hb dEi_writeOne_60 (by decide) ?_
        refine lv_idiv hx hb dEi_writeOne_63 (by decide) ?_
        refine lv_rei (y := nI (v / 4096)) (pk_div (by omega) (by omega) (by omega)) ?_
        refine lv_iadd hx hb dEi_writeOne_64 ?_
        refine lv_rei (y := nI (224 + (v / 4096))) (nI_add _ _) ?_
        refine ca_i (wr := [(h8, .inr (1, [.int sc, .int tk]))]) (va_runV (As := [.int (nI (224 + (v / 4096)))]) (rest := []) Xf (k_Row_add l D cA _ h a N L f (nI (224 + (v / 4096))) hf hc hN) ⟨cb_of 1 hw w_124 w_2 w_272 (by decide +kernel) (by rw [hR]; exact ⟨Nat.le_of_ble_eq_true rfl, Nat.le_of_ble_eq_true rfl⟩), hw _ w_122, hw _ w_123⟩ (pre_V (As := [.int (nI (224 + (v / 4096)))]) hP hD hK hn [1, 2] rfl (by decide) 1 0 rfl rfl) rfl rfl hl.1 rfl (lv_room (Nat.le_of_ble_eq_true rfl)) dEi_writeOne_65 ⟨Nat.zero_le _, Nat.zero_le _⟩) hP hD hS hA [1, 2] [0] rfl rfl (by decide) (by decide) (fun r65 u_ H locs hq_ hP hD hS => ?_)
        obtain ⟨L5, f5⟩ := u_
        dsimp only at hq_ hP hD
        rcases hq_ with ⟨hlt_5, rfl, hL_, hf5⟩ | ⟨hlt_5, rfl, hL_, hf5⟩
        · skip
          subst L5
          try simp only [List.length_append, List.length_singleton, List.length_nil, List.length_map, List.length_cons] at hlt_5
          replace hP : va_P D vwCl [(h8, .inr (1, [.int sc, .int tk])), (h, .inr (0, [.ref a, .int (nI ((L ++ [nI (224 + (v / 4096))]).length))])), (a, .inl (cA, N, .inl f5))] H := hP.sub [0, 1, 2] rfl
          replace hD : va_D A [(h8, .inr (1, [.int sc, .int tk])), (h, .inr (0, [.ref a, .int (nI ((L ++ [nI (224 + (v / 4096))]).length))])), (a, .inl (cA, N, .inl f5))] := hD.sub [0, 1, 2] (by decide) rfl
          refine lv_if_eq (tgt := 94) hx hb dEi_writeOne_68 (by decide) (fun h68 => ?_) (fun h68 => ?_)
          · skip
            exact absurd h68 (by decide)
          · skip
            refine lv_iload_n hx hb dEi_writeOne_71 rfl (lv_at hl 1 rfl) ?_
            refine lv_bipush (v := nI 64) hx hb dEi_writeOne_72 (by decide) ?_
            refine lv_idiv hx hb dEi_writeOne_74 (by decide) ?_
            refine lv_rei (y := nI (v / 64)) (pk_div (by omega) (by omega) (by omega)) ?_
            refine lv_aload_n hx hb dEi_writeOne_75 rfl (lv_at hl 2 rfl) ?_
            refine ca_i (wr := [(h8, .inr (1, [.int sc, .int tk]))]) (va_runS (As := [.int (nI (v / 64)), .ref h]) (rest := []) Xf (k_Ei_writeFurther l D cA _ h a N (L ++ [nI (224 + (v / 4096))]) f5 (v / 64) hf5 (by first | omega | (simp only [List.length_append, List.length_singleton, List.length_nil, List.length_map, List.length_cons]; omega)) hN (by omega)) ⟨cb_of 2 hw w_275 w_4 w_273 (by decide +kernel) (by rw [hR]; exact ⟨Nat.le_of_ble_eq_true rfl, Nat.le_of_ble_eq_true rfl⟩), hw _ w_274⟩ (pre_S hP hD hK hn [1, 2] rfl (by decide)) rfl rfl hl.1 rfl (lv_room (Nat.le_of_ble_eq_true rfl)) dEi_writeOne_76 ⟨Nat.zero_le _, Nat.zero_le _⟩) hP hD hS hA [1, 2] [0] rfl rfl (by decide) (by decide) (fun r76 u_ H locs hq_ hP hD hS => ?_)
            obtain ⟨L6, f6⟩ := u_
            dsimp only at hq_ hP hD
            rcases hq_ with ⟨hlt_6, rfl, hL_, hf6⟩ | ⟨hlt_6, rfl, hL_, hf6⟩
            · skip
              subst L6
              try simp only [List.length_append, List.length_singleton, List.length_nil, List.length_map, List.length_cons] at hlt_6
              replace hP : va_P D vwCl [(h8, .inr (1, [.int sc, .int tk])), (h, .inr (0, [.ref a, .int (nI (((L ++ [nI (224 + (v / 4096))]) ++ [nI (128 + (v / 64) % 64)]).length))])), (a, .inl (cA, N, .inl f6))] H := hP.sub [0, 1, 2] rfl
              replace hD : va_D A [(h8, .inr (1, [.int sc, .int tk])), (h, .inr (0, [.ref a, .int (nI (((L ++ [nI (224 + (v / 4096))]) ++ [nI (128 + (v / 64) % 64)]).length))])), (a, .inl (cA, N, .inl f6))] := hD.sub [0, 1, 2] (by decide) rfl
              refine lv_if_eq (tgt := 94) hx hb dEi_writeOne_79 (by decide) (fun h79 => ?_) (fun h79 => ?_)
              · skip
                exact absurd h79 (by decide)
              · skip
                refine lv_iload_n hx hb dEi_writeOne_82 rfl (lv_at hl 1 rfl) ?_
                refine lv_aload_n hx hb dEi_writeOne_83 rfl (lv_at hl 2 rfl) ?_
                refine ca_i (wr := [(h8, .inr (1, [.int sc, .int tk]))]) (va_runS (As := [.int (nI v), .ref h]) (rest := []) Xf (k_Ei_writeFurther l D cA _ h a N ((L ++ [nI (224 + (v / 4096))]) ++ [nI (128 + (v / 64) % 64)]) f6 v hf6 (by first | omega | (simp only [List.length_append, List.length_singleton, List.length_nil, List.length_map, List.length_cons]; omega)) hN (by omega)) ⟨cb_of 2 hw w_275 w_4 w_273 (by decide +kernel) (by rw [hR]; exact ⟨Nat.le_of_ble_eq_true rfl, Nat.le_of_ble_eq_true rfl⟩), hw _ w_274⟩ (pre_S hP hD hK hn [1, 2] rfl (by decide)) rfl rfl hl.1 rfl (lv_room (Nat.le_of_ble_eq_true rfl)) dEi_writeOne_84 ⟨Nat.zero_le _, Nat.zero_le _⟩) hP hD hS hA [1, 2] [0] rfl rfl (by decide) (by decide) (fun r84 u_ H locs hq_ hP hD hS => ?_)
                obtain ⟨L7, f7⟩ := u_
                dsimp only at hq_ hP hD
                rcases hq_ with ⟨hlt_7, rfl, hL_, hf7⟩ | ⟨hlt_7, rfl, hL_, hf7⟩
                · skip
                  subst L7
                  try simp only [List.length_append, List.length_singleton, List.length_nil, List.length_map, List.length_cons] at hlt_7
                  replace hP : va_P D vwCl [(h8, .inr (1, [.int sc, .int tk])), (h, .inr (0, [.ref a, .int (nI ((((L ++ [nI (224 + (v / 4096))]) ++ [nI (128 + (v / 64) % 64)]) ++ [nI (128 + v % 64)]).length))])), (a, .inl (cA, N, .inl f7))] H := hP.sub [0, 1, 2] rfl
                  replace hD : va_D A [(h8, .inr (1, [.int sc, .int tk])), (h, .inr (0, [.ref a, .int (nI ((((L ++ [nI (224 + (v / 4096))]) ++ [nI (128 + (v / 64) % 64)]) ++ [nI (128 + v % 64)]).length))])), (a, .inl (cA, N, .inl f7))] := hD.sub [0, 1, 2] (by decide) rfl
                  refine lv_if_eq (tgt := 94) hx hb dEi_writeOne_87 (by decide) (fun h87 => ?_) (fun h87 => ?_)
                  · skip
                    exact absurd h87 (by decide)
                  · skip
                    refine lv_iconst (v := nI 1) hx hb dEi_writeOne_90 (by decide) ?_
                    refine lv_goto (tgt := 95) hx hb dEi_writeOne_91 (by decide) ?_
                    exact ret ((((L ++ [nI (224 + (v / 4096))]) ++ [nI (128 + (v / 64) % 64)]) ++ [nI (128 + v % 64)]), f7) dEi_writeOne_95 rfl (Or.inl ⟨by rw [en8_3 h17 h52]; simp only [List.length_append, List.length_singleton, List.length_nil, List.length_map, List.length_cons]; omega, rfl, by rw [en8_3 h17 h52]; simp, hf7⟩) hP hD hS
                · skip
                  subst L7
                  try simp only [List.length_append, List.length_singleton, List.length_nil, List.length_map, List.length_cons] at hlt_7
                  replace hP : va_P D vwCl [(h8, .inr (1, [.int sc, .int tk])), (h, .inr (0, [.ref a, .int (nI (((L ++ [nI (224 + (v / 4096))]) ++ [nI (128 + (v / 64) % 64)]).length))])), (a, .inl (cA, N, .inl f7))] H := hP.sub [0, 1, 2] rfl
                  replace hD : va_D A [(h8, .inr (1, [.int sc, .int tk])), (h, .inr (0, [.ref a, .int (nI (((L ++ [nI (224 + (v / 4096))]) ++ [nI (128 + (v / 64) % 64)]).length))])), (a, .inl (cA, N, .inl f7))] := hD.sub [0, 1, 2] (by decide) rfl
                  refine lv_if_eq (tgt := 94) hx hb dEi_writeOne_87 (by decide) (fun h87 => ?_) (fun h87 => ?_)
                  · skip
                    refine lv_iconst (v := nI 0) hx hb dEi_writeOne_94 (by decide) ?_
                    exact ret (((L ++ [nI (224 + (v / 4096))]) ++ [nI (128 + (v / 64) % 64)]), f7) dEi_writeOne_95 rfl (Or.inr ⟨by rw [en8_3 h17 h52]; simp only [List.length_append, List.length_singleton, List.length_nil, List.length_map, List.length_cons]; omega, rfl, by dsimp only; exact (by first | omega | (simp only [List.length_append, List.length_singleton, List.length_nil, List.length_map, List.length_cons]; omega)), hf7⟩) hP hD hS
                  · skip
                    exact absurd h87 (by decide)
            · skip
              subst L6
              try simp only [List.length_append, List.length_singleton, List.length_nil, List.length_map, List.length_cons] at hlt_6
              replace hP : va_P D vwCl [(h8, .inr (1, [.int sc, .int tk])), (h, .inr (0, [.ref a, .int (nI ((L ++ [nI (224 + (v / 4096))]).length))])), (a, .inl (cA, N, .inl f6))] H := hP.sub [0, 1, 2] rfl
              replace hD : va_D A [(h8, .inr (1, [.int sc, .int tk])), (h, .inr (0, [.ref a, .int (nI ((L ++ [nI (224 + (v / 4096))]).length))])), (a, .inl (cA, N, .inl f6))] := hD.sub [0, 1, 2] (by decide) rfl
              refine lv_if_eq (tgt := 94) hx hb dEi_writeOne_79 (by decide) (fun h79 => ?_) (fun h79 => ?_)
              · skip
                refine lv_iconst (v := nI 0) hx hb dEi_writeOne_94 (by decide) ?_
                exact ret ((L ++ [nI (224 + (v / 4096))]), f6) dEi_writeOne_95 rfl (Or.inr ⟨by rw [en8_3 h17 h52]; simp only [List.length_append, List.length_singleton, List.length_nil, List.length_map, List.length_cons]; omega, rfl, by dsimp only; exact (by first | omega | (simp only [List.length_append, List.length_singleton, List.length_nil, List.length_map, List.length_cons]; omega)), hf6⟩) hP hD hS
              · skip
                exact absurd h79 (by decide)
        · skip
          subst L5
          try simp only [List.length_append, List.length_singleton, List.length_nil, List.length_map, List.length_cons] at hlt_5
          replace hP : va_P D vwCl [(h8, .inr (1, [.int sc, .int tk])), (h, .inr (0, [.ref a, .int (nI L.length)])), (a, .inl (cA, N, .inl f5))] H := hP.sub [0, 1, 2] rfl
          replace hD : va_D A [(h8, .inr (1, [.int sc, .int tk])), (h, .inr (0, [.ref a, .int (nI L.length)])), (a, .inl (cA, N, .inl f5))] := hD.sub [0, 1, 2] (by decide) rfl
          refine lv_if_eq (tgt := 94) hx hb dEi_writeOne_68 (by decide) (fun h68 => ?_) (fun h68 => ?_)
          · skip
            refine lv_iconst (v := nI 0) hx hb dEi_writeOne_94 (by decide) ?_
            exact ret (L, f5) dEi_writeOne_95 rfl (Or.inr ⟨by rw [en8_3 h17 h52]; simp only [List.length_append, List.length_singleton, List.length_nil, List.length_map, List.length_cons]; omega, rfl, by dsimp only; exact hc, hf5⟩) hP hD hS
          · skip
            exact absurd h68 (by decide)
    · skip
      replace h17 := nt_nle (a := 2048) (b := v) (by omega) (by omega) h17
      refine lv_aload_n hx hb dEi_writeOne_20 rfl (lv_at hl 2 rfl) ?_
      refine lv_sipush (v := nI 192) hx hb dEi_writeOne_21 (by decide) ?_
      refine lv_iload_n hx hb dEi_writeOne_24 rfl (lv_at hl 1 rfl) ?_
      refine lv_bipush (v := nI 64) hx hb dEi_writeOne_25 (by decide) ?_
      refine lv_idiv hx hb dEi_writeOne_27 (by decide) ?_
      refine lv_rei (y := nI (v / 64)) (pk_div (by omega) (by omega) (by omega)) ?_
      refine lv_iadd hx hb dEi_writeOne_28 ?_
      refine lv_rei (y := nI (192 + (v / 64))) (nI_add _ _) ?_
      refine ca_i (wr := [(h8, .inr (1, [.int sc, .int tk]))]) (va_runV (As := [.int (nI (192 + (v / 64)))]) (rest := []) Xf (k_Row_add l D cA _ h a N L f (nI (192 + (v / 64))) hf hc hN) ⟨cb_of 1 hw w_124 w_2 w_272 (by decide +kernel) (by rw [hR]; exact ⟨Nat.le_of_ble_eq_true rfl, Nat.le_of_ble_eq_true rfl⟩), hw _ w_122, hw _ w_123⟩ (pre_V (As := [.int (nI (192 + (v / 64)))]) hP hD hK hn [1, 2] rfl (by decide) 1 0 rfl rfl) rfl rfl hl.1 rfl (lv_room (Nat.le_of_ble_eq_true rfl)) dEi_writeOne_29 ⟨Nat.zero_le _, Nat.zero_le _⟩) hP hD hS hA [1, 2] [0] rfl rfl (by decide) (by decide) (fun r29 u_ H locs hq_ hP hD hS => ?_)
      obtain ⟨L8, f8⟩ := u_
      dsimp only at hq_ hP hD
      rcases hq_ with ⟨hlt_8, rfl, hL_, hf8⟩ | ⟨hlt_8, rfl, hL_, hf8⟩
      · skip
        subst L8
        try simp only [List.length_append, List.length_singleton, List.length_nil, List.length_map, List.length_cons] at hlt_8
        replace hP : va_P D vwCl [(h8, .inr (1, [.int sc, .int tk])), (h, .inr (0, [.ref a, .int (nI ((L ++ [nI (192 + (v / 64))]).length))])), (a, .inl (cA, N, .inl f8))] H := hP.sub [0, 1, 2] rfl
        replace hD : va_D A [(h8, .inr (1, [.int sc, .int tk])), (h, .inr (0, [.ref a, .int (nI ((L ++ [nI (192 + (v / 64))]).length))])), (a, .inl (cA, N, .inl f8))] := hD.sub [0, 1, 2] (by decide) rfl
        refine lv_if_eq (tgt := 47) hx hb dEi_writeOne_32 (by decide) (fun h32 => ?_) (fun h32 => ?_)
        · skip
          exact absurd h32 (by decide)
        · skip
          refine lv_iload_n hx hb dEi_writeOne_35 rfl (lv_at hl 1 rfl) ?_
          refine lv_aload_n hx hb dEi_writeOne_36 rfl (lv_at hl 2 rfl) ?_
          refine ca_i (wr := [(h8, .inr (1, [.int sc, .int tk]))]) (va_runS (As := [.int (nI v), .ref h]) (rest := []) Xf (k_Ei_writeFurther l D cA _ h a N (L ++ [nI (192 + (v / 64))]) f8 v hf8 (by first | omega | (simp only [List.length_append, List.length_singleton, List.length_nil, List.length_map, List.length_cons]; omega)) hN (by omega)) ⟨cb_of 2 hw w_275 w_4 w_273 (by decide +kernel) (by rw [hR]; exact ⟨Nat.le_of_ble_eq_true rfl, Nat.le_of_ble_eq_true rfl⟩), hw _ w_274⟩ (pre_S hP hD hK hn [1, 2] rfl (by decide)) rfl rfl hl.1 rfl (lv_room (Nat.le_of_ble_eq_true rfl)) dEi_writeOne_37 ⟨Nat.zero_le _, Nat.zero_le _⟩) hP hD hS hA [1, 2] [0] rfl rfl (by decide) (by decide) (fun r37 u_ H locs hq_ hP hD hS => ?_)
          obtain ⟨L9, f9⟩ := u_
          dsimp only at hq_ hP hD
          rcases hq_ with ⟨hlt_9, rfl, hL_, hf9⟩ | ⟨hlt_9, rfl, hL_, hf9⟩
          · skip
            subst L9
            try simp only [List.length_append, List.length_singleton, List.length_nil, List.length_map, List.length_cons] at hlt_9
            replace hP : va_P D vwCl [(h8, .inr (1, [.int sc, .int tk])), (h, .inr (0, [.ref a, .int (nI (((L ++ [nI (192 + (v / 64))]) ++ [nI (128 + v % 64)]).length))])), (a, .inl (cA, N, .inl f9))] H := hP.sub [0, 1, 2] rfl
            replace hD : va_D A [(h8, .inr (1, [.int sc, .int tk])), (h, .inr (0, [.ref a, .int (nI (((L ++ [nI (192 + (v / 64))]) ++ [nI (128 + v % 64)]).length))])), (a, .inl (cA, N, .inl f9))] := hD.sub [0, 1, 2] (by decide) rfl
            refine lv_if_eq (tgt := 47) hx hb dEi_writeOne_40 (by decide) (fun h40 => ?_) (fun h40 => ?_)
            · skip
              exact absurd h40 (by decide)
            · skip
              refine lv_iconst (v := nI 1) hx hb dEi_writeOne_43 (by decide) ?_
              refine lv_goto (tgt := 48) hx hb dEi_writeOne_44 (by decide) ?_
              exact ret (((L ++ [nI (192 + (v / 64))]) ++ [nI (128 + v % 64)]), f9) dEi_writeOne_48 rfl (Or.inl ⟨by rw [en8_2 h4 h17]; simp only [List.length_append, List.length_singleton, List.length_nil, List.length_map, List.length_cons]; omega, rfl, by rw [en8_2 h4 h17]; simp, hf9⟩) hP hD hS
          · skip
            subst L9
            try simp only [List.length_append, List.length_singleton, List.length_nil, List.length_map, List.length_cons] at hlt_9
            replace hP : va_P D vwCl [(h8, .inr (1, [.int sc, .int tk])), (h, .inr (0, [.ref a, .int (nI ((L ++ [nI (192 + (v / 64))]).length))])), (a, .inl (cA, N, .inl f9))] H := hP.sub [0, 1, 2] rfl
            replace hD : va_D A [(h8, .inr (1, [.int sc, .int tk])), (h, .inr (0, [.ref a, .int (nI ((L ++ [nI (192 + (v / 64))]).length))])), (a, .inl (cA, N, .inl f9))] := hD.sub [0, 1, 2] (by decide) rfl
            refine lv_if_eq (tgt := 47) hx hb dEi_writeOne_40 (by decide) (fun h40 => ?_) (fun h40 => ?_)
            · skip
              refine lv_iconst (v := nI 0) hx hb dEi_writeOne_47 (by decide) ?_
              exact ret ((L ++ [nI (192 + (v / 64))]), f9) dEi_writeOne_48 rfl (Or.inr ⟨by rw [en8_2 h4 h17]; simp only [List.length_append, List.length_singleton, List.length_nil, List.length_map, List.length_cons]; omega, rfl, by dsimp only; exact (by first | omega | (simp only [List.length_append, List.length_singleton, List.length_nil, List.length_map, List.length_cons]; omega)), hf9⟩) hP hD hS
            · skip
              exact absurd h40 (by decide)
      · skip
        subst L8
        try simp only [List.length_append, List.length_singleton, List.length_nil, List.length_map, List.length_cons] at hlt_8
        replace hP : va_P D vwCl [(h8, .inr (1, [.int sc, .int tk])), (h, .inr (0, [.ref a, .int (nI L.length)])), (a, .inl (cA, N, .inl f8))] H := hP.sub [0, 1, 2] rfl
        replace hD : va_D A [(h8, .inr (1, [.int sc, .int tk])), (h, .inr (0, [.ref a, .int (nI L.length)])), (a, .inl (cA, N, .inl f8))] := hD.sub [0, 1, 2] (by decide) rfl
        refine lv_if_eq (tgt := 47) hx hb dEi_writeOne_32 (by decide) (fun h32 => ?_) (fun h32 => ?_)
        · skip
          refine lv_iconst (v := nI 0) hx hb dEi_writeOne_47 (by decide) ?_
          exact ret (L, f8) dEi_writeOne_48 rfl (Or.inr ⟨by rw [en8_2 h4 h17]; simp only [List.length_append, List.length_singleton, List.length_nil, List.length_map, List.length_cons]; omega, rfl, by dsimp only; exact hc, hf8⟩) hP hD hS
        · skip
          exact absurd h32 (by decide)
  · skip
    replace h4 := nt_nle (a := 128) (b := v) (by omega) (by omega) h4
    refine lv_aload_n hx hb dEi_writeOne_7 rfl (lv_at hl 2 rfl) ?_
    refine lv_iload_n hx hb dEi_writeOne_8 rfl (lv_at hl 1 rfl) ?_
    refine ca_i (wr := [(h8, .inr (1, [.int sc, .int tk]))]) (va_runV (As := [.int (nI v)]) (rest := []) Xf (k_Row_add l D cA _ h a N L f (nI v) hf hc hN) ⟨cb_of 1 hw w_124 w_2 w_272 (by decide +kernel) (by rw [hR]; exact ⟨Nat.le_of_ble_eq_true rfl, Nat.le_of_ble_eq_true rfl⟩), hw _ w_122, hw _ w_123⟩ (pre_V (As := [.int (nI v)]) hP hD hK hn [1, 2] rfl (by decide) 1 0 rfl rfl) rfl rfl hl.1 rfl (lv_room (Nat.le_of_ble_eq_true rfl)) dEi_writeOne_9 ⟨Nat.zero_le _, Nat.zero_le _⟩) hP hD hS hA [1, 2] [0] rfl rfl (by decide) (by decide) (fun r9 u_ H locs hq_ hP hD hS => ?_)
    obtain ⟨L10, f10⟩ := u_
    dsimp only at hq_ hP hD
    rcases hq_ with ⟨hlt_10, rfl, hL_, hf10⟩ | ⟨hlt_10, rfl, hL_, hf10⟩
    · skip
      subst L10
      try simp only [List.length_append, List.length_singleton, List.length_nil, List.length_map, List.length_cons] at hlt_10
      replace hP : va_P D vwCl [(h8, .inr (1, [.int sc, .int tk])), (h, .inr (0, [.ref a, .int (nI ((L ++ [nI v]).length))])), (a, .inl (cA, N, .inl f10))] H := hP.sub [0, 1, 2] rfl
      replace hD : va_D A [(h8, .inr (1, [.int sc, .int tk])), (h, .inr (0, [.ref a, .int (nI ((L ++ [nI v]).length))])), (a, .inl (cA, N, .inl f10))] := hD.sub [0, 1, 2] (by decide) rfl
      exact ret ((L ++ [nI v]), f10) dEi_writeOne_12 rfl (Or.inl ⟨by rw [en8_1 h4]; simp only [List.length_append, List.length_singleton, List.length_nil, List.length_map, List.length_cons]; omega, rfl, by rw [en8_1 h4]; simp, hf10⟩) hP hD hS
    · skip
      subst L10
      try simp only [List.length_append, List.length_singleton, List.length_nil, List.length_map, List.length_cons] at hlt_10
      replace hP : va_P D vwCl [(h8, .inr (1, [.int sc, .int tk])), (h, .inr (0, [.ref a, .int (nI L.length)])), (a, .inl (cA, N, .inl f10))] H := hP.sub [0, 1, 2] rfl
      replace hD : va_D A [(h8, .inr (1, [.int sc, .int tk])), (h, .inr (0, [.ref a, .int (nI L.length)])), (a, .inl (cA, N, .inl f10))] := hD.sub [0, 1, 2] (by decide) rfl
      exact ret (L, f10) dEi_writeOne_12 rfl (Or.inr ⟨by rw [en8_1 h4]; simp only [List.length_append, List.length_singleton, List.length_nil, List.length_map, List.length_cons]; omega, rfl, by dsimp only; exact hc, hf10⟩) hP hD hS
set_option maxHeartbeats 4000000 in
set_option maxRecDepth 100000 in
theorem k_Si_firstUnit (l : Launch) (D : va_G) (cA : ClassId) (sz : Nat) (v : Nat) (hv : v < 2 ^ 30) : KI l D cA y_Si_firstUnit c_Si_firstUnit 1 .int 0 0 [.int (nI v)] sz [] (S := Unit) (fun r _ => r = nI (fu v)) (fun _ => []) := by
  refine KI.of (by decide) (Nat.le_of_ble_eq_true rfl) ?_
  intro p e s m args below meth c Q R A ls Xf hR hA hS hP hD hK hn hl ret
  have hx := Xf.1
  have hb := Xf.2.1
  have hown : s.vm.findClass "ScalarScribe$Sixteens" = some m.cls := Xf.2.2.2.1
  have hw := Xf.2.2.2.2
  have hl : lv_has ls 1 [(0, .int (nI v))] := hl
  refine lv_iload_n hx hb dSi_firstUnit_0 rfl (lv_at hl 0 rfl) ?_
  refine lv_ldc (v := nI 65536) hx hb hown (hw _ w_181) dSi_firstUnit_1 ?_
  refine lv_icmp_ge (tgt := 10) hx hb dSi_firstUnit_3 (by decide) (fun h3 => ?_) (fun h3 => ?_)
  · skip
    replace h3 := nt_le (a := 65536) (b := v) (by omega) (by omega) h3
    refine lv_ldc (v := nI 55296) hx hb hown (hw _ w_174) dSi_firstUnit_10 ?_
    refine lv_iload_n hx hb dSi_firstUnit_12 rfl (lv_at hl 0 rfl) ?_
    refine lv_ldc (v := nI 65536) hx hb hown (hw _ w_181) dSi_firstUnit_13 ?_
    refine lv_isub hx hb dSi_firstUnit_15 ?_
    refine lv_rei (y := nI (v - 65536)) (pk_sub (by omega)) ?_
    refine lv_sipush (v := nI 1024) hx hb dSi_firstUnit_16 (by decide) ?_
    refine lv_idiv hx hb dSi_firstUnit_19 (by decide) ?_
    refine lv_rei (y := nI ((v - 65536) / 1024)) (pk_div (by omega) (by omega) (by omega)) ?_
    refine lv_iadd hx hb dSi_firstUnit_20 ?_
    refine lv_rei (y := nI (55296 + ((v - 65536) / 1024))) (nI_add _ _) ?_
    exact ret () dSi_firstUnit_21 rfl (congrArg nI (show 55296 + ((v - 65536) / 1024) = fu v from by unfold fu; split <;> omega)) hP hD hS
  · skip
    replace h3 := nt_nle (a := 65536) (b := v) (by omega) (by omega) h3
    refine lv_iload_n hx hb dSi_firstUnit_6 rfl (lv_at hl 0 rfl) ?_
    refine lv_goto (tgt := 21) hx hb dSi_firstUnit_7 (by decide) ?_
    exact ret () dSi_firstUnit_21 rfl (congrArg nI (show v = fu v from by unfold fu; split <;> omega)) hP hD hS
set_option maxHeartbeats 4000000 in
set_option maxRecDepth 100000 in
theorem k_Si_writeOne (l : Launch) (D : va_G) (cA : ClassId) (sz : Nat) (h8 : Nat) (sc tk : Int32) (h a N : Nat) (L : List Int32) (f : Nat → Int32) (v : Nat) (hf : Hd f L) (hc : L.length ≤ N) (hN : N < 2 ^ 31) (hv : v < 2 ^ 30) : KI l D cA y_Si_writeOne c_Si_writeOne 4 .boolean 2 44 [.ref h8, .int (nI v), .ref h] sz [(h8, .inr (2, [.int sc, .int tk])), (h, .inr (0, [.ref a, .int (nI L.length)])), (a, .inl (cA, N, .inl f))] (S := List Int32 × (Nat → Int32)) (fun r u => (L.length + (en16 v).length ≤ N ∧ r = 1 ∧ u.1 = L ++ (en16 v).map nI ∧ Hd u.2 u.1) ∨ (N < L.length + (en16 v).length ∧ r = 0 ∧ u.1.length ≤ N ∧ Hd u.2 u.1)) (fun u => [(h8, .inr (2, [.int sc, .int tk])), (h, .inr (0, [.ref a, .int (nI u.1.length)])), (a, .inl (cA, N, .inl u.2))]) := by
  refine KI.of (by decide) (Nat.le_of_ble_eq_true rfl) ?_
  intro p e s m args below meth c Q R A ls Xf hR hA hS hP hD hK hn hl ret
  have hx := Xf.1
  have hb := Xf.2.1
  have hown : s.vm.findClass "ScalarScribe$Sixteens" = some m.cls := Xf.2.2.2.1
  have hw := Xf.2.2.2.2
  have hl : lv_has ls 4 [(0, .ref h8), (1, .int (nI v)), (2, .ref h)] := hl
  refine lv_aload_n hx hb dSi_writeOne_0 rfl (lv_at hl 2 rfl) ?_
  refine lv_iload_n hx hb dSi_writeOne_1 rfl (lv_at hl 1 rfl) ?_
  refine ca_i (wr := [(h8, .inr (2, [.int sc, .int tk])), (h, .inr (0, [.ref a, .int (nI L.length)])), (a, .inl (cA, N, .inl f))]) (va_runS (As := [.int (nI v)]) (rest := [.ref h]) Xf (k_Si_firstUnit l D cA _ v (by omega)) ⟨cb_of 1 hw w_283 w_5 w_281 (by decide +kernel) (by rw [hR]; exact ⟨Nat.le_of_ble_eq_true rfl, Nat.le_of_ble_eq_true rfl⟩), hw _ w_282⟩ (pre_S hP hD hK hn [] rfl (by decide)) rfl rfl hl.1 rfl (lv_room (Nat.le_of_ble_eq_true rfl)) dSi_writeOne_2 ⟨Nat.zero_le _, Nat.zero_le _⟩) hP hD hS hA [] [0, 1, 2] rfl rfl (by decide) (by decide) (fun r2 u_ H locs hq_ hP hD hS => ?_)
  obtain rfl : r2 = nI (fu v) := hq_
  replace hP : va_P D vwCl [(h8, .inr (2, [.int sc, .int tk])), (h, .inr (0, [.ref a, .int (nI L.length)])), (a, .inl (cA, N, .inl f))] H := hP.sub [0, 1, 2] rfl
  replace hD : va_D A [(h8, .inr (2, [.int sc, .int tk])), (h, .inr (0, [.ref a, .int (nI L.length)])), (a, .inl (cA, N, .inl f))] := hD.sub [0, 1, 2] (by decide) rfl
  refine ca_i (wr := [(h8, .inr (2, [.int sc, .int tk]))]) (va_runV (As := [.int (nI (fu v))]) (rest := []) Xf (k_Row_add l D cA _ h a N L f (nI (fu v)) hf hc hN) ⟨cb_of 1 hw w_124 w_2 w_284 (by decide +kernel) (by rw [hR]; exact ⟨Nat.le_of_ble_eq_true rfl, Nat.le_of_ble_eq_true rfl⟩), hw _ w_122, hw _ w_123⟩ (pre_V (As := [.int (nI (fu v))]) hP hD hK hn [1, 2] rfl (by decide) 1 0 rfl rfl) rfl rfl hl.1 rfl (lv_room (Nat.le_of_ble_eq_true rfl)) dSi_writeOne_5 ⟨Nat.zero_le _, Nat.zero_le _⟩) hP hD hS hA [1, 2] [0] rfl rfl (by decide) (by decide) (fun r5 u_ H locs hq_ hP hD hS => ?_)
  obtain ⟨L1, f1⟩ := u_
  dsimp only at hq_ hP hD
  rcases hq_ with ⟨hlt_1, rfl, hL_, hf1⟩ | ⟨hlt_1, rfl, hL_, hf1⟩
  · skip
    subst L1
    try simp only [List.length_append, List.length_singleton, List.length_nil, List.length_map, List.length_cons] at hlt_1
    replace hP : va_P D vwCl [(h8, .inr (2, [.int sc, .int tk])), (h, .inr (0, [.ref a, .int (nI ((L ++ [nI (fu v)]).length))])), (a, .inl (cA, N, .inl f1))] H := hP.sub [0, 1, 2] rfl
    replace hD : va_D A [(h8, .inr (2, [.int sc, .int tk])), (h, .inr (0, [.ref a, .int (nI ((L ++ [nI (fu v)]).length))])), (a, .inl (cA, N, .inl f1))] := hD.sub [0, 1, 2] (by decide) rfl
    refine lv_istore_n (lv' := [(3, .int (nI 1)), (0, .ref h8), (1, .int (nI v)), (2, .ref h)]) hx hb dSi_writeOne_8 rfl hl (by decide) rfl (fun ls hl => ?_)
    refine lv_iload_n hx hb dSi_writeOne_9 rfl (lv_at hl 2 rfl) ?_
    refine lv_ldc (v := nI 65536) hx hb hown (hw _ w_181) dSi_writeOne_10 ?_
    refine lv_icmp_ge (tgt := 17) hx hb dSi_writeOne_12 (by decide) (fun h12 => ?_) (fun h12 => ?_)
    · skip
      replace h12 := nt_le (a := 65536) (b := v) (by omega) (by omega) h12
      refine lv_iload_n hx hb dSi_writeOne_17 rfl (lv_at hl 0 rfl) ?_
      refine lv_if_eq (tgt := 40) hx hb dSi_writeOne_18 (by decide) (fun h18 => ?_) (fun h18 => ?_)
      · skip
        exact absurd h18 (by decide)
      · skip
        refine lv_aload_n hx hb dSi_writeOne_21 rfl (lv_at hl 3 rfl) ?_
        refine lv_ldc (v := nI 56320) hx hb hown (hw _ w_175) dSi_writeOne_22 ?_
        refine lv_iload_n hx hb dSi_writeOne_24 rfl (lv_at hl 2 rfl) ?_
        refine lv_sipush (v := nI 1024) hx hb dSi_writeOne_25 (by decide) ?_
        refine lv_irem hx hb dSi_writeOne_28 (by decide) ?_
        refine lv_rei (y := nI (v % 1024)) (pk_rem (by omega) (by omega) (by omega)) ?_
        refine lv_iadd hx hb dSi_writeOne_29 ?_
        refine lv_rei (y := nI (56320 + (v % 1024))) (nI_add _ _) ?_
        refine ca_i (wr := [(h8, .inr (2, [.int sc, .int tk]))]) (va_runV (As := [.int (nI (56320 + (v % 1024)))]) (rest := []) Xf (k_Row_add l D cA _ h a N (L ++ [nI (fu v)]) f1 (nI (56320 + (v % 1024))) hf1 (by first | omega | (simp only [List.length_append, List.length_singleton, List.length_nil, List.length_map, List.length_cons]; omega)) hN) ⟨cb_of 1 hw w_124 w_2 w_284 (by decide +kernel) (by rw [hR]; exact ⟨Nat.le_of_ble_eq_true rfl, Nat.le_of_ble_eq_true rfl⟩), hw _ w_122, hw _ w_123⟩ (pre_V (As := [.int (nI (56320 + (v % 1024)))]) hP hD hK hn [1, 2] rfl (by decide) 1 0 rfl rfl) rfl rfl hl.1 rfl (lv_room (Nat.le_of_ble_eq_true rfl)) dSi_writeOne_30 ⟨Nat.zero_le _, Nat.zero_le _⟩) hP hD hS hA [1, 2] [0] rfl rfl (by decide) (by decide) (fun r30 u_ H locs hq_ hP hD hS => ?_)
        obtain ⟨L2, f2⟩ := u_
        dsimp only at hq_ hP hD
        rcases hq_ with ⟨hlt_2, rfl, hL_, hf2⟩ | ⟨hlt_2, rfl, hL_, hf2⟩
        · skip
          subst L2
          try simp only [List.length_append, List.length_singleton, List.length_nil, List.length_map, List.length_cons] at hlt_2
          replace hP : va_P D vwCl [(h8, .inr (2, [.int sc, .int tk])), (h, .inr (0, [.ref a, .int (nI (((L ++ [nI (fu v)]) ++ [nI (56320 + (v % 1024))]).length))])), (a, .inl (cA, N, .inl f2))] H := hP.sub [0, 1, 2] rfl
          replace hD : va_D A [(h8, .inr (2, [.int sc, .int tk])), (h, .inr (0, [.ref a, .int (nI (((L ++ [nI (fu v)]) ++ [nI (56320 + (v % 1024))]).length))])), (a, .inl (cA, N, .inl f2))] := hD.sub [0, 1, 2] (by decide) rfl
          refine lv_if_eq (tgt := 40) hx hb dSi_writeOne_33 (by decide) (fun h33 => ?_) (fun h33 => ?_)
          · skip
            exact absurd h33 (by decide)
          · skip
            refine lv_iconst (v := nI 1) hx hb dSi_writeOne_36 (by decide) ?_
            refine lv_goto (tgt := 41) hx hb dSi_writeOne_37 (by decide) ?_
            exact ret (((L ++ [nI (fu v)]) ++ [nI (56320 + (v % 1024))]), f2) dSi_writeOne_41 rfl (Or.inl ⟨by rw [en16_2 h12]; simp only [List.length_append, List.length_singleton, List.length_nil, List.length_map, List.length_cons]; omega, rfl, by rw [en16_2 h12]; simp, hf2⟩) hP hD hS
        · skip
          subst L2
          try simp only [List.length_append, List.length_singleton, List.length_nil, List.length_map, List.length_cons] at hlt_2
          replace hP : va_P D vwCl [(h8, .inr (2, [.int sc, .int tk])), (h, .inr (0, [.ref a, .int (nI ((L ++ [nI (fu v)]).length))])), (a, .inl (cA, N, .inl f2))] H := hP.sub [0, 1, 2] rfl
          replace hD : va_D A [(h8, .inr (2, [.int sc, .int tk])), (h, .inr (0, [.ref a, .int (nI ((L ++ [nI (fu v)]).length))])), (a, .inl (cA, N, .inl f2))] := hD.sub [0, 1, 2] (by decide) rfl
          refine lv_if_eq (tgt := 40) hx hb dSi_writeOne_33 (by decide) (fun h33 => ?_) (fun h33 => ?_)
          · skip
            refine lv_iconst (v := nI 0) hx hb dSi_writeOne_40 (by decide) ?_
            exact ret ((L ++ [nI (fu v)]), f2) dSi_writeOne_41 rfl (Or.inr ⟨by rw [en16_2 h12]; simp only [List.length_append, List.length_singleton, List.length_nil, List.length_map, List.length_cons]; omega, rfl, by dsimp only; exact (by first | omega | (simp only [List.length_append, List.length_singleton, List.length_nil, List.length_map, List.length_cons]; omega)), hf2⟩) hP hD hS
          · skip
            exact absurd h33 (by decide)
    · skip
      replace h12 := nt_nle (a := 65536) (b := v) (by omega) (by omega) h12
      refine lv_iload_n hx hb dSi_writeOne_15 rfl (lv_at hl 0 rfl) ?_
      exact ret ((L ++ [nI (fu v)]), f1) dSi_writeOne_16 rfl (Or.inl ⟨by rw [en16_1 h12]; simp only [List.length_append, List.length_singleton, List.length_nil, List.length_map, List.length_cons]; omega, rfl, by rw [en16_1 h12]; simp, hf1⟩) hP hD hS
  · skip
    subst L1
    try simp only [List.length_append, List.length_singleton, List.length_nil, List.length_map, List.length_cons] at hlt_1
    replace hP : va_P D vwCl [(h8, .inr (2, [.int sc, .int tk])), (h, .inr (0, [.ref a, .int (nI L.length)])), (a, .inl (cA, N, .inl f1))] H := hP.sub [0, 1, 2] rfl
    replace hD : va_D A [(h8, .inr (2, [.int sc, .int tk])), (h, .inr (0, [.ref a, .int (nI L.length)])), (a, .inl (cA, N, .inl f1))] := hD.sub [0, 1, 2] (by decide) rfl
    refine lv_istore_n (lv' := [(3, .int (nI 0)), (0, .ref h8), (1, .int (nI v)), (2, .ref h)]) hx hb dSi_writeOne_8 rfl hl (by decide) rfl (fun ls hl => ?_)
    refine lv_iload_n hx hb dSi_writeOne_9 rfl (lv_at hl 2 rfl) ?_
    refine lv_ldc (v := nI 65536) hx hb hown (hw _ w_181) dSi_writeOne_10 ?_
    refine lv_icmp_ge (tgt := 17) hx hb dSi_writeOne_12 (by decide) (fun h12 => ?_) (fun h12 => ?_)
    · skip
      replace h12 := nt_le (a := 65536) (b := v) (by omega) (by omega) h12
      refine lv_iload_n hx hb dSi_writeOne_17 rfl (lv_at hl 0 rfl) ?_
      refine lv_if_eq (tgt := 40) hx hb dSi_writeOne_18 (by decide) (fun h18 => ?_) (fun h18 => ?_)
      · skip
        refine lv_iconst (v := nI 0) hx hb dSi_writeOne_40 (by decide) ?_
        exact ret (L, f1) dSi_writeOne_41 rfl (Or.inr ⟨by rw [en16_2 h12]; simp only [List.length_append, List.length_singleton, List.length_nil, List.length_map, List.length_cons]; omega, rfl, by dsimp only; exact hc, hf1⟩) hP hD hS
      · skip
        exact absurd h18 (by decide)
    · skip
      replace h12 := nt_nle (a := 65536) (b := v) (by omega) (by omega) h12
      refine lv_iload_n hx hb dSi_writeOne_15 rfl (lv_at hl 0 rfl) ?_
      exact ret (L, f1) dSi_writeOne_16 rfl (Or.inr ⟨by rw [en16_1 h12]; simp only [List.length_append, List.length_singleton, List.length_nil, List.length_map, List.length_cons]; omega, rfl, by dsimp only; exact hc, hf1⟩) hP hD hS
set_option maxHeartbeats 4000000 in
set_option maxRecDepth 100000 in
theorem k_Sc_isScalar (l : Launch) (D : va_G) (cA : ClassId) (sz : Nat) (x : Int32)  : KI l D cA y_Sc_isScalar c_Sc_isScalar 2 .boolean 0 0 [.int x] sz [] (S := Unit) (fun r _ => (scI x ∧ r = 1) ∨ (¬ scI x ∧ r = 0)) (fun _ => []) := by
  refine KI.of (by decide) (Nat.le_of_ble_eq_true rfl) ?_
  intro p e s m args below meth c Q R A ls Xf hR hA hS hP hD hK hn hl ret
  have hx := Xf.1
  have hb := Xf.2.1
  have hown : s.vm.findClass "ScalarScribe" = some m.cls := Xf.2.2.2.1
  have hw := Xf.2.2.2.2
  have hl : lv_has ls 2 [(0, .int x)] := hl
  refine lv_iload_n hx hb dSc_isScalar_0 rfl (lv_at hl 0 rfl) ?_
  refine lv_ldc (v := nI 55296) hx hb hown (hw _ w_185) dSc_isScalar_1 ?_
  refine lv_icmp_lt (tgt := 16) hx hb dSc_isScalar_3 (by decide) (fun h3 => ?_) (fun h3 => ?_)
  · skip
    rw [Int32.lt_iff_toInt_lt, nI_toInt (n := 55296) (by omega)] at h3
    refine lv_iconst (v := nI 0) hx hb dSc_isScalar_16 (by decide) ?_
    refine lv_istore_n (lv' := [(1, .int (nI 0)), (0, .int x)]) hx hb dSc_isScalar_17 rfl hl (by decide) rfl (fun ls hl => ?_)
    refine lv_iload_n hx hb dSc_isScalar_18 rfl (lv_at hl 1 rfl) ?_
    refine lv_if_lt (tgt := 36) hx hb dSc_isScalar_19 (by decide) (fun h19 => ?_) (fun h19 => ?_)
    · skip
      rw [Int32.lt_iff_toInt_lt, Int32.toInt_zero] at h19
      refine lv_iconst (v := nI 0) hx hb dSc_isScalar_36 (by decide) ?_
      exact ret () dSc_isScalar_37 rfl (Or.inr ⟨by omega, rfl⟩) hP hD hS
    · skip
      rw [Int32.lt_iff_toInt_lt, Int32.toInt_zero] at h19
      refine lv_iload_n hx hb dSc_isScalar_22 rfl (lv_at hl 1 rfl) ?_
      refine lv_ldc (v := nI 1114111) hx hb hown (hw _ w_187) dSc_isScalar_23 ?_
      refine lv_icmp_gt (tgt := 36) hx hb dSc_isScalar_25 (by decide) (fun h25 => ?_) (fun h25 => ?_)
      · skip
        rw [Int32.lt_iff_toInt_lt, nI_toInt (n := 1114111) (by omega)] at h25
        refine lv_iconst (v := nI 0) hx hb dSc_isScalar_36 (by decide) ?_
        exact ret () dSc_isScalar_37 rfl (Or.inr ⟨by omega, rfl⟩) hP hD hS
      · skip
        rw [Int32.lt_iff_toInt_lt, nI_toInt (n := 1114111) (by omega)] at h25
        refine lv_iload_n hx hb dSc_isScalar_28 rfl (lv_at hl 0 rfl) ?_
        refine lv_if_ne (tgt := 36) hx hb dSc_isScalar_29 (by decide) (fun h29 => ?_) (fun h29 => ?_)
        · skip
          exact absurd h29 (by decide)
        · skip
          refine lv_iconst (v := nI 1) hx hb dSc_isScalar_32 (by decide) ?_
          refine lv_goto (tgt := 37) hx hb dSc_isScalar_33 (by decide) ?_
          exact ret () dSc_isScalar_37 rfl (Or.inl ⟨by omega, rfl⟩) hP hD hS
  · skip
    rw [Int32.lt_iff_toInt_lt, nI_toInt (n := 55296) (by omega)] at h3
    refine lv_iload_n hx hb dSc_isScalar_6 rfl (lv_at hl 0 rfl) ?_
    refine lv_ldc (v := nI 57343) hx hb hown (hw _ w_186) dSc_isScalar_7 ?_
    refine lv_icmp_gt (tgt := 16) hx hb dSc_isScalar_9 (by decide) (fun h9 => ?_) (fun h9 => ?_)
    · skip
      rw [Int32.lt_iff_toInt_lt, nI_toInt (n := 57343) (by omega)] at h9
      refine lv_iconst (v := nI 0) hx hb dSc_isScalar_16 (by decide) ?_
      refine lv_istore_n (lv' := [(1, .int (nI 0)), (0, .int x)]) hx hb dSc_isScalar_17 rfl hl (by decide) rfl (fun ls hl => ?_)
      refine lv_iload_n hx hb dSc_isScalar_18 rfl (lv_at hl 1 rfl) ?_
      refine lv_if_lt (tgt := 36) hx hb dSc_isScalar_19 (by decide) (fun h19 => ?_) (fun h19 => ?_)
      · skip
        rw [Int32.lt_iff_toInt_lt, Int32.toInt_zero] at h19
        refine lv_iconst (v := nI 0) hx hb dSc_isScalar_36 (by decide) ?_
        exact ret () dSc_isScalar_37 rfl (Or.inr ⟨by omega, rfl⟩) hP hD hS
      · skip
        rw [Int32.lt_iff_toInt_lt, Int32.toInt_zero] at h19
        refine lv_iload_n hx hb dSc_isScalar_22 rfl (lv_at hl 1 rfl) ?_
        refine lv_ldc (v := nI 1114111) hx hb hown (hw _ w_187) dSc_isScalar_23 ?_
        refine lv_icmp_gt (tgt := 36) hx hb dSc_isScalar_25 (by decide) (fun h25 => ?_) (fun h25 => ?_)
        · skip
          rw [Int32.lt_iff_toInt_lt, nI_toInt (n := 1114111) (by omega)] at h25
          refine lv_iconst (v := nI 0) hx hb dSc_isScalar_36 (by decide) ?_
          exact ret () dSc_isScalar_37 rfl (Or.inr ⟨by omega, rfl⟩) hP hD hS
        · skip
          rw [Int32.lt_iff_toInt_lt, nI_toInt (n := 1114111) (by omega)] at h25
          refine lv_iload_n hx hb dSc_isScalar_28 rfl (lv_at hl 0 rfl) ?_
          refine lv_if_ne (tgt := 36) hx hb dSc_isScalar_29 (by decide) (fun h29 => ?_) (fun h29 => ?_)
          · skip
            exact absurd h29 (by decide)
          · skip
            refine lv_iconst (v := nI 1) hx hb dSc_isScalar_32 (by decide) ?_
            refine lv_goto (tgt := 37) hx hb dSc_isScalar_33 (by decide) ?_
            exact ret () dSc_isScalar_37 rfl (Or.inl ⟨by omega, rfl⟩) hP hD hS
    · skip
      rw [Int32.lt_iff_toInt_lt, nI_toInt (n := 57343) (by omega)] at h9
      refine lv_iconst (v := nI 1) hx hb dSc_isScalar_12 (by decide) ?_
      refine lv_goto (tgt := 17) hx hb dSc_isScalar_13 (by decide) ?_
      refine lv_istore_n (lv' := [(1, .int (nI 1)), (0, .int x)]) hx hb dSc_isScalar_17 rfl hl (by decide) rfl (fun ls hl => ?_)
      refine lv_iload_n hx hb dSc_isScalar_18 rfl (lv_at hl 1 rfl) ?_
      refine lv_if_lt (tgt := 36) hx hb dSc_isScalar_19 (by decide) (fun h19 => ?_) (fun h19 => ?_)
      · skip
        rw [Int32.lt_iff_toInt_lt, Int32.toInt_zero] at h19
        refine lv_iconst (v := nI 0) hx hb dSc_isScalar_36 (by decide) ?_
        exact ret () dSc_isScalar_37 rfl (Or.inr ⟨by omega, rfl⟩) hP hD hS
      · skip
        rw [Int32.lt_iff_toInt_lt, Int32.toInt_zero] at h19
        refine lv_iload_n hx hb dSc_isScalar_22 rfl (lv_at hl 1 rfl) ?_
        refine lv_ldc (v := nI 1114111) hx hb hown (hw _ w_187) dSc_isScalar_23 ?_
        refine lv_icmp_gt (tgt := 36) hx hb dSc_isScalar_25 (by decide) (fun h25 => ?_) (fun h25 => ?_)
        · skip
          rw [Int32.lt_iff_toInt_lt, nI_toInt (n := 1114111) (by omega)] at h25
          refine lv_iconst (v := nI 0) hx hb dSc_isScalar_36 (by decide) ?_
          exact ret () dSc_isScalar_37 rfl (Or.inr ⟨by omega, rfl⟩) hP hD hS
        · skip
          rw [Int32.lt_iff_toInt_lt, nI_toInt (n := 1114111) (by omega)] at h25
          refine lv_iload_n hx hb dSc_isScalar_28 rfl (lv_at hl 0 rfl) ?_
          refine lv_if_ne (tgt := 36) hx hb dSc_isScalar_29 (by decide) (fun h29 => ?_) (fun h29 => ?_)
          · skip
            refine lv_iconst (v := nI 0) hx hb dSc_isScalar_36 (by decide) ?_
            exact ret () dSc_isScalar_37 rfl (Or.inr ⟨by omega, rfl⟩) hP hD hS
          · skip
            exact absurd h29 (by decide)
set_option maxHeartbeats 4000000 in
set_option maxRecDepth 100000 in
theorem k_Si_readLow (l : Launch) (D : va_G) (cA : ClassId) (sz : Nat) (h8 : Nat) (sc tk x y : Int32) (hx1 : 55296 ≤ x.toInt ∧ x.toInt < 56320) : KV l D cA y_Si_readLow c_Si_readLow 3 0 0 [.ref h8, .int x, .int y] sz [(h8, .inr (2, [.int sc, .int tk]))] (S := Int32 × Int32) (fun u => ((56320 ≤ y.toInt ∧ y.toInt ≤ 57343) ∧ u.1 = nI (65536 + (tn x - 55296) * 1024 + (tn y - 56320)) ∧ u.2 = nI 2) ∨ (¬ (56320 ≤ y.toInt ∧ y.toInt ≤ 57343) ∧ u.1 = sc ∧ u.2 = tk)) (fun u => [(h8, .inr (2, [.int u.1, .int u.2]))]) := by
  refine KV.of (by decide) (Nat.le_of_ble_eq_true rfl) ?_
  intro p e s m args below meth c Q R A ls Xf hR hA hS hP hD hK hn hl ret
  have hx := Xf.1
  have hb := Xf.2.1
  have hown : s.vm.findClass "ScalarScribe$Sixteens" = some m.cls := Xf.2.2.2.1
  have hw := Xf.2.2.2.2
  have hl : lv_has ls 3 [(0, .ref h8), (1, .int x), (2, .int y)] := hl
  refine lv_iload_n hx hb dSi_readLow_0 rfl (lv_at hl 2 rfl) ?_
  refine lv_ldc (v := nI 56320) hx hb hown (hw _ w_175) dSi_readLow_1 ?_
  refine lv_icmp_lt (tgt := 37) hx hb dSi_readLow_3 (by decide) (fun h3 => ?_) (fun h3 => ?_)
  · skip
    rw [Int32.lt_iff_toInt_lt, nI_toInt (n := 56320) (by omega)] at h3
    exact ret (sc, tk) dSi_readLow_37 (Or.inr ⟨by omega, rfl, rfl⟩) hP hD hS
  · skip
    rw [Int32.lt_iff_toInt_lt, nI_toInt (n := 56320) (by omega)] at h3
    refine lv_iload_n hx hb dSi_readLow_6 rfl (lv_at hl 2 rfl) ?_
    refine lv_ldc (v := nI 57343) hx hb hown (hw _ w_180) dSi_readLow_7 ?_
    refine lv_icmp_gt (tgt := 37) hx hb dSi_readLow_9 (by decide) (fun h9 => ?_) (fun h9 => ?_)
    · skip
      rw [Int32.lt_iff_toInt_lt, nI_toInt (n := 57343) (by omega)] at h9
      exact ret (sc, tk) dSi_readLow_37 (Or.inr ⟨by omega, rfl, rfl⟩) hP hD hS
    · skip
      rw [Int32.lt_iff_toInt_lt, nI_toInt (n := 57343) (by omega)] at h9
      obtain ⟨ex1, ex2, ex3⟩ := tn_of hx1.1 (by decide)
      obtain ⟨ey1, ey2, ey3⟩ := tn_of (show 56320 ≤ y.toInt by omega) (by decide)
      refine lv_aload_n hx hb dSi_readLow_12 rfl (lv_at hl 0 rfl) ?_
      refine lv_iconst (v := nI 2) hx hb dSi_readLow_13 (by decide) ?_
      refine va_put (D := D) (ci := 2) (v := .int (nI 2)) (ty := .int) (C := R_Si) (T := T_Si) (N := 2) hx hb hw in_Si ty_Si ty_Si_ok nm_Si hown hK hP hD hS 0 rfl rfl 1 (by decide) (hw _ w_48) (fun x9 h9 => u_same (hw _ w_49) x9 h9) rfl (by decide +kernel) rfl rfl (Nat.le_of_ble_eq_true rfl) dSi_readLow_14 (fun H locs hP hD hS => ?_)
      have hP : va_P D vwCl [(h8, .inr (2, [.int sc, .int (nI 2)]))] H := hP
      have hD : va_D A [(h8, .inr (2, [.int sc, .int (nI 2)]))] := hD
      refine lv_aload_n hx hb dSi_readLow_17 rfl (lv_at hl 0 rfl) ?_
      refine lv_ldc (v := nI 65536) hx hb hown (hw _ w_181) dSi_readLow_18 ?_
      refine lv_iload_n hx hb dSi_readLow_20 rfl (lv_at hl 1 rfl) ?_
      refine lv_ldc (v := nI 55296) hx hb hown (hw _ w_174) dSi_readLow_21 ?_
      refine lv_isub hx hb dSi_readLow_23 ?_
      refine lv_rei (y := nI (tn x - 55296)) (sub_r ex1 (by omega)) ?_
      refine lv_sipush (v := nI 1024) hx hb dSi_readLow_24 (by decide) ?_
      refine lv_imul hx hb dSi_readLow_27 ?_
      refine lv_rei (y := nI ((tn x - 55296) * 1024)) (pk_mul _ _) ?_
      refine lv_iadd hx hb dSi_readLow_28 ?_
      refine lv_rei (y := nI (65536 + ((tn x - 55296) * 1024))) (nI_add _ _) ?_
      refine lv_iload_n hx hb dSi_readLow_29 rfl (lv_at hl 2 rfl) ?_
      refine lv_ldc (v := nI 56320) hx hb hown (hw _ w_175) dSi_readLow_30 ?_
      refine lv_isub hx hb dSi_readLow_32 ?_
      refine lv_rei (y := nI (tn y - 56320)) (sub_r ey1 (by omega)) ?_
      refine lv_iadd hx hb dSi_readLow_33 ?_
      refine lv_rei (y := nI (65536 + ((tn x - 55296) * 1024) + (tn y - 56320))) (nI_add _ _) ?_
      refine va_put (D := D) (ci := 2) (v := .int (nI (65536 + ((tn x - 55296) * 1024) + (tn y - 56320)))) (ty := .int) (C := R_Si) (T := T_Si) (N := 2) hx hb hw in_Si ty_Si ty_Si_ok nm_Si hown hK hP hD hS 0 rfl rfl 0 (by decide) (hw _ w_43) (fun x9 h9 => u_same (hw _ w_44) x9 h9) rfl (by decide +kernel) rfl rfl (Nat.le_of_ble_eq_true rfl) dSi_readLow_34 (fun H locs hP hD hS => ?_)
      have hP : va_P D vwCl [(h8, .inr (2, [.int (nI (65536 + ((tn x - 55296) * 1024) + (tn y - 56320))), .int (nI 2)]))] H := hP
      have hD : va_D A [(h8, .inr (2, [.int (nI (65536 + ((tn x - 55296) * 1024) + (tn y - 56320))), .int (nI 2)]))] := hD
      exact ret (nI (65536 + ((tn x - 55296) * 1024) + (tn y - 56320)), nI 2) dSi_readLow_37 (Or.inl ⟨by omega, rfl, rfl⟩) hP hD hS
set_option maxHeartbeats 4000000 in
set_option maxRecDepth 100000 in
theorem k_Si_readOne (l : Launch) (D : va_G) (cA : ClassId) (sz : Nat) (h8 : Nat) (sc tk : Int32) (h a N : Nat) (L : List Int32) (f : Nat → Int32) (p0 : Nat) (hf : Hd f L) (hc : L.length ≤ N) (hN : N < 2 ^ 31) (hp0 : p0 < 2 ^ 30) : KV l D cA y_Si_readOne c_Si_readOne 4 1 22 [.ref h8, .ref h, .int (nI p0)] sz [(h8, .inr (2, [.int sc, .int tk])), (h, .inr (0, [.ref a, .int (nI L.length)])), (a, .inl (cA, N, .inl f))] (S := Unit) (fun _ => True) (fun _ => [(h8, .inr (2, [.int (ov (rd16 (un L) p0).1), .int (nI (rd16 (un L) p0).2)])), (h, .inr (0, [.ref a, .int (nI L.length)])), (a, .inl (cA, N, .inl f))]) := by
  refine KV.of (by decide) (Nat.le_of_ble_eq_true rfl) ?_
  intro p e s m args below meth c Q R A ls Xf hR hA hS hP hD hK hn hl ret
  have hx := Xf.1
  have hb := Xf.2.1
  have hown : s.vm.findClass "ScalarScribe$Sixteens" = some m.cls := Xf.2.2.2.1
  have hw := Xf.2.2.2.2
  have hl : lv_has ls 4 [(0, .ref h8), (1, .ref h), (2, .int (nI p0))] := hl
  refine lv_aload_n hx hb dSi_readOne_0 rfl (lv_at hl 1 rfl) ?_
  refine lv_iload_n hx hb dSi_readOne_1 rfl (lv_at hl 2 rfl) ?_
  refine ca_i (wr := [(h8, .inr (2, [.int sc, .int tk]))]) (va_runV (As := [.int (nI p0)]) (rest := []) Xf (k_Row_unitAt l D cA _ h a N L f (nI p0) hf hc hN) ⟨cb_of 1 hw w_154 w_2 w_173 (by decide +kernel) (by rw [hR]; exact ⟨Nat.le_of_ble_eq_true rfl, Nat.le_of_ble_eq_true rfl⟩), hw _ w_152, hw _ w_153⟩ (pre_V (As := [.int (nI p0)]) hP hD hK hn [1, 2] rfl (by decide) 1 0 rfl rfl) rfl rfl hl.1 rfl (lv_room (Nat.le_of_ble_eq_true rfl)) dSi_readOne_2 ⟨Nat.zero_le _, Nat.zero_le _⟩) hP hD hS hA [1, 2] [0] rfl rfl (by decide) (by decide) (fun r2 u_ H locs hq_ hP hD hS => ?_)
  obtain rfl : r2 = un L p0 := hq_.trans (gt_n (by omega) (by omega))
  replace hP : va_P D vwCl [(h8, .inr (2, [.int sc, .int tk])), (h, .inr (0, [.ref a, .int (nI L.length)])), (a, .inl (cA, N, .inl f))] H := hP.sub [0, 1, 2] rfl
  replace hD : va_D A [(h8, .inr (2, [.int sc, .int tk])), (h, .inr (0, [.ref a, .int (nI L.length)])), (a, .inl (cA, N, .inl f))] := hD.sub [0, 1, 2] (by decide) rfl
  refine lv_istore_n (lv' := [(3, .int (un L p0)), (0, .ref h8), (1, .ref h), (2, .int (nI p0))]) hx hb dSi_readOne_5 rfl hl (by decide) rfl (fun ls hl => ?_)
  refine lv_aload_n hx hb dSi_readOne_6 rfl (lv_at hl 1 rfl) ?_
  refine lv_iconst (v := (-1)) hx hb dSi_readOne_7 (by decide) ?_
  refine va_put (D := D) (ci := 2) (v := .int (-1)) (ty := .int) (C := R_Si) (T := T_Si) (N := 2) hx hb hw in_Si ty_Si ty_Si_ok nm_Si hown hK hP hD hS 0 rfl rfl 0 (by decide) (hw _ w_43) (fun x9 h9 => u_same (hw _ w_44) x9 h9) rfl (by decide +kernel) rfl rfl (Nat.le_of_ble_eq_true rfl) dSi_readOne_8 (fun H locs hP hD hS => ?_)
  have hP : va_P D vwCl [(h8, .inr (2, [.int (-1), .int tk])), (h, .inr (0, [.ref a, .int (nI L.length)])), (a, .inl (cA, N, .inl f))] H := hP
  have hD : va_D A [(h8, .inr (2, [.int (-1), .int tk])), (h, .inr (0, [.ref a, .int (nI L.length)])), (a, .inl (cA, N, .inl f))] := hD
  refine lv_aload_n hx hb dSi_readOne_11 rfl (lv_at hl 1 rfl) ?_
  refine lv_iconst (v := nI 0) hx hb dSi_readOne_12 (by decide) ?_
  refine va_put (D := D) (ci := 2) (v := .int (nI 0)) (ty := .int) (C := R_Si) (T := T_Si) (N := 2) hx hb hw in_Si ty_Si ty_Si_ok nm_Si hown hK hP hD hS 0 rfl rfl 1 (by decide) (hw _ w_48) (fun x9 h9 => u_same (hw _ w_49) x9 h9) rfl (by decide +kernel) rfl rfl (Nat.le_of_ble_eq_true rfl) dSi_readOne_13 (fun H locs hP hD hS => ?_)
  have hP : va_P D vwCl [(h8, .inr (2, [.int (-1), .int (nI 0)])), (h, .inr (0, [.ref a, .int (nI L.length)])), (a, .inl (cA, N, .inl f))] H := hP
  have hD : va_D A [(h8, .inr (2, [.int (-1), .int (nI 0)])), (h, .inr (0, [.ref a, .int (nI L.length)])), (a, .inl (cA, N, .inl f))] := hD
  refine lv_iload_n hx hb dSi_readOne_16 rfl (lv_at hl 0 rfl) ?_
  refine lv_ldc (v := nI 55296) hx hb hown (hw _ w_174) dSi_readOne_17 ?_
  refine lv_icmp_lt (tgt := 48) hx hb dSi_readOne_19 (by decide) (fun h19 => ?_) (fun h19 => ?_)
  · skip
    rw [Int32.lt_iff_toInt_lt, nI_toInt (n := 55296) (by omega)] at h19
    refine lv_iload_n hx hb dSi_readOne_48 rfl (lv_at hl 0 rfl) ?_
    refine lv_ldc (v := nI 65536) hx hb hown (hw _ w_181) dSi_readOne_49 ?_
    refine lv_icmp_ge (tgt := 71) hx hb dSi_readOne_51 (by decide) (fun h51 => ?_) (fun h51 => ?_)
    · skip
      rw [Int32.le_iff_toInt_le, nI_toInt (n := 65536) (by omega)] at h51
      have er : rd16 (un L) p0 = (none, 0) := by unfold rd16; (repeat' split) <;> first | omega | rfl
      replace hP : va_P D vwCl [(h8, .inr (2, [.int (ov (rd16 (un L) p0).1), .int (nI (rd16 (un L) p0).2)])), (h, .inr (0, [.ref a, .int (nI L.length)])), (a, .inl (cA, N, .inl f))] H := by rw [er]; exact hP
      replace hD : va_D A [(h8, .inr (2, [.int (ov (rd16 (un L) p0).1), .int (nI (rd16 (un L) p0).2)])), (h, .inr (0, [.ref a, .int (nI L.length)])), (a, .inl (cA, N, .inl f))] := by rw [er]; exact hD
      exact ret () dSi_readOne_71 trivial hP hD hS
    · skip
      rw [Int32.le_iff_toInt_le, nI_toInt (n := 65536) (by omega)] at h51
      refine lv_iload_n hx hb dSi_readOne_54 rfl (lv_at hl 0 rfl) ?_
      refine ca_i (wr := [(h8, .inr (2, [.int (-1), .int (nI 0)])), (h, .inr (0, [.ref a, .int (nI L.length)])), (a, .inl (cA, N, .inl f))]) (va_runSN (As := [.int (un L p0)]) (rest := []) Xf (k_Sc_isScalar l D cA _ (un L p0)) ⟨cn_of 1 hw hn w_184 w_1 w_182 (by decide +kernel) (by rw [hR]; exact ⟨Nat.le_of_ble_eq_true rfl, Nat.le_of_ble_eq_true rfl⟩), hw _ w_183, trivial⟩ (pre_S hP hD hK hn [] rfl (by decide)) rfl rfl hl.1 rfl (lv_room (Nat.le_of_ble_eq_true rfl)) dSi_readOne_55 ⟨Nat.zero_le _, Nat.zero_le _⟩) hP hD hS hA [] [0, 1, 2] rfl rfl (by decide) (by decide) (fun r55 u_ H locs hq_ hP hD hS => ?_)
      rcases hq_ with ⟨hk55_1, rfl⟩ | ⟨hk55_1, rfl⟩
      · skip
        replace hP : va_P D vwCl [(h8, .inr (2, [.int (-1), .int (nI 0)])), (h, .inr (0, [.ref a, .int (nI L.length)])), (a, .inl (cA, N, .inl f))] H := hP.sub [0, 1, 2] rfl
        replace hD : va_D A [(h8, .inr (2, [.int (-1), .int (nI 0)])), (h, .inr (0, [.ref a, .int (nI L.length)])), (a, .inl (cA, N, .inl f))] := hD.sub [0, 1, 2] (by decide) rfl
        refine lv_if_eq (tgt := 71) hx hb dSi_readOne_58 (by decide) (fun h58 => ?_) (fun h58 => ?_)
        · skip
          exact absurd h58 (by decide)
        · skip
          refine lv_aload_n hx hb dSi_readOne_61 rfl (lv_at hl 1 rfl) ?_
          refine lv_iconst (v := nI 1) hx hb dSi_readOne_62 (by decide) ?_
          refine va_put (D := D) (ci := 2) (v := .int (nI 1)) (ty := .int) (C := R_Si) (T := T_Si) (N := 2) hx hb hw in_Si ty_Si ty_Si_ok nm_Si hown hK hP hD hS 0 rfl rfl 1 (by decide) (hw _ w_48) (fun x9 h9 => u_same (hw _ w_49) x9 h9) rfl (by decide +kernel) rfl rfl (Nat.le_of_ble_eq_true rfl) dSi_readOne_63 (fun H locs hP hD hS => ?_)
          have hP : va_P D vwCl [(h8, .inr (2, [.int (-1), .int (nI 1)])), (h, .inr (0, [.ref a, .int (nI L.length)])), (a, .inl (cA, N, .inl f))] H := hP
          have hD : va_D A [(h8, .inr (2, [.int (-1), .int (nI 1)])), (h, .inr (0, [.ref a, .int (nI L.length)])), (a, .inl (cA, N, .inl f))] := hD
          refine lv_aload_n hx hb dSi_readOne_66 rfl (lv_at hl 1 rfl) ?_
          refine lv_iload_n hx hb dSi_readOne_67 rfl (lv_at hl 0 rfl) ?_
          refine va_put (D := D) (ci := 2) (v := .int (un L p0)) (ty := .int) (C := R_Si) (T := T_Si) (N := 2) hx hb hw in_Si ty_Si ty_Si_ok nm_Si hown hK hP hD hS 0 rfl rfl 0 (by decide) (hw _ w_43) (fun x9 h9 => u_same (hw _ w_44) x9 h9) rfl (by decide +kernel) rfl rfl (Nat.le_of_ble_eq_true rfl) dSi_readOne_68 (fun H locs hP hD hS => ?_)
          have hP : va_P D vwCl [(h8, .inr (2, [.int (un L p0), .int (nI 1)])), (h, .inr (0, [.ref a, .int (nI L.length)])), (a, .inl (cA, N, .inl f))] H := hP
          have hD : va_D A [(h8, .inr (2, [.int (un L p0), .int (nI 1)])), (h, .inr (0, [.ref a, .int (nI L.length)])), (a, .inl (cA, N, .inl f))] := hD
          obtain ⟨ea, eb, ec⟩ := tn_of hk55_1.1.1 (by decide)
          have er : rd16 (un L) p0 = (some (tn (un L p0)), 1) := by unfold rd16; (repeat' split) <;> first | omega | rfl
          have eo : un L p0 = ov (rd16 (un L) p0).1 := by rw [er]; exact ea
          have et : (1 : Nat) = (rd16 (un L) p0).2 := by rw [er]
          replace hP : va_P D vwCl [(h8, .inr (2, [.int (ov (rd16 (un L) p0).1), .int (nI (rd16 (un L) p0).2)])), (h, .inr (0, [.ref a, .int (nI L.length)])), (a, .inl (cA, N, .inl f))] H := by rw [← eo, ← et]; exact hP
          replace hD : va_D A [(h8, .inr (2, [.int (ov (rd16 (un L) p0).1), .int (nI (rd16 (un L) p0).2)])), (h, .inr (0, [.ref a, .int (nI L.length)])), (a, .inl (cA, N, .inl f))] := by rw [← eo, ← et]; exact hD
          exact ret () dSi_readOne_71 trivial hP hD hS
      · skip
        replace hP : va_P D vwCl [(h8, .inr (2, [.int (-1), .int (nI 0)])), (h, .inr (0, [.ref a, .int (nI L.length)])), (a, .inl (cA, N, .inl f))] H := hP.sub [0, 1, 2] rfl
        replace hD : va_D A [(h8, .inr (2, [.int (-1), .int (nI 0)])), (h, .inr (0, [.ref a, .int (nI L.length)])), (a, .inl (cA, N, .inl f))] := hD.sub [0, 1, 2] (by decide) rfl
        refine lv_if_eq (tgt := 71) hx hb dSi_readOne_58 (by decide) (fun h58 => ?_) (fun h58 => ?_)
        · skip
          have er : rd16 (un L) p0 = (none, 0) := by unfold rd16; (repeat' split) <;> first | omega | rfl
          replace hP : va_P D vwCl [(h8, .inr (2, [.int (ov (rd16 (un L) p0).1), .int (nI (rd16 (un L) p0).2)])), (h, .inr (0, [.ref a, .int (nI L.length)])), (a, .inl (cA, N, .inl f))] H := by rw [er]; exact hP
          replace hD : va_D A [(h8, .inr (2, [.int (ov (rd16 (un L) p0).1), .int (nI (rd16 (un L) p0).2)])), (h, .inr (0, [.ref a, .int (nI L.length)])), (a, .inl (cA, N, .inl f))] := by rw [er]; exact hD
          exact ret () dSi_readOne_71 trivial hP hD hS
        · skip
          exact absurd h58 (by decide)
  · skip
    rw [Int32.lt_iff_toInt_lt, nI_toInt (n := 55296) (by omega)] at h19
    refine lv_iload_n hx hb dSi_readOne_22 rfl (lv_at hl 0 rfl) ?_
    refine lv_ldc (v := nI 56320) hx hb hown (hw _ w_175) dSi_readOne_23 ?_
    refine lv_icmp_ge (tgt := 48) hx hb dSi_readOne_25 (by decide) (fun h25 => ?_) (fun h25 => ?_)
    · skip
      rw [Int32.le_iff_toInt_le, nI_toInt (n := 56320) (by omega)] at h25
      refine lv_iload_n hx hb dSi_readOne_48 rfl (lv_at hl 0 rfl) ?_
      refine lv_ldc (v := nI 65536) hx hb hown (hw _ w_181) dSi_readOne_49 ?_
      refine lv_icmp_ge (tgt := 71) hx hb dSi_readOne_51 (by decide) (fun h51 => ?_) (fun h51 => ?_)
      · skip
        rw [Int32.le_iff_toInt_le, nI_toInt (n := 65536) (by omega)] at h51
        have er : rd16 (un L) p0 = (none, 0) := by unfold rd16; (repeat' split) <;> first | omega | rfl
        replace hP : va_P D vwCl [(h8, .inr (2, [.int (ov (rd16 (un L) p0).1), .int (nI (rd16 (un L) p0).2)])), (h, .inr (0, [.ref a, .int (nI L.length)])), (a, .inl (cA, N, .inl f))] H := by rw [er]; exact hP
        replace hD : va_D A [(h8, .inr (2, [.int (ov (rd16 (un L) p0).1), .int (nI (rd16 (un L) p0).2)])), (h, .inr (0, [.ref a, .int (nI L.length)])), (a, .inl (cA, N, .inl f))] := by rw [er]; exact hD
        exact ret () dSi_readOne_71 trivial hP hD hS
      · skip
        rw [Int32.le_iff_toInt_le, nI_toInt (n := 65536) (by omega)] at h51
        refine lv_iload_n hx hb dSi_readOne_54 rfl (lv_at hl 0 rfl) ?_
        refine ca_i (wr := [(h8, .inr (2, [.int (-1), .int (nI 0)])), (h, .inr (0, [.ref a, .int (nI L.length)])), (a, .inl (cA, N, .inl f))]) (va_runSN (As := [.int (un L p0)]) (rest := []) Xf (k_Sc_isScalar l D cA _ (un L p0)) ⟨cn_of 1 hw hn w_184 w_1 w_182 (by decide +kernel) (by rw [hR]; exact ⟨Nat.le_of_ble_eq_true rfl, Nat.le_of_ble_eq_true rfl⟩), hw _ w_183, trivial⟩ (pre_S hP hD hK hn [] rfl (by decide)) rfl rfl hl.1 rfl (lv_room (Nat.le_of_ble_eq_true rfl)) dSi_readOne_55 ⟨Nat.zero_le _, Nat.zero_le _⟩) hP hD hS hA [] [0, 1, 2] rfl rfl (by decide) (by decide) (fun r55 u_ H locs hq_ hP hD hS => ?_)
        rcases hq_ with ⟨hk55_2, rfl⟩ | ⟨hk55_2, rfl⟩
        · skip
          replace hP : va_P D vwCl [(h8, .inr (2, [.int (-1), .int (nI 0)])), (h, .inr (0, [.ref a, .int (nI L.length)])), (a, .inl (cA, N, .inl f))] H := hP.sub [0, 1, 2] rfl
          replace hD : va_D A [(h8, .inr (2, [.int (-1), .int (nI 0)])), (h, .inr (0, [.ref a, .int (nI L.length)])), (a, .inl (cA, N, .inl f))] := hD.sub [0, 1, 2] (by decide) rfl
          refine lv_if_eq (tgt := 71) hx hb dSi_readOne_58 (by decide) (fun h58 => ?_) (fun h58 => ?_)
          · skip
            exact absurd h58 (by decide)
          · skip
            refine lv_aload_n hx hb dSi_readOne_61 rfl (lv_at hl 1 rfl) ?_
            refine lv_iconst (v := nI 1) hx hb dSi_readOne_62 (by decide) ?_
            refine va_put (D := D) (ci := 2) (v := .int (nI 1)) (ty := .int) (C := R_Si) (T := T_Si) (N := 2) hx hb hw in_Si ty_Si ty_Si_ok nm_Si hown hK hP hD hS 0 rfl rfl 1 (by decide) (hw _ w_48) (fun x9 h9 => u_same (hw _ w_49) x9 h9) rfl (by decide +kernel) rfl rfl (Nat.le_of_ble_eq_true rfl) dSi_readOne_63 (fun H locs hP hD hS => ?_)
            have hP : va_P D vwCl [(h8, .inr (2, [.int (-1), .int (nI 1)])), (h, .inr (0, [.ref a, .int (nI L.length)])), (a, .inl (cA, N, .inl f))] H := hP
            have hD : va_D A [(h8, .inr (2, [.int (-1), .int (nI 1)])), (h, .inr (0, [.ref a, .int (nI L.length)])), (a, .inl (cA, N, .inl f))] := hD
            refine lv_aload_n hx hb dSi_readOne_66 rfl (lv_at hl 1 rfl) ?_
            refine lv_iload_n hx hb dSi_readOne_67 rfl (lv_at hl 0 rfl) ?_
            refine va_put (D := D) (ci := 2) (v := .int (un L p0)) (ty := .int) (C := R_Si) (T := T_Si) (N := 2) hx hb hw in_Si ty_Si ty_Si_ok nm_Si hown hK hP hD hS 0 rfl rfl 0 (by decide) (hw _ w_43) (fun x9 h9 => u_same (hw _ w_44) x9 h9) rfl (by decide +kernel) rfl rfl (Nat.le_of_ble_eq_true rfl) dSi_readOne_68 (fun H locs hP hD hS => ?_)
            have hP : va_P D vwCl [(h8, .inr (2, [.int (un L p0), .int (nI 1)])), (h, .inr (0, [.ref a, .int (nI L.length)])), (a, .inl (cA, N, .inl f))] H := hP
            have hD : va_D A [(h8, .inr (2, [.int (un L p0), .int (nI 1)])), (h, .inr (0, [.ref a, .int (nI L.length)])), (a, .inl (cA, N, .inl f))] := hD
            obtain ⟨ea, eb, ec⟩ := tn_of hk55_2.1.1 (by decide)
            have er : rd16 (un L) p0 = (some (tn (un L p0)), 1) := by unfold rd16; (repeat' split) <;> first | omega | rfl
            have eo : un L p0 = ov (rd16 (un L) p0).1 := by rw [er]; exact ea
            have et : (1 : Nat) = (rd16 (un L) p0).2 := by rw [er]
            replace hP : va_P D vwCl [(h8, .inr (2, [.int (ov (rd16 (un L) p0).1), .int (nI (rd16 (un L) p0).2)])), (h, .inr (0, [.ref a, .int (nI L.length)])), (a, .inl (cA, N, .inl f))] H := by rw [← eo, ← et]; exact hP
            replace hD : va_D A [(h8, .inr (2, [.int (ov (rd16 (un L) p0).1), .int (nI (rd16 (un L) p0).2)])), (h, .inr (0, [.ref a, .int (nI L.length)])), (a, .inl (cA, N, .inl f))] := by rw [← eo, ← et]; exact hD
            exact ret () dSi_readOne_71 trivial hP hD hS
        · skip
          replace hP : va_P D vwCl [(h8, .inr (2, [.int (-1), .int (nI 0)])), (h, .inr (0, [.ref a, .int (nI L.length)])), (a, .inl (cA, N, .inl f))] H := hP.sub [0, 1, 2] rfl
          replace hD : va_D A [(h8, .inr (2, [.int (-1), .int (nI 0)])), (h, .inr (0, [.ref a, .int (nI L.length)])), (a, .inl (cA, N, .inl f))] := hD.sub [0, 1, 2] (by decide) rfl
          refine lv_if_eq (tgt := 71) hx hb dSi_readOne_58 (by decide) (fun h58 => ?_) (fun h58 => ?_)
          · skip
            have er : rd16 (un L) p0 = (none, 0) := by unfold rd16; (repeat' split) <;> first | omega | rfl
            replace hP : va_P D vwCl [(h8, .inr (2, [.int (ov (rd16 (un L) p0).1), .int (nI (rd16 (un L) p0).2)])), (h, .inr (0, [.ref a, .int (nI L.length)])), (a, .inl (cA, N, .inl f))] H := by rw [er]; exact hP
            replace hD : va_D A [(h8, .inr (2, [.int (ov (rd16 (un L) p0).1), .int (nI (rd16 (un L) p0).2)])), (h, .inr (0, [.ref a, .int (nI L.length)])), (a, .inl (cA, N, .inl f))] := by rw [er]; exact hD
            exact ret () dSi_readOne_71 trivial hP hD hS
          · skip
            exact absurd h58 (by decide)
    · skip
      rw [Int32.le_iff_toInt_le, nI_toInt (n := 56320) (by omega)] at h25
      refine lv_aload_n hx hb dSi_readOne_28 rfl (lv_at hl 1 rfl) ?_
      refine lv_iconst (v := nI 1) hx hb dSi_readOne_29 (by decide) ?_
      refine va_put (D := D) (ci := 2) (v := .int (nI 1)) (ty := .int) (C := R_Si) (T := T_Si) (N := 2) hx hb hw in_Si ty_Si ty_Si_ok nm_Si hown hK hP hD hS 0 rfl rfl 1 (by decide) (hw _ w_48) (fun x9 h9 => u_same (hw _ w_49) x9 h9) rfl (by decide +kernel) rfl rfl (Nat.le_of_ble_eq_true rfl) dSi_readOne_30 (fun H locs hP hD hS => ?_)
      have hP : va_P D vwCl [(h8, .inr (2, [.int (-1), .int (nI 1)])), (h, .inr (0, [.ref a, .int (nI L.length)])), (a, .inl (cA, N, .inl f))] H := hP
      have hD : va_D A [(h8, .inr (2, [.int (-1), .int (nI 1)])), (h, .inr (0, [.ref a, .int (nI L.length)])), (a, .inl (cA, N, .inl f))] := hD
      refine lv_aload_n hx hb dSi_readOne_33 rfl (lv_at hl 1 rfl) ?_
      refine lv_iload_n hx hb dSi_readOne_34 rfl (lv_at hl 0 rfl) ?_
      refine lv_aload_n hx hb dSi_readOne_35 rfl (lv_at hl 2 rfl) ?_
      refine lv_iload_n hx hb dSi_readOne_36 rfl (lv_at hl 3 rfl) ?_
      refine lv_iconst (v := nI 1) hx hb dSi_readOne_37 (by decide) ?_
      refine lv_iadd hx hb dSi_readOne_38 ?_
      refine lv_rei (y := nI (p0 + 1)) (nI_add _ _) ?_
      refine ca_i (wr := [(h8, .inr (2, [.int (-1), .int (nI 1)]))]) (va_runV (As := [.int (nI (p0 + 1))]) (rest := [.int (un L p0), .ref h8]) Xf (k_Row_unitAt l D cA _ h a N L f (nI (p0 + 1)) hf hc hN) ⟨cb_of 1 hw w_154 w_2 w_173 (by decide +kernel) (by rw [hR]; exact ⟨Nat.le_of_ble_eq_true rfl, Nat.le_of_ble_eq_true rfl⟩), hw _ w_152, hw _ w_153⟩ (pre_V (As := [.int (nI (p0 + 1))]) hP hD hK hn [1, 2] rfl (by decide) 1 0 rfl rfl) rfl rfl hl.1 rfl (lv_room (Nat.le_of_ble_eq_true rfl)) dSi_readOne_39 ⟨Nat.zero_le _, Nat.zero_le _⟩) hP hD hS hA [1, 2] [0] rfl rfl (by decide) (by decide) (fun r39 u_ H locs hq_ hP hD hS => ?_)
      obtain rfl : r39 = un L (p0 + 1) := hq_.trans (gt_n (by omega) (by omega))
      replace hP : va_P D vwCl [(h8, .inr (2, [.int (-1), .int (nI 1)])), (h, .inr (0, [.ref a, .int (nI L.length)])), (a, .inl (cA, N, .inl f))] H := hP.sub [0, 1, 2] rfl
      replace hD : va_D A [(h8, .inr (2, [.int (-1), .int (nI 1)])), (h, .inr (0, [.ref a, .int (nI L.length)])), (a, .inl (cA, N, .inl f))] := hD.sub [0, 1, 2] (by decide) rfl
      refine ca_v (wr := [(h, .inr (0, [.ref a, .int (nI L.length)])), (a, .inl (cA, N, .inl f))]) (va_runV (As := [.int (un L p0), .int (un L (p0 + 1))]) (rest := []) Xf (k_Si_readLow l D cA _ h8 (-1) (nI 1) (un L p0) (un L (p0 + 1)) ⟨by omega, by omega⟩) ⟨cb_of 2 hw w_179 w_5 w_176 (by decide +kernel) (by rw [hR]; exact ⟨Nat.le_of_ble_eq_true rfl, Nat.le_of_ble_eq_true rfl⟩), hw _ w_178, hw _ ws_1⟩ (pre_V (As := [.int (un L p0), .int (un L (p0 + 1))]) hP hD hK hn [0] rfl (by decide) 0 2 rfl rfl) rfl rfl hl.1 rfl (lv_room (Nat.le_of_ble_eq_true rfl)) dSi_readOne_42 ⟨Nat.zero_le _, Nat.zero_le _⟩) hP hD hS hA [0] [1, 2] rfl rfl (by decide) (by decide) (fun u_ H locs hq_ hP hD hS => ?_)
      obtain ⟨u1_, u2_⟩ := u_
      dsimp only at hq_ hP hD
      rcases hq_ with ⟨hk42_3, rfl, rfl⟩ | ⟨hk42_3, rfl, rfl⟩
      · skip
        replace hP : va_P D vwCl [(h8, .inr (2, [.int (nI (65536 + (tn (un L p0) - 55296) * 1024 + (tn (un L (p0 + 1)) - 56320))), .int (nI 2)])), (h, .inr (0, [.ref a, .int (nI L.length)])), (a, .inl (cA, N, .inl f))] H := hP.sub [2, 0, 1] rfl
        replace hD : va_D A [(h8, .inr (2, [.int (nI (65536 + (tn (un L p0) - 55296) * 1024 + (tn (un L (p0 + 1)) - 56320))), .int (nI 2)])), (h, .inr (0, [.ref a, .int (nI L.length)])), (a, .inl (cA, N, .inl f))] := hD.sub [2, 0, 1] (by decide) rfl
        refine lv_goto (tgt := 71) hx hb dSi_readOne_45 (by decide) ?_
        have er : rd16 (un L) p0 = (some (65536 + (tn (un L p0) - 55296) * 1024 + (tn (un L (p0 + 1)) - 56320)), 2) := by unfold rd16; (repeat' split) <;> first | omega | rfl
        replace hP : va_P D vwCl [(h8, .inr (2, [.int (ov (rd16 (un L) p0).1), .int (nI (rd16 (un L) p0).2)])), (h, .inr (0, [.ref a, .int (nI L.length)])), (a, .inl (cA, N, .inl f))] H := by rw [er]; exact hP
        replace hD : va_D A [(h8, .inr (2, [.int (ov (rd16 (un L) p0).1), .int (nI (rd16 (un L) p0).2)])), (h, .inr (0, [.ref a, .int (nI L.length)])), (a, .inl (cA, N, .inl f))] := by rw [er]; exact hD
        exact ret () dSi_readOne_71 trivial hP hD hS
      · skip
        replace hP : va_P D vwCl [(h8, .inr (2, [.int (-1), .int (nI 1)])), (h, .inr (0, [.ref a, .int (nI L.length)])), (a, .inl (cA, N, .inl f))] H := hP.sub [2, 0, 1] rfl
        replace hD : va_D A [(h8, .inr (2, [.int (-1), .int (nI 1)])), (h, .inr (0, [.ref a, .int (nI L.length)])), (a, .inl (cA, N, .inl f))] := hD.sub [2, 0, 1] (by decide) rfl
        refine lv_goto (tgt := 71) hx hb dSi_readOne_45 (by decide) ?_
        have er : rd16 (un L) p0 = (none, 1) := by unfold rd16; (repeat' split) <;> first | omega | rfl
        replace hP : va_P D vwCl [(h8, .inr (2, [.int (ov (rd16 (un L) p0).1), .int (nI (rd16 (un L) p0).2)])), (h, .inr (0, [.ref a, .int (nI L.length)])), (a, .inl (cA, N, .inl f))] H := by rw [er]; exact hP
        replace hD : va_D A [(h8, .inr (2, [.int (ov (rd16 (un L) p0).1), .int (nI (rd16 (un L) p0).2)])), (h, .inr (0, [.ref a, .int (nI L.length)])), (a, .inl (cA, N, .inl f))] := by rw [er]; exact hD
        exact ret () dSi_readOne_71 trivial hP hD hS
set_option maxHeartbeats 4000000 in
set_option maxRecDepth 100000 in
theorem k_Sc_orderOf (l : Launch) (D : va_G) (cA : ClassId) (sz : Nat) (x y : Nat) (hx1 : x < 2 ^ 31) (hy1 : y < 2 ^ 31) : KI l D cA y_Sc_orderOf c_Sc_orderOf 2 .int 0 0 [.int (nI x), .int (nI y)] sz [] (S := Unit) (fun r _ => r = ooN x y) (fun _ => []) := by
  refine KI.of (by decide) (Nat.le_of_ble_eq_true rfl) ?_
  intro p e s m args below meth c Q R A ls Xf hR hA hS hP hD hK hn hl ret
  have hx := Xf.1
  have hb := Xf.2.1
  have hown : s.vm.findClass "ScalarScribe" = some m.cls := Xf.2.2.2.1
  have hw := Xf.2.2.2.2
  have hl : lv_has ls 2 [(0, .int (nI x)), (1, .int (nI y))] := hl
  refine lv_iload_n hx hb dSc_orderOf_0 rfl (lv_at hl 0 rfl) ?_
  refine lv_iload_n hx hb dSc_orderOf_1 rfl (lv_at hl 1 rfl) ?_
  refine lv_icmp_ne (tgt := 7) hx hb dSc_orderOf_2 (by decide) (fun h2 => ?_) (fun h2 => ?_)
  · skip
    replace h2 := nt_ne (a := x) (b := y) (by omega) (by omega) h2
    refine lv_iload_n hx hb dSc_orderOf_7 rfl (lv_at hl 0 rfl) ?_
    refine lv_iload_n hx hb dSc_orderOf_8 rfl (lv_at hl 1 rfl) ?_
    refine lv_icmp_ge (tgt := 16) hx hb dSc_orderOf_9 (by decide) (fun h9 => ?_) (fun h9 => ?_)
    · skip
      replace h9 := nt_le (a := y) (b := x) (by omega) (by omega) h9
      refine lv_iconst (v := 1) hx hb dSc_orderOf_16 (by decide) ?_
      exact ret () dSc_orderOf_17 rfl (by unfold ooN; (repeat' split) <;> first | rfl | omega) hP hD hS
    · skip
      replace h9 := nt_nle (a := y) (b := x) (by omega) (by omega) h9
      refine lv_iconst (v := (-1)) hx hb dSc_orderOf_12 (by decide) ?_
      refine lv_goto (tgt := 17) hx hb dSc_orderOf_13 (by decide) ?_
      exact ret () dSc_orderOf_17 rfl (by unfold ooN; (repeat' split) <;> first | rfl | omega) hP hD hS
  · skip
    replace h2 := nt_eq (a := x) (b := y) (by omega) (by omega) h2
    refine lv_iconst (v := 0) hx hb dSc_orderOf_5 (by decide) ?_
    exact ret () dSc_orderOf_6 rfl (by unfold ooN; (repeat' split) <;> first | rfl | omega) hP hD hS
set_option maxHeartbeats 4000000 in
set_option maxRecDepth 100000 in
theorem k_Sc_orderBySixteens (l : Launch) (D : va_G) (cA : ClassId) (sz : Nat) (x y : Nat) (hx1 : x ≤ 1114111) (hy1 : y ≤ 1114111) : KI l D cA y_Sc_orderBySixteens c_Sc_orderBySixteens 3 .int 1 21 [.int (nI x), .int (nI y)] sz [] (S := Unit) (fun r _ => r = oo16 x y) (fun _ => []) := by
  refine KI.of (by decide) (Nat.le_of_ble_eq_true rfl) ?_
  intro p e s m args below meth c Q R A ls Xf hR hA hS hP hD hK hn hl ret
  have hx := Xf.1
  have hb := Xf.2.1
  have hown : s.vm.findClass "ScalarScribe" = some m.cls := Xf.2.2.2.1
  have hw := Xf.2.2.2.2
  have hl : lv_has ls 3 [(0, .int (nI x)), (1, .int (nI y))] := hl
  refine lv_iload_n hx hb dSc_orderBySixteens_0 rfl (lv_at hl 0 rfl) ?_
  refine ca_i (wr := []) (va_runS (As := [.int (nI x)]) (rest := []) Xf (k_Si_firstUnit l D cA _ x (by omega)) ⟨cb_of 1 hw w_283 w_5 w_354 (by decide +kernel) (by rw [hR]; exact ⟨Nat.le_of_ble_eq_true rfl, Nat.le_of_ble_eq_true rfl⟩), hw _ w_282⟩ (pre_S hP hD hK hn [] rfl (by decide)) rfl rfl hl.1 rfl (lv_room (Nat.le_of_ble_eq_true rfl)) dSc_orderBySixteens_1 ⟨Nat.zero_le _, Nat.zero_le _⟩) hP hD hS hA [] [] rfl rfl (by decide) (by decide) (fun r1 u_ H locs hq_ hP hD hS => ?_)
  obtain rfl : r1 = nI (fu x) := hq_
  replace hP : va_P D vwCl [] H := hP.sub [] rfl
  replace hD : va_D A [] := hD.sub [] (by decide) rfl
  refine lv_iload_n hx hb dSc_orderBySixteens_4 rfl (lv_at hl 1 rfl) ?_
  refine ca_i (wr := []) (va_runS (As := [.int (nI y)]) (rest := [.int (nI (fu x))]) Xf (k_Si_firstUnit l D cA _ y (by omega)) ⟨cb_of 1 hw w_283 w_5 w_354 (by decide +kernel) (by rw [hR]; exact ⟨Nat.le_of_ble_eq_true rfl, Nat.le_of_ble_eq_true rfl⟩), hw _ w_282⟩ (pre_S hP hD hK hn [] rfl (by decide)) rfl rfl hl.1 rfl (lv_room (Nat.le_of_ble_eq_true rfl)) dSc_orderBySixteens_5 ⟨Nat.zero_le _, Nat.zero_le _⟩) hP hD hS hA [] [] rfl rfl (by decide) (by decide) (fun r5 u_ H locs hq_ hP hD hS => ?_)
  obtain rfl : r5 = nI (fu y) := hq_
  replace hP : va_P D vwCl [] H := hP.sub [] rfl
  replace hD : va_D A [] := hD.sub [] (by decide) rfl
  refine ca_i (wr := []) (va_runS (As := [.int (nI (fu x)), .int (nI (fu y))]) (rest := []) Xf (k_Sc_orderOf l D cA _ (fu x) (fu y) (by have := fu_b hx1; omega) (by have := fu_b hy1; omega)) ⟨cb_of 2 hw w_357 w_1 w_355 (by decide +kernel) (by rw [hR]; exact ⟨Nat.le_of_ble_eq_true rfl, Nat.le_of_ble_eq_true rfl⟩), hw _ w_356⟩ (pre_S hP hD hK hn [] rfl (by decide)) rfl rfl hl.1 rfl (lv_room (Nat.le_of_ble_eq_true rfl)) dSc_orderBySixteens_8 ⟨Nat.zero_le _, Nat.zero_le _⟩) hP hD hS hA [] [] rfl rfl (by decide) (by decide) (fun r8 u_ H locs hq_ hP hD hS => ?_)
  obtain rfl : r8 = ooN (fu x) (fu y) := hq_
  replace hP : va_P D vwCl [] H := hP.sub [] rfl
  replace hD : va_D A [] := hD.sub [] (by decide) rfl
  refine lv_istore_n (lv' := [(2, .int (ooN (fu x) (fu y))), (0, .int (nI x)), (1, .int (nI y))]) hx hb dSc_orderBySixteens_11 rfl hl (by decide) rfl (fun ls hl => ?_)
  refine lv_iload_n hx hb dSc_orderBySixteens_12 rfl (lv_at hl 0 rfl) ?_
  refine lv_if_eq (tgt := 20) hx hb dSc_orderBySixteens_13 (by decide) (fun h13 => ?_) (fun h13 => ?_)
  · skip
    refine lv_iload_n hx hb dSc_orderBySixteens_20 rfl (lv_at hl 1 rfl) ?_
    refine lv_iload_n hx hb dSc_orderBySixteens_21 rfl (lv_at hl 2 rfl) ?_
    refine ca_i (wr := []) (va_runS (As := [.int (nI x), .int (nI y)]) (rest := []) Xf (k_Sc_orderOf l D cA _ x y (by omega) (by omega)) ⟨cb_of 2 hw w_357 w_1 w_355 (by decide +kernel) (by rw [hR]; exact ⟨Nat.le_of_ble_eq_true rfl, Nat.le_of_ble_eq_true rfl⟩), hw _ w_356⟩ (pre_S hP hD hK hn [] rfl (by decide)) rfl rfl hl.1 rfl (lv_room (Nat.le_of_ble_eq_true rfl)) dSc_orderBySixteens_22 ⟨Nat.zero_le _, Nat.zero_le _⟩) hP hD hS hA [] [] rfl rfl (by decide) (by decide) (fun r22 u_ H locs hq_ hP hD hS => ?_)
    obtain rfl : r22 = ooN x y := hq_
    replace hP : va_P D vwCl [] H := hP.sub [] rfl
    replace hD : va_D A [] := hD.sub [] (by decide) rfl
    exact ret () dSc_orderBySixteens_25 rfl (by unfold oo16; first | rw [if_pos h13] | rw [if_neg h13]) hP hD hS
  · skip
    refine lv_iload_n hx hb dSc_orderBySixteens_16 rfl (lv_at hl 0 rfl) ?_
    refine lv_goto (tgt := 25) hx hb dSc_orderBySixteens_17 (by decide) ?_
    exact ret () dSc_orderBySixteens_25 rfl (by unfold oo16; first | rw [if_pos h13] | rw [if_neg h13]) hP hD hS
