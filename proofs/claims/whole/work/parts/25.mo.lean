set_option maxHeartbeats 4000000 in
set_option maxRecDepth 100000 in
theorem k_Mo_isIn (l : Launch) (D : va_G) (cA : ClassId) (sz : Nat) (x : Int32) (lo hi : Nat) (hlo : lo < 2 ^ 31) (hhi : hi < 2 ^ 31) : KI l D cA y_Mo_isIn c_Mo_isIn 3 .boolean 0 0 [.int x, .int (nI lo), .int (nI hi)] sz [] (S := Unit) (fun r _ => (((lo : Int) ≤ x.toInt ∧ x.toInt ≤ (hi : Int)) ∧ r = 1) ∨ (¬ ((lo : Int) ≤ x.toInt ∧ x.toInt ≤ (hi : Int)) ∧ r = 0)) (fun _ => []) := by
  refine KI.of (by decide) (Nat.le_of_ble_eq_true rfl) ?_
  intro p e s m args below meth c Q R A ls Xf hR hA hS hP hD hK hn hl ret
  have hx := Xf.1
  have hb := Xf.2.1
  have hown : s.vm.findClass "ScalarScribeModel" = some m.cls := Xf.2.2.2.1
  have hw := Xf.2.2.2.2
  have hl : lv_has ls 3 [(0, .int x), (1, .int (nI lo)), (2, .int (nI hi))] := hl
  refine lv_iload_n hx hb dMo_isIn_0 rfl (lv_at hl 0 rfl) ?_
  refine lv_iload_n hx hb dMo_isIn_1 rfl (lv_at hl 1 rfl) ?_
  refine lv_icmp_lt (tgt := 14) hx hb dMo_isIn_2 (by decide) (fun h2 => ?_) (fun h2 => ?_)
  · skip
    rw [Int32.lt_iff_toInt_lt, nI_toInt (n := lo) (by omega)] at h2
    refine lv_iconst (v := nI 0) hx hb dMo_isIn_14 (by decide) ?_
    exact ret () dMo_isIn_15 rfl (Or.inr ⟨by omega, rfl⟩) hP hD hS
  · skip
    rw [Int32.lt_iff_toInt_lt, nI_toInt (n := lo) (by omega)] at h2
    refine lv_iload_n hx hb dMo_isIn_5 rfl (lv_at hl 0 rfl) ?_
    refine lv_iload_n hx hb dMo_isIn_6 rfl (lv_at hl 2 rfl) ?_
    refine lv_icmp_gt (tgt := 14) hx hb dMo_isIn_7 (by decide) (fun h7 => ?_) (fun h7 => ?_)
    · skip
      rw [Int32.lt_iff_toInt_lt, nI_toInt (n := hi) (by omega)] at h7
      refine lv_iconst (v := nI 0) hx hb dMo_isIn_14 (by decide) ?_
      exact ret () dMo_isIn_15 rfl (Or.inr ⟨by omega, rfl⟩) hP hD hS
    · skip
      rw [Int32.lt_iff_toInt_lt, nI_toInt (n := hi) (by omega)] at h7
      refine lv_iconst (v := nI 1) hx hb dMo_isIn_10 (by decide) ?_
      refine lv_goto (tgt := 15) hx hb dMo_isIn_11 (by decide) ?_
      exact ret () dMo_isIn_15 rfl (Or.inl ⟨by omega, rfl⟩) hP hD hS
set_option maxHeartbeats 4000000 in
set_option maxRecDepth 100000 in
theorem k_Mo_eights (l : Launch) (D : va_G) (cA : ClassId) (sz : Nat) (a : Int32)  : KI l D cA y_Mo_eights c_Mo_eights 1 .int 1 22 [.int a] sz [] (S := Unit) (fun r _ => r = nI (sz8 a)) (fun _ => []) := by
  refine KI.of (by decide) (Nat.le_of_ble_eq_true rfl) ?_
  intro p e s m args below meth c Q R A ls Xf hR hA hS hP hD hK hn hl ret
  have hx := Xf.1
  have hb := Xf.2.1
  have hown : s.vm.findClass "ScalarScribeModel" = some m.cls := Xf.2.2.2.1
  have hw := Xf.2.2.2.2
  have hl : lv_has ls 1 [(0, .int a)] := hl
  refine lv_iload_n hx hb dMo_eights_0 rfl (lv_at hl 0 rfl) ?_
  refine lv_iconst (v := nI 0) hx hb dMo_eights_1 (by decide) ?_
  refine lv_bipush (v := nI 127) hx hb dMo_eights_2 (by decide) ?_
  refine ca_i (wr := []) (va_runS (As := [.int a, .int (nI 0), .int (nI 127)]) (rest := []) Xf (k_Mo_isIn l D cA _ a 0 127 (by omega) (by omega)) ⟨cb_of 3 hw w_455 w_7 w_453 (by decide +kernel) (by rw [hR]; exact ⟨Nat.le_of_ble_eq_true rfl, Nat.le_of_ble_eq_true rfl⟩), hw _ w_454⟩ (pre_S hP hD hK hn [] rfl (by decide)) rfl rfl hl.1 rfl (lv_room (Nat.le_of_ble_eq_true rfl)) dMo_eights_4 ⟨Nat.zero_le _, Nat.zero_le _⟩) hP hD hS hA [] [] rfl rfl (by decide) (by decide) (fun r4 u_ H locs hq_ hP hD hS => ?_)
  rcases hq_ with ⟨hk4_1, rfl⟩ | ⟨hk4_1, rfl⟩
  · skip
    replace hP : va_P D vwCl [] H := hP.sub [] rfl
    replace hD : va_D A [] := hD.sub [] (by decide) rfl
    refine lv_if_eq (tgt := 14) hx hb dMo_eights_7 (by decide) (fun h7 => ?_) (fun h7 => ?_)
    · skip
      exact absurd h7 (by decide)
    · skip
      refine lv_iconst (v := nI 1) hx hb dMo_eights_10 (by decide) ?_
      refine lv_goto (tgt := 66) hx hb dMo_eights_11 (by decide) ?_
      exact ret () dMo_eights_66 rfl (congrArg nI (show 1 = sz8 a from by unfold sz8; (repeat' split) <;> omega)) hP hD hS
  · skip
    replace hP : va_P D vwCl [] H := hP.sub [] rfl
    replace hD : va_D A [] := hD.sub [] (by decide) rfl
    refine lv_if_eq (tgt := 14) hx hb dMo_eights_7 (by decide) (fun h7 => ?_) (fun h7 => ?_)
    · skip
      refine lv_iload_n hx hb dMo_eights_14 rfl (lv_at hl 0 rfl) ?_
      refine lv_sipush (v := nI 194) hx hb dMo_eights_15 (by decide) ?_
      refine lv_sipush (v := nI 223) hx hb dMo_eights_18 (by decide) ?_
      refine ca_i (wr := []) (va_runS (As := [.int a, .int (nI 194), .int (nI 223)]) (rest := []) Xf (k_Mo_isIn l D cA _ a 194 223 (by omega) (by omega)) ⟨cb_of 3 hw w_455 w_7 w_453 (by decide +kernel) (by rw [hR]; exact ⟨Nat.le_of_ble_eq_true rfl, Nat.le_of_ble_eq_true rfl⟩), hw _ w_454⟩ (pre_S hP hD hK hn [] rfl (by decide)) rfl rfl hl.1 rfl (lv_room (Nat.le_of_ble_eq_true rfl)) dMo_eights_21 ⟨Nat.zero_le _, Nat.zero_le _⟩) hP hD hS hA [] [] rfl rfl (by decide) (by decide) (fun r21 u_ H locs hq_ hP hD hS => ?_)
      rcases hq_ with ⟨hk21_2, rfl⟩ | ⟨hk21_2, rfl⟩
      · skip
        replace hP : va_P D vwCl [] H := hP.sub [] rfl
        replace hD : va_D A [] := hD.sub [] (by decide) rfl
        refine lv_if_eq (tgt := 31) hx hb dMo_eights_24 (by decide) (fun h24 => ?_) (fun h24 => ?_)
        · skip
          exact absurd h24 (by decide)
        · skip
          refine lv_iconst (v := nI 2) hx hb dMo_eights_27 (by decide) ?_
          refine lv_goto (tgt := 66) hx hb dMo_eights_28 (by decide) ?_
          exact ret () dMo_eights_66 rfl (congrArg nI (show 2 = sz8 a from by unfold sz8; (repeat' split) <;> omega)) hP hD hS
      · skip
        replace hP : va_P D vwCl [] H := hP.sub [] rfl
        replace hD : va_D A [] := hD.sub [] (by decide) rfl
        refine lv_if_eq (tgt := 31) hx hb dMo_eights_24 (by decide) (fun h24 => ?_) (fun h24 => ?_)
        · skip
          refine lv_iload_n hx hb dMo_eights_31 rfl (lv_at hl 0 rfl) ?_
          refine lv_sipush (v := nI 224) hx hb dMo_eights_32 (by decide) ?_
          refine lv_sipush (v := nI 239) hx hb dMo_eights_35 (by decide) ?_
          refine ca_i (wr := []) (va_runS (As := [.int a, .int (nI 224), .int (nI 239)]) (rest := []) Xf (k_Mo_isIn l D cA _ a 224 239 (by omega) (by omega)) ⟨cb_of 3 hw w_455 w_7 w_453 (by decide +kernel) (by rw [hR]; exact ⟨Nat.le_of_ble_eq_true rfl, Nat.le_of_ble_eq_true rfl⟩), hw _ w_454⟩ (pre_S hP hD hK hn [] rfl (by decide)) rfl rfl hl.1 rfl (lv_room (Nat.le_of_ble_eq_true rfl)) dMo_eights_38 ⟨Nat.zero_le _, Nat.zero_le _⟩) hP hD hS hA [] [] rfl rfl (by decide) (by decide) (fun r38 u_ H locs hq_ hP hD hS => ?_)
          rcases hq_ with ⟨hk38_3, rfl⟩ | ⟨hk38_3, rfl⟩
          · skip
            replace hP : va_P D vwCl [] H := hP.sub [] rfl
            replace hD : va_D A [] := hD.sub [] (by decide) rfl
            refine lv_if_eq (tgt := 48) hx hb dMo_eights_41 (by decide) (fun h41 => ?_) (fun h41 => ?_)
            · skip
              exact absurd h41 (by decide)
            · skip
              refine lv_iconst (v := nI 3) hx hb dMo_eights_44 (by decide) ?_
              refine lv_goto (tgt := 66) hx hb dMo_eights_45 (by decide) ?_
              exact ret () dMo_eights_66 rfl (congrArg nI (show 3 = sz8 a from by unfold sz8; (repeat' split) <;> omega)) hP hD hS
          · skip
            replace hP : va_P D vwCl [] H := hP.sub [] rfl
            replace hD : va_D A [] := hD.sub [] (by decide) rfl
            refine lv_if_eq (tgt := 48) hx hb dMo_eights_41 (by decide) (fun h41 => ?_) (fun h41 => ?_)
            · skip
              refine lv_iload_n hx hb dMo_eights_48 rfl (lv_at hl 0 rfl) ?_
              refine lv_sipush (v := nI 240) hx hb dMo_eights_49 (by decide) ?_
              refine lv_sipush (v := nI 244) hx hb dMo_eights_52 (by decide) ?_
              refine ca_i (wr := []) (va_runS (As := [.int a, .int (nI 240), .int (nI 244)]) (rest := []) Xf (k_Mo_isIn l D cA _ a 240 244 (by omega) (by omega)) ⟨cb_of 3 hw w_455 w_7 w_453 (by decide +kernel) (by rw [hR]; exact ⟨Nat.le_of_ble_eq_true rfl, Nat.le_of_ble_eq_true rfl⟩), hw _ w_454⟩ (pre_S hP hD hK hn [] rfl (by decide)) rfl rfl hl.1 rfl (lv_room (Nat.le_of_ble_eq_true rfl)) dMo_eights_55 ⟨Nat.zero_le _, Nat.zero_le _⟩) hP hD hS hA [] [] rfl rfl (by decide) (by decide) (fun r55 u_ H locs hq_ hP hD hS => ?_)
              rcases hq_ with ⟨hk55_4, rfl⟩ | ⟨hk55_4, rfl⟩
              · skip
                replace hP : va_P D vwCl [] H := hP.sub [] rfl
                replace hD : va_D A [] := hD.sub [] (by decide) rfl
                refine lv_if_eq (tgt := 65) hx hb dMo_eights_58 (by decide) (fun h58 => ?_) (fun h58 => ?_)
                · skip
                  exact absurd h58 (by decide)
                · skip
                  refine lv_iconst (v := nI 4) hx hb dMo_eights_61 (by decide) ?_
                  refine lv_goto (tgt := 66) hx hb dMo_eights_62 (by decide) ?_
                  exact ret () dMo_eights_66 rfl (congrArg nI (show 4 = sz8 a from by unfold sz8; (repeat' split) <;> omega)) hP hD hS
              · skip
                replace hP : va_P D vwCl [] H := hP.sub [] rfl
                replace hD : va_D A [] := hD.sub [] (by decide) rfl
                refine lv_if_eq (tgt := 65) hx hb dMo_eights_58 (by decide) (fun h58 => ?_) (fun h58 => ?_)
                · skip
                  refine lv_iconst (v := nI 0) hx hb dMo_eights_65 (by decide) ?_
                  exact ret () dMo_eights_66 rfl (congrArg nI (show 0 = sz8 a from by unfold sz8; (repeat' split) <;> omega)) hP hD hS
                · skip
                  exact absurd h58 (by decide)
            · skip
              exact absurd h41 (by decide)
        · skip
          exact absurd h24 (by decide)
    · skip
      exact absurd h7 (by decide)
set_option maxHeartbeats 4000000 in
set_option maxRecDepth 100000 in
theorem k_Mo_leastSecond (l : Launch) (D : va_G) (cA : ClassId) (sz : Nat) (a : Int32)  : KI l D cA y_Mo_leastSecond c_Mo_leastSecond 1 .int 0 0 [.int a] sz [] (S := Unit) (fun r _ => r = nI (l2N a)) (fun _ => []) := by
  refine KI.of (by decide) (Nat.le_of_ble_eq_true rfl) ?_
  intro p e s m args below meth c Q R A ls Xf hR hA hS hP hD hK hn hl ret
  have hx := Xf.1
  have hb := Xf.2.1
  have hown : s.vm.findClass "ScalarScribeModel" = some m.cls := Xf.2.2.2.1
  have hw := Xf.2.2.2.2
  have hl : lv_has ls 1 [(0, .int a)] := hl
  refine lv_iload_n hx hb dMo_leastSecond_0 rfl (lv_at hl 0 rfl) ?_
  refine lv_sipush (v := nI 224) hx hb dMo_leastSecond_1 (by decide) ?_
  refine lv_icmp_ne (tgt := 13) hx hb dMo_leastSecond_4 (by decide) (fun h4 => ?_) (fun h4 => ?_)
  · skip
    rw [← Int32.toInt_inj, nI_toInt (n := 224) (by omega)] at h4
    refine lv_iload_n hx hb dMo_leastSecond_13 rfl (lv_at hl 0 rfl) ?_
    refine lv_sipush (v := nI 240) hx hb dMo_leastSecond_14 (by decide) ?_
    refine lv_icmp_ne (tgt := 26) hx hb dMo_leastSecond_17 (by decide) (fun h17 => ?_) (fun h17 => ?_)
    · skip
      rw [← Int32.toInt_inj, nI_toInt (n := 240) (by omega)] at h17
      refine lv_sipush (v := nI 128) hx hb dMo_leastSecond_26 (by decide) ?_
      exact ret () dMo_leastSecond_29 rfl (congrArg nI (show 128 = l2N a from by unfold l2N; (repeat' split) <;> omega)) hP hD hS
    · skip
      rw [← Int32.toInt_inj, nI_toInt (n := 240) (by omega)] at h17
      refine lv_sipush (v := nI 144) hx hb dMo_leastSecond_20 (by decide) ?_
      refine lv_goto (tgt := 29) hx hb dMo_leastSecond_23 (by decide) ?_
      exact ret () dMo_leastSecond_29 rfl (congrArg nI (show 144 = l2N a from by unfold l2N; (repeat' split) <;> omega)) hP hD hS
  · skip
    rw [← Int32.toInt_inj, nI_toInt (n := 224) (by omega)] at h4
    refine lv_sipush (v := nI 160) hx hb dMo_leastSecond_7 (by decide) ?_
    refine lv_goto (tgt := 29) hx hb dMo_leastSecond_10 (by decide) ?_
    exact ret () dMo_leastSecond_29 rfl (congrArg nI (show 160 = l2N a from by unfold l2N; (repeat' split) <;> omega)) hP hD hS
set_option maxHeartbeats 4000000 in
set_option maxRecDepth 100000 in
theorem k_Mo_mostSecond (l : Launch) (D : va_G) (cA : ClassId) (sz : Nat) (a : Int32)  : KI l D cA y_Mo_mostSecond c_Mo_mostSecond 1 .int 0 0 [.int a] sz [] (S := Unit) (fun r _ => r = nI (h2N a)) (fun _ => []) := by
  refine KI.of (by decide) (Nat.le_of_ble_eq_true rfl) ?_
  intro p e s m args below meth c Q R A ls Xf hR hA hS hP hD hK hn hl ret
  have hx := Xf.1
  have hb := Xf.2.1
  have hown : s.vm.findClass "ScalarScribeModel" = some m.cls := Xf.2.2.2.1
  have hw := Xf.2.2.2.2
  have hl : lv_has ls 1 [(0, .int a)] := hl
  refine lv_iload_n hx hb dMo_mostSecond_0 rfl (lv_at hl 0 rfl) ?_
  refine lv_sipush (v := nI 237) hx hb dMo_mostSecond_1 (by decide) ?_
  refine lv_icmp_ne (tgt := 13) hx hb dMo_mostSecond_4 (by decide) (fun h4 => ?_) (fun h4 => ?_)
  · skip
    rw [← Int32.toInt_inj, nI_toInt (n := 237) (by omega)] at h4
    refine lv_iload_n hx hb dMo_mostSecond_13 rfl (lv_at hl 0 rfl) ?_
    refine lv_sipush (v := nI 244) hx hb dMo_mostSecond_14 (by decide) ?_
    refine lv_icmp_ne (tgt := 26) hx hb dMo_mostSecond_17 (by decide) (fun h17 => ?_) (fun h17 => ?_)
    · skip
      rw [← Int32.toInt_inj, nI_toInt (n := 244) (by omega)] at h17
      refine lv_sipush (v := nI 191) hx hb dMo_mostSecond_26 (by decide) ?_
      exact ret () dMo_mostSecond_29 rfl (congrArg nI (show 191 = h2N a from by unfold h2N; (repeat' split) <;> omega)) hP hD hS
    · skip
      rw [← Int32.toInt_inj, nI_toInt (n := 244) (by omega)] at h17
      refine lv_sipush (v := nI 143) hx hb dMo_mostSecond_20 (by decide) ?_
      refine lv_goto (tgt := 29) hx hb dMo_mostSecond_23 (by decide) ?_
      exact ret () dMo_mostSecond_29 rfl (congrArg nI (show 143 = h2N a from by unfold h2N; (repeat' split) <;> omega)) hP hD hS
  · skip
    rw [← Int32.toInt_inj, nI_toInt (n := 237) (by omega)] at h4
    refine lv_sipush (v := nI 159) hx hb dMo_mostSecond_7 (by decide) ?_
    refine lv_goto (tgt := 29) hx hb dMo_mostSecond_10 (by decide) ?_
    exact ret () dMo_mostSecond_29 rfl (congrArg nI (show 159 = h2N a from by unfold h2N; (repeat' split) <;> omega)) hP hD hS
set_option maxHeartbeats 4000000 in
set_option maxRecDepth 100000 in
theorem k_Mo_feed (l : Launch) (D : va_G) (cA : ClassId) (sz : Nat) (mo xI xL xO xK xR xW : Nat) (I L O K : List Int32) (gI gL gO gK gR gW : Nat → Int32) (md wr at_ : Int32) (nu vl pc_ : Int64) (bs tk gd : Int32) (x : Int32) (hfI : Hd gI I) (hcI : I.length ≤ 120) (hfL : Hd gL L) (hcL : L.length ≤ 120) (hfO : Hd gO O) (hcO : O.length ≤ 400) (hfK : Hd gK K) (hcK : K.length ≤ 120)  : KI l D cA y_Mo_feed c_Mo_feed 2 .boolean 0 0 [.ref mo, .int x] sz [(mo, .inr (5, [.int (nI I.length), .ref xI, .int (nI L.length), .ref xL, .int (nI O.length), .ref xO, .int (nI K.length), .ref xK, .int md, .ref xR, .int wr, .ref xW, .int at_, .long nu, .long vl, .long pc_, .int bs, .int tk, .int gd])), (xI, .inl (cA, 120, .inl gI)), (xL, .inl (cA, 120, .inl gL)), (xO, .inl (cA, 400, .inl gO)), (xK, .inl (cA, 120, .inl gK)), (xR, .inl (cA, 121, .inl gR)), (xW, .inl (cA, 1000, .inl gW))] (S := List Int32 × (Nat → Int32)) (fun r u => match u with | (I2, gI2) => (I.length < 120 ∧ r = 1 ∧ I2 = I ++ [x] ∧ Hd gI2 I2) ∨ (120 ≤ I.length ∧ r = 0 ∧ I2 = I ∧ Hd gI2 I2)) (fun u => match u with | (I2, gI2) => [(mo, .inr (5, [.int (nI I2.length), .ref xI, .int (nI L.length), .ref xL, .int (nI O.length), .ref xO, .int (nI K.length), .ref xK, .int md, .ref xR, .int wr, .ref xW, .int at_, .long nu, .long vl, .long pc_, .int bs, .int tk, .int gd])), (xI, .inl (cA, 120, .inl gI2)), (xL, .inl (cA, 120, .inl gL)), (xO, .inl (cA, 400, .inl gO)), (xK, .inl (cA, 120, .inl gK)), (xR, .inl (cA, 121, .inl gR)), (xW, .inl (cA, 1000, .inl gW))]) := by
  refine KI.of (by decide) (Nat.le_of_ble_eq_true rfl) ?_
  intro p e s m args below meth c Q R A ls Xf hR hA hS hP hD hK hn hl ret
  have hx := Xf.1
  have hb := Xf.2.1
  have hown : s.vm.findClass "ScalarScribeModel" = some m.cls := Xf.2.2.2.1
  have hw := Xf.2.2.2.2
  have hl : lv_has ls 2 [(0, .ref mo), (1, .int x)] := hl
  refine lv_aload_n hx hb dMo_feed_0 rfl (lv_at hl 0 rfl) ?_
  refine va_get (D := D) (ci := 5) (v := .int (nI I.length)) (C := R_Mo) (T := T_Mo) (N := 19) hx hb hw in_Mo hown hK hP 0 rfl rfl 0 (by decide) (hw _ w_364) (fun _ h9 => h9) rfl dMo_feed_1 ?_
  refine lv_bipush (v := nI 120) hx hb dMo_feed_4 (by decide) ?_
  refine lv_icmp_ne (tgt := 11) hx hb dMo_feed_6 (by decide) (fun h6 => ?_) (fun h6 => ?_)
  · skip
    replace h6 := nt_ne (a := I.length) (b := 120) (by omega) (by omega) h6
    refine lv_aload_n hx hb dMo_feed_11 rfl (lv_at hl 0 rfl) ?_
    refine va_get (D := D) (ci := 5) (v := .ref xI) (C := R_Mo) (T := T_Mo) (N := 19) hx hb hw in_Mo hown hK hP 0 rfl rfl 1 (by decide) (hw _ w_365) (fun _ h9 => h9) rfl dMo_feed_12 ?_
    refine lv_aload_n hx hb dMo_feed_15 rfl (lv_at hl 0 rfl) ?_
    refine va_get (D := D) (ci := 5) (v := .int (nI I.length)) (C := R_Mo) (T := T_Mo) (N := 19) hx hb hw in_Mo hown hK hP 0 rfl rfl 0 (by decide) (hw _ w_364) (fun _ h9 => h9) rfl dMo_feed_16 ?_
    refine lv_iload_n hx hb dMo_feed_19 rfl (lv_at hl 1 rfl) ?_
    refine va_iast hx hb hK hP hD hS 1 0 rfl rfl (vp_in_nI (by omega) (by omega)) dMo_feed_20 (fun H locs hP hD hS => ?_)
    rw [nI_clamp (by omega)] at hP hD
    have hP : va_P D vwCl [(mo, .inr (5, [.int (nI I.length), .ref xI, .int (nI L.length), .ref xL, .int (nI O.length), .ref xO, .int (nI K.length), .ref xK, .int md, .ref xR, .int wr, .ref xW, .int at_, .long nu, .long vl, .long pc_, .int bs, .int tk, .int gd])), (xI, .inl (cA, 120, .inl (upd gI I.length x))), (xL, .inl (cA, 120, .inl gL)), (xO, .inl (cA, 400, .inl gO)), (xK, .inl (cA, 120, .inl gK)), (xR, .inl (cA, 121, .inl gR)), (xW, .inl (cA, 1000, .inl gW))] H := hP
    have hD : va_D A [(mo, .inr (5, [.int (nI I.length), .ref xI, .int (nI L.length), .ref xL, .int (nI O.length), .ref xO, .int (nI K.length), .ref xK, .int md, .ref xR, .int wr, .ref xW, .int at_, .long nu, .long vl, .long pc_, .int bs, .int tk, .int gd])), (xI, .inl (cA, 120, .inl (upd gI I.length x))), (xL, .inl (cA, 120, .inl gL)), (xO, .inl (cA, 400, .inl gO)), (xK, .inl (cA, 120, .inl gK)), (xR, .inl (cA, 121, .inl gR)), (xW, .inl (cA, 1000, .inl gW))] := hD
    refine lv_aload_n hx hb dMo_feed_21 rfl (lv_at hl 0 rfl) ?_
    refine lv_aload_n hx hb dMo_feed_22 rfl (lv_at hl 0 rfl) ?_
    refine va_get (D := D) (ci := 5) (v := .int (nI I.length)) (C := R_Mo) (T := T_Mo) (N := 19) hx hb hw in_Mo hown hK hP 0 rfl rfl 0 (by decide) (hw _ w_364) (fun _ h9 => h9) rfl dMo_feed_23 ?_
    refine lv_iconst (v := nI 1) hx hb dMo_feed_26 (by decide) ?_
    refine lv_iadd hx hb dMo_feed_27 ?_
    refine lv_rei (y := nI (I.length + 1)) (nI_add _ _) ?_
    refine va_put (D := D) (ci := 5) (v := .int (nI (I.length + 1))) (ty := .int) (C := R_Mo) (T := T_Mo) (N := 19) hx hb hw in_Mo ty_Mo ty_Mo_ok nm_Mo hown hK hP hD hS 0 rfl rfl 0 (by decide) (hw _ w_364) (fun _ h9 => h9) rfl (by decide +kernel) rfl rfl (Nat.le_of_ble_eq_true rfl) dMo_feed_28 (fun H locs hP hD hS => ?_)
    have hP : va_P D vwCl [(mo, .inr (5, [.int (nI (I.length + 1)), .ref xI, .int (nI L.length), .ref xL, .int (nI O.length), .ref xO, .int (nI K.length), .ref xK, .int md, .ref xR, .int wr, .ref xW, .int at_, .long nu, .long vl, .long pc_, .int bs, .int tk, .int gd])), (xI, .inl (cA, 120, .inl (upd gI I.length x))), (xL, .inl (cA, 120, .inl gL)), (xO, .inl (cA, 400, .inl gO)), (xK, .inl (cA, 120, .inl gK)), (xR, .inl (cA, 121, .inl gR)), (xW, .inl (cA, 1000, .inl gW))] H := hP
    have hD : va_D A [(mo, .inr (5, [.int (nI (I.length + 1)), .ref xI, .int (nI L.length), .ref xL, .int (nI O.length), .ref xO, .int (nI K.length), .ref xK, .int md, .ref xR, .int wr, .ref xW, .int at_, .long nu, .long vl, .long pc_, .int bs, .int tk, .int gd])), (xI, .inl (cA, 120, .inl (upd gI I.length x))), (xL, .inl (cA, 120, .inl gL)), (xO, .inl (cA, 400, .inl gO)), (xK, .inl (cA, 120, .inl gK)), (xR, .inl (cA, 121, .inl gR)), (xW, .inl (cA, 1000, .inl gW))] := hD
    refine lv_iconst (v := nI 1) hx hb dMo_feed_31 (by decide) ?_
    have el : (I ++ [x]).length = I.length + 1 := by rw [List.length_append, List.length_singleton]
    rw [← el] at hP hD
    exact ret (I ++ [x], upd gI I.length x) dMo_feed_32 rfl (Or.inl ⟨by omega, rfl, rfl, Hd_add hfI⟩) hP hD hS
  · skip
    replace h6 := nt_eq (a := I.length) (b := 120) (by omega) (by omega) h6
    refine lv_iconst (v := nI 0) hx hb dMo_feed_9 (by decide) ?_
    exact ret (I, gI) dMo_feed_10 rfl (Or.inr ⟨by omega, rfl, rfl, hfI⟩) hP hD hS
set_option maxHeartbeats 4000000 in
set_option maxRecDepth 100000 in
theorem k_Mo_erase (l : Launch) (D : va_G) (cA : ClassId) (sz : Nat) (mo xI xL xO xK xR xW : Nat) (I L O K : List Int32) (gI gL gO gK gR gW : Nat → Int32) (md wr at_ : Int32) (nu vl pc_ : Int64) (bs tk gd : Int32)  (hfI : Hd gI I) (hcI : I.length ≤ 120) (hfL : Hd gL L) (hcL : L.length ≤ 120) (hfO : Hd gO O) (hcO : O.length ≤ 400) (hfK : Hd gK K) (hcK : K.length ≤ 120)  : KI l D cA y_Mo_erase c_Mo_erase 2 .int 0 0 [.ref mo] sz [(mo, .inr (5, [.int (nI I.length), .ref xI, .int (nI L.length), .ref xL, .int (nI O.length), .ref xO, .int (nI K.length), .ref xK, .int md, .ref xR, .int wr, .ref xW, .int at_, .long nu, .long vl, .long pc_, .int bs, .int tk, .int gd])), (xI, .inl (cA, 120, .inl gI)), (xL, .inl (cA, 120, .inl gL)), (xO, .inl (cA, 400, .inl gO)), (xK, .inl (cA, 120, .inl gK)), (xR, .inl (cA, 121, .inl gR)), (xW, .inl (cA, 1000, .inl gW))] (S := Unit) (fun r _ => r = nI I.length) (fun _ => [(mo, .inr (5, [.int (nI (([] : List Int32).length)), .ref xI, .int (nI L.length), .ref xL, .int (nI O.length), .ref xO, .int (nI K.length), .ref xK, .int md, .ref xR, .int wr, .ref xW, .int at_, .long nu, .long vl, .long pc_, .int bs, .int tk, .int gd])), (xI, .inl (cA, 120, .inl gI)), (xL, .inl (cA, 120, .inl gL)), (xO, .inl (cA, 400, .inl gO)), (xK, .inl (cA, 120, .inl gK)), (xR, .inl (cA, 121, .inl gR)), (xW, .inl (cA, 1000, .inl gW))]) := by
  refine KI.of (by decide) (Nat.le_of_ble_eq_true rfl) ?_
  intro p e s m args below meth c Q R A ls Xf hR hA hS hP hD hK hn hl ret
  have hx := Xf.1
  have hb := Xf.2.1
  have hown : s.vm.findClass "ScalarScribeModel" = some m.cls := Xf.2.2.2.1
  have hw := Xf.2.2.2.2
  have hl : lv_has ls 2 [(0, .ref mo)] := hl
  refine lv_aload_n hx hb dMo_erase_0 rfl (lv_at hl 0 rfl) ?_
  refine va_get (D := D) (ci := 5) (v := .int (nI I.length)) (C := R_Mo) (T := T_Mo) (N := 19) hx hb hw in_Mo hown hK hP 0 rfl rfl 0 (by decide) (hw _ w_364) (fun _ h9 => h9) rfl dMo_erase_1 ?_
  refine lv_istore_n (lv' := [(1, .int (nI I.length)), (0, .ref mo)]) hx hb dMo_erase_4 rfl hl (by decide) rfl (fun ls hl => ?_)
  refine lv_aload_n hx hb dMo_erase_5 rfl (lv_at hl 1 rfl) ?_
  refine lv_iconst (v := nI 0) hx hb dMo_erase_6 (by decide) ?_
  refine va_put (D := D) (ci := 5) (v := .int (nI 0)) (ty := .int) (C := R_Mo) (T := T_Mo) (N := 19) hx hb hw in_Mo ty_Mo ty_Mo_ok nm_Mo hown hK hP hD hS 0 rfl rfl 0 (by decide) (hw _ w_364) (fun _ h9 => h9) rfl (by decide +kernel) rfl rfl (Nat.le_of_ble_eq_true rfl) dMo_erase_7 (fun H locs hP hD hS => ?_)
  have hP : va_P D vwCl [(mo, .inr (5, [.int (nI 0), .ref xI, .int (nI L.length), .ref xL, .int (nI O.length), .ref xO, .int (nI K.length), .ref xK, .int md, .ref xR, .int wr, .ref xW, .int at_, .long nu, .long vl, .long pc_, .int bs, .int tk, .int gd])), (xI, .inl (cA, 120, .inl gI)), (xL, .inl (cA, 120, .inl gL)), (xO, .inl (cA, 400, .inl gO)), (xK, .inl (cA, 120, .inl gK)), (xR, .inl (cA, 121, .inl gR)), (xW, .inl (cA, 1000, .inl gW))] H := hP
  have hD : va_D A [(mo, .inr (5, [.int (nI 0), .ref xI, .int (nI L.length), .ref xL, .int (nI O.length), .ref xO, .int (nI K.length), .ref xK, .int md, .ref xR, .int wr, .ref xW, .int at_, .long nu, .long vl, .long pc_, .int bs, .int tk, .int gd])), (xI, .inl (cA, 120, .inl gI)), (xL, .inl (cA, 120, .inl gL)), (xO, .inl (cA, 400, .inl gO)), (xK, .inl (cA, 120, .inl gK)), (xR, .inl (cA, 121, .inl gR)), (xW, .inl (cA, 1000, .inl gW))] := hD
  refine lv_iload_n hx hb dMo_erase_10 rfl (lv_at hl 0 rfl) ?_
  exact ret () dMo_erase_11 rfl rfl hP hD hS
set_option maxHeartbeats 4000000 in
set_option maxRecDepth 100000 in
theorem k_Mo_count (l : Launch) (D : va_G) (cA : ClassId) (sz : Nat) (mo xI xL xO xK xR xW : Nat) (I L O K : List Int32) (gI gL gO gK gR gW : Nat → Int32) (md wr at_ : Int32) (nu vl pc_ : Int64) (bs tk gd : Int32)  (hfI : Hd gI I) (hcI : I.length ≤ 120) (hfL : Hd gL L) (hcL : L.length ≤ 120) (hfO : Hd gO O) (hcO : O.length ≤ 400) (hfK : Hd gK K) (hcK : K.length ≤ 120)  : KI l D cA y_Mo_count c_Mo_count 1 .int 0 0 [.ref mo] sz [(mo, .inr (5, [.int (nI I.length), .ref xI, .int (nI L.length), .ref xL, .int (nI O.length), .ref xO, .int (nI K.length), .ref xK, .int md, .ref xR, .int wr, .ref xW, .int at_, .long nu, .long vl, .long pc_, .int bs, .int tk, .int gd])), (xI, .inl (cA, 120, .inl gI)), (xL, .inl (cA, 120, .inl gL)), (xO, .inl (cA, 400, .inl gO)), (xK, .inl (cA, 120, .inl gK)), (xR, .inl (cA, 121, .inl gR)), (xW, .inl (cA, 1000, .inl gW))] (S := Unit) (fun r _ => r = nI L.length) (fun _ => [(mo, .inr (5, [.int (nI I.length), .ref xI, .int (nI L.length), .ref xL, .int (nI O.length), .ref xO, .int (nI K.length), .ref xK, .int md, .ref xR, .int wr, .ref xW, .int at_, .long nu, .long vl, .long pc_, .int bs, .int tk, .int gd])), (xI, .inl (cA, 120, .inl gI)), (xL, .inl (cA, 120, .inl gL)), (xO, .inl (cA, 400, .inl gO)), (xK, .inl (cA, 120, .inl gK)), (xR, .inl (cA, 121, .inl gR)), (xW, .inl (cA, 1000, .inl gW))]) := by
  refine KI.of (by decide) (Nat.le_of_ble_eq_true rfl) ?_
  intro p e s m args below meth c Q R A ls Xf hR hA hS hP hD hK hn hl ret
  have hx := Xf.1
  have hb := Xf.2.1
  have hown : s.vm.findClass "ScalarScribeModel" = some m.cls := Xf.2.2.2.1
  have hw := Xf.2.2.2.2
  have hl : lv_has ls 1 [(0, .ref mo)] := hl
  refine lv_aload_n hx hb dMo_count_0 rfl (lv_at hl 0 rfl) ?_
  refine va_get (D := D) (ci := 5) (v := .int (nI L.length)) (C := R_Mo) (T := T_Mo) (N := 19) hx hb hw in_Mo hown hK hP 0 rfl rfl 2 (by decide) (hw _ w_366) (fun _ h9 => h9) rfl dMo_count_1 ?_
  exact ret () dMo_count_4 rfl rfl hP hD hS
set_option maxHeartbeats 4000000 in
set_option maxRecDepth 100000 in
theorem k_Mo_length (l : Launch) (D : va_G) (cA : ClassId) (sz : Nat) (mo xI xL xO xK xR xW : Nat) (I L O K : List Int32) (gI gL gO gK gR gW : Nat → Int32) (md wr at_ : Int32) (nu vl pc_ : Int64) (bs tk gd : Int32)  (hfI : Hd gI I) (hcI : I.length ≤ 120) (hfL : Hd gL L) (hcL : L.length ≤ 120) (hfO : Hd gO O) (hcO : O.length ≤ 400) (hfK : Hd gK K) (hcK : K.length ≤ 120)  : KI l D cA y_Mo_length c_Mo_length 1 .int 0 0 [.ref mo] sz [(mo, .inr (5, [.int (nI I.length), .ref xI, .int (nI L.length), .ref xL, .int (nI O.length), .ref xO, .int (nI K.length), .ref xK, .int md, .ref xR, .int wr, .ref xW, .int at_, .long nu, .long vl, .long pc_, .int bs, .int tk, .int gd])), (xI, .inl (cA, 120, .inl gI)), (xL, .inl (cA, 120, .inl gL)), (xO, .inl (cA, 400, .inl gO)), (xK, .inl (cA, 120, .inl gK)), (xR, .inl (cA, 121, .inl gR)), (xW, .inl (cA, 1000, .inl gW))] (S := Unit) (fun r _ => r = nI O.length) (fun _ => [(mo, .inr (5, [.int (nI I.length), .ref xI, .int (nI L.length), .ref xL, .int (nI O.length), .ref xO, .int (nI K.length), .ref xK, .int md, .ref xR, .int wr, .ref xW, .int at_, .long nu, .long vl, .long pc_, .int bs, .int tk, .int gd])), (xI, .inl (cA, 120, .inl gI)), (xL, .inl (cA, 120, .inl gL)), (xO, .inl (cA, 400, .inl gO)), (xK, .inl (cA, 120, .inl gK)), (xR, .inl (cA, 121, .inl gR)), (xW, .inl (cA, 1000, .inl gW))]) := by
  refine KI.of (by decide) (Nat.le_of_ble_eq_true rfl) ?_
  intro p e s m args below meth c Q R A ls Xf hR hA hS hP hD hK hn hl ret
  have hx := Xf.1
  have hb := Xf.2.1
  have hown : s.vm.findClass "ScalarScribeModel" = some m.cls := Xf.2.2.2.1
  have hw := Xf.2.2.2.2
  have hl : lv_has ls 1 [(0, .ref mo)] := hl
  refine lv_aload_n hx hb dMo_length_0 rfl (lv_at hl 0 rfl) ?_
  refine va_get (D := D) (ci := 5) (v := .int (nI O.length)) (C := R_Mo) (T := T_Mo) (N := 19) hx hb hw in_Mo hown hK hP 0 rfl rfl 4 (by decide) (hw _ w_368) (fun _ h9 => h9) rfl dMo_length_1 ?_
  exact ret () dMo_length_4 rfl rfl hP hD hS
set_option maxHeartbeats 4000000 in
set_option maxRecDepth 100000 in
theorem k_Mo_point (l : Launch) (D : va_G) (cA : ClassId) (sz : Nat) (mo xI xL xO xK xR xW : Nat) (I L O K : List Int32) (gI gL gO gK gR gW : Nat → Int32) (md wr at_ : Int32) (nu vl pc_ : Int64) (bs tk gd : Int32) (x : Int32) (hfI : Hd gI I) (hcI : I.length ≤ 120) (hfL : Hd gL L) (hcL : L.length ≤ 120) (hfO : Hd gO O) (hcO : O.length ≤ 400) (hfK : Hd gK K) (hcK : K.length ≤ 120)  : KI l D cA y_Mo_point c_Mo_point 2 .int 0 0 [.ref mo, .int x] sz [(mo, .inr (5, [.int (nI I.length), .ref xI, .int (nI L.length), .ref xL, .int (nI O.length), .ref xO, .int (nI K.length), .ref xK, .int md, .ref xR, .int wr, .ref xW, .int at_, .long nu, .long vl, .long pc_, .int bs, .int tk, .int gd])), (xI, .inl (cA, 120, .inl gI)), (xL, .inl (cA, 120, .inl gL)), (xO, .inl (cA, 400, .inl gO)), (xK, .inl (cA, 120, .inl gK)), (xR, .inl (cA, 121, .inl gR)), (xW, .inl (cA, 1000, .inl gW))] (S := Unit) (fun r _ => r = gt L x) (fun _ => [(mo, .inr (5, [.int (nI I.length), .ref xI, .int (nI L.length), .ref xL, .int (nI O.length), .ref xO, .int (nI K.length), .ref xK, .int md, .ref xR, .int wr, .ref xW, .int at_, .long nu, .long vl, .long pc_, .int bs, .int tk, .int gd])), (xI, .inl (cA, 120, .inl gI)), (xL, .inl (cA, 120, .inl gL)), (xO, .inl (cA, 400, .inl gO)), (xK, .inl (cA, 120, .inl gK)), (xR, .inl (cA, 121, .inl gR)), (xW, .inl (cA, 1000, .inl gW))]) := by
  refine KI.of (by decide) (Nat.le_of_ble_eq_true rfl) ?_
  intro p e s m args below meth c Q R A ls Xf hR hA hS hP hD hK hn hl ret
  have hx := Xf.1
  have hb := Xf.2.1
  have hown : s.vm.findClass "ScalarScribeModel" = some m.cls := Xf.2.2.2.1
  have hw := Xf.2.2.2.2
  have hl : lv_has ls 2 [(0, .ref mo), (1, .int x)] := hl
  refine lv_iload_n hx hb dMo_point_0 rfl (lv_at hl 1 rfl) ?_
  refine lv_if_lt (tgt := 21) hx hb dMo_point_1 (by decide) (fun h1 => ?_) (fun h1 => ?_)
  · skip
    refine lv_iconst (v := (-1)) hx hb dMo_point_21 (by decide) ?_
    exact ret () dMo_point_22 rfl (gt_lo h1) hP hD hS
  · skip
    refine lv_iload_n hx hb dMo_point_4 rfl (lv_at hl 1 rfl) ?_
    refine lv_aload_n hx hb dMo_point_5 rfl (lv_at hl 0 rfl) ?_
    refine va_get (D := D) (ci := 5) (v := .int (nI L.length)) (C := R_Mo) (T := T_Mo) (N := 19) hx hb hw in_Mo hown hK hP 0 rfl rfl 2 (by decide) (hw _ w_366) (fun _ h9 => h9) rfl dMo_point_6 ?_
    refine lv_icmp_ge (tgt := 21) hx hb dMo_point_9 (by decide) (fun h9 => ?_) (fun h9 => ?_)
    · skip
      refine lv_iconst (v := (-1)) hx hb dMo_point_21 (by decide) ?_
      exact ret () dMo_point_22 rfl (gt_hi h9) hP hD hS
    · skip
      refine lv_aload_n hx hb dMo_point_12 rfl (lv_at hl 0 rfl) ?_
      refine va_get (D := D) (ci := 5) (v := .ref xL) (C := R_Mo) (T := T_Mo) (N := 19) hx hb hw in_Mo hown hK hP 0 rfl rfl 3 (by decide) (hw _ w_367) (fun _ h9 => h9) rfl dMo_point_13 ?_
      refine lv_iload_n hx hb dMo_point_16 rfl (lv_at hl 1 rfl) ?_
      refine va_iald hx hb hK hP 2 0 rfl rfl (gt_vin hcL (by omega) h1 h9) dMo_point_17 ?_
      refine lv_goto (tgt := 22) hx hb dMo_point_18 (by decide) ?_
      exact ret () dMo_point_22 rfl (gt_in hfL (by omega) h1 h9) hP hD hS
set_option maxHeartbeats 4000000 in
set_option maxRecDepth 100000 in
theorem k_Mo_out (l : Launch) (D : va_G) (cA : ClassId) (sz : Nat) (mo xI xL xO xK xR xW : Nat) (I L O K : List Int32) (gI gL gO gK gR gW : Nat → Int32) (md wr at_ : Int32) (nu vl pc_ : Int64) (bs tk gd : Int32) (x : Int32) (hfI : Hd gI I) (hcI : I.length ≤ 120) (hfL : Hd gL L) (hcL : L.length ≤ 120) (hfO : Hd gO O) (hcO : O.length ≤ 400) (hfK : Hd gK K) (hcK : K.length ≤ 120)  : KI l D cA y_Mo_out c_Mo_out 2 .int 0 0 [.ref mo, .int x] sz [(mo, .inr (5, [.int (nI I.length), .ref xI, .int (nI L.length), .ref xL, .int (nI O.length), .ref xO, .int (nI K.length), .ref xK, .int md, .ref xR, .int wr, .ref xW, .int at_, .long nu, .long vl, .long pc_, .int bs, .int tk, .int gd])), (xI, .inl (cA, 120, .inl gI)), (xL, .inl (cA, 120, .inl gL)), (xO, .inl (cA, 400, .inl gO)), (xK, .inl (cA, 120, .inl gK)), (xR, .inl (cA, 121, .inl gR)), (xW, .inl (cA, 1000, .inl gW))] (S := Unit) (fun r _ => r = gt O x) (fun _ => [(mo, .inr (5, [.int (nI I.length), .ref xI, .int (nI L.length), .ref xL, .int (nI O.length), .ref xO, .int (nI K.length), .ref xK, .int md, .ref xR, .int wr, .ref xW, .int at_, .long nu, .long vl, .long pc_, .int bs, .int tk, .int gd])), (xI, .inl (cA, 120, .inl gI)), (xL, .inl (cA, 120, .inl gL)), (xO, .inl (cA, 400, .inl gO)), (xK, .inl (cA, 120, .inl gK)), (xR, .inl (cA, 121, .inl gR)), (xW, .inl (cA, 1000, .inl gW))]) := by
  refine KI.of (by decide) (Nat.le_of_ble_eq_true rfl) ?_
  intro p e s m args below meth c Q R A ls Xf hR hA hS hP hD hK hn hl ret
  have hx := Xf.1
  have hb := Xf.2.1
  have hown : s.vm.findClass "ScalarScribeModel" = some m.cls := Xf.2.2.2.1
  have hw := Xf.2.2.2.2
  have hl : lv_has ls 2 [(0, .ref mo), (1, .int x)] := hl
  refine lv_iload_n hx hb dMo_out_0 rfl (lv_at hl 1 rfl) ?_
  refine lv_if_lt (tgt := 21) hx hb dMo_out_1 (by decide) (fun h1 => ?_) (fun h1 => ?_)
  · skip
    refine lv_iconst (v := (-1)) hx hb dMo_out_21 (by decide) ?_
    exact ret () dMo_out_22 rfl (gt_lo h1) hP hD hS
  · skip
    refine lv_iload_n hx hb dMo_out_4 rfl (lv_at hl 1 rfl) ?_
    refine lv_aload_n hx hb dMo_out_5 rfl (lv_at hl 0 rfl) ?_
    refine va_get (D := D) (ci := 5) (v := .int (nI O.length)) (C := R_Mo) (T := T_Mo) (N := 19) hx hb hw in_Mo hown hK hP 0 rfl rfl 4 (by decide) (hw _ w_368) (fun _ h9 => h9) rfl dMo_out_6 ?_
    refine lv_icmp_ge (tgt := 21) hx hb dMo_out_9 (by decide) (fun h9 => ?_) (fun h9 => ?_)
    · skip
      refine lv_iconst (v := (-1)) hx hb dMo_out_21 (by decide) ?_
      exact ret () dMo_out_22 rfl (gt_hi h9) hP hD hS
    · skip
      refine lv_aload_n hx hb dMo_out_12 rfl (lv_at hl 0 rfl) ?_
      refine va_get (D := D) (ci := 5) (v := .ref xO) (C := R_Mo) (T := T_Mo) (N := 19) hx hb hw in_Mo hown hK hP 0 rfl rfl 5 (by decide) (hw _ w_369) (fun _ h9 => h9) rfl dMo_out_13 ?_
      refine lv_iload_n hx hb dMo_out_16 rfl (lv_at hl 1 rfl) ?_
      refine va_iald hx hb hK hP 3 0 rfl rfl (gt_vin hcO (by omega) h1 h9) dMo_out_17 ?_
      refine lv_goto (tgt := 22) hx hb dMo_out_18 (by decide) ?_
      exact ret () dMo_out_22 rfl (gt_in hfO (by omega) h1 h9) hP hD hS
set_option maxHeartbeats 4000000 in
set_option maxRecDepth 100000 in
theorem k_Mo_unit (l : Launch) (D : va_G) (cA : ClassId) (sz : Nat) (mo xI xL xO xK xR xW : Nat) (I L O K : List Int32) (gI gL gO gK gR gW : Nat → Int32) (md wr at_ : Int32) (nu vl pc_ : Int64) (bs tk gd : Int32) (p0 : Nat) (hfI : Hd gI I) (hcI : I.length ≤ 120) (hfL : Hd gL L) (hcL : L.length ≤ 120) (hfO : Hd gO O) (hcO : O.length ≤ 400) (hfK : Hd gK K) (hcK : K.length ≤ 120) (hp0 : p0 < 2 ^ 31) : KI l D cA y_Mo_unit c_Mo_unit 2 .int 0 0 [.ref mo, .int (nI p0)] sz [(mo, .inr (5, [.int (nI I.length), .ref xI, .int (nI L.length), .ref xL, .int (nI O.length), .ref xO, .int (nI K.length), .ref xK, .int md, .ref xR, .int wr, .ref xW, .int at_, .long nu, .long vl, .long pc_, .int bs, .int tk, .int gd])), (xI, .inl (cA, 120, .inl gI)), (xL, .inl (cA, 120, .inl gL)), (xO, .inl (cA, 400, .inl gO)), (xK, .inl (cA, 120, .inl gK)), (xR, .inl (cA, 121, .inl gR)), (xW, .inl (cA, 1000, .inl gW))] (S := Unit) (fun r _ => r = un I p0) (fun _ => [(mo, .inr (5, [.int (nI I.length), .ref xI, .int (nI L.length), .ref xL, .int (nI O.length), .ref xO, .int (nI K.length), .ref xK, .int md, .ref xR, .int wr, .ref xW, .int at_, .long nu, .long vl, .long pc_, .int bs, .int tk, .int gd])), (xI, .inl (cA, 120, .inl gI)), (xL, .inl (cA, 120, .inl gL)), (xO, .inl (cA, 400, .inl gO)), (xK, .inl (cA, 120, .inl gK)), (xR, .inl (cA, 121, .inl gR)), (xW, .inl (cA, 1000, .inl gW))]) := by
  refine KI.of (by decide) (Nat.le_of_ble_eq_true rfl) ?_
  intro p e s m args below meth c Q R A ls Xf hR hA hS hP hD hK hn hl ret
  have hx := Xf.1
  have hb := Xf.2.1
  have hown : s.vm.findClass "ScalarScribeModel" = some m.cls := Xf.2.2.2.1
  have hw := Xf.2.2.2.2
  have hl : lv_has ls 2 [(0, .ref mo), (1, .int (nI p0))] := hl
  refine lv_iload_n hx hb dMo_unit_0 rfl (lv_at hl 1 rfl) ?_
  refine lv_aload_n hx hb dMo_unit_1 rfl (lv_at hl 0 rfl) ?_
  refine va_get (D := D) (ci := 5) (v := .int (nI I.length)) (C := R_Mo) (T := T_Mo) (N := 19) hx hb hw in_Mo hown hK hP 0 rfl rfl 0 (by decide) (hw _ w_364) (fun _ h9 => h9) rfl dMo_unit_2 ?_
  refine lv_icmp_ge (tgt := 17) hx hb dMo_unit_5 (by decide) (fun h5 => ?_) (fun h5 => ?_)
  · skip
    replace h5 := nt_le (a := I.length) (b := p0) (by omega) (by omega) h5
    refine lv_iconst (v := (-1)) hx hb dMo_unit_17 (by decide) ?_
    exact ret () dMo_unit_18 rfl (by unfold un; simp [h5]) hP hD hS
  · skip
    replace h5 := nt_nle (a := I.length) (b := p0) (by omega) (by omega) h5
    refine lv_aload_n hx hb dMo_unit_8 rfl (lv_at hl 0 rfl) ?_
    refine va_get (D := D) (ci := 5) (v := .ref xI) (C := R_Mo) (T := T_Mo) (N := 19) hx hb hw in_Mo hown hK hP 0 rfl rfl 1 (by decide) (hw _ w_365) (fun _ h9 => h9) rfl dMo_unit_9 ?_
    refine lv_iload_n hx hb dMo_unit_12 rfl (lv_at hl 1 rfl) ?_
    refine va_iald hx hb hK hP 1 0 rfl rfl (vp_in_nI (by omega) (by omega)) dMo_unit_13 ?_
    refine lv_rei (y := gI p0) (by rw [nI_clamp (by omega)]) ?_
    refine lv_goto (tgt := 18) hx hb dMo_unit_14 (by decide) ?_
    exact ret () dMo_unit_18 rfl (Hd_un hfI h5) hP hD hS
set_option maxHeartbeats 4000000 in
set_option maxRecDepth 100000 in
theorem k_Mo_readEights (l : Launch) (D : va_G) (cA : ClassId) (sz : Nat) (mo xI xL xO xK xR xW : Nat) (I L O K : List Int32) (gI gL gO gK gR gW : Nat → Int32) (md wr at_ : Int32) (nu vl pc_ : Int64) (bs tk gd : Int32) (p0 : Nat) (hfI : Hd gI I) (hcI : I.length ≤ 120) (hfL : Hd gL L) (hcL : L.length ≤ 120) (hfO : Hd gO O) (hcO : O.length ≤ 400) (hfK : Hd gK K) (hcK : K.length ≤ 120) (hp0 : p0 < 2 ^ 30) : KI l D cA y_Mo_readEights c_Mo_readEights 7 .int 2 42 [.ref mo, .int (nI p0)] sz [(mo, .inr (5, [.int (nI I.length), .ref xI, .int (nI L.length), .ref xL, .int (nI O.length), .ref xO, .int (nI K.length), .ref xK, .int md, .ref xR, .int wr, .ref xW, .int at_, .long nu, .long vl, .long pc_, .int bs, .int tk, .int gd])), (xI, .inl (cA, 120, .inl gI)), (xL, .inl (cA, 120, .inl gL)), (xO, .inl (cA, 400, .inl gO)), (xK, .inl (cA, 120, .inl gK)), (xR, .inl (cA, 121, .inl gR)), (xW, .inl (cA, 1000, .inl gW))] (S := Unit) (fun r _ => r = ov (rd8 (un I) p0).1) (fun _ => [(mo, .inr (5, [.int (nI I.length), .ref xI, .int (nI L.length), .ref xL, .int (nI O.length), .ref xO, .int (nI K.length), .ref xK, .int md, .ref xR, .int wr, .ref xW, .int at_, .long nu, .long vl, .long pc_, .int bs, .int (tkv (rd8 (un I) p0)), .int (nI ((rd8 (un I) p0).2))])), (xI, .inl (cA, 120, .inl gI)), (xL, .inl (cA, 120, .inl gL)), (xO, .inl (cA, 400, .inl gO)), (xK, .inl (cA, 120, .inl gK)), (xR, .inl (cA, 121, .inl gR)), (xW, .inl (cA, 1000, .inl gW))]) := by
  refine KI.of (by decide) (Nat.le_of_ble_eq_true rfl) ?_
  intro p e s m args below meth c Q R A ls Xf hR hA hS hP hD hK hn hl ret
  have hx := Xf.1
  have hb := Xf.2.1
  have hown : s.vm.findClass "ScalarScribeModel" = some m.cls := Xf.2.2.2.1
  have hw := Xf.2.2.2.2
  have hl : lv_has ls 7 [(0, .ref mo), (1, .int (nI p0))] := hl
  refine lv_aload_n hx hb dMo_readEights_0 rfl (lv_at hl 0 rfl) ?_
  refine lv_iload_n hx hb dMo_readEights_1 rfl (lv_at hl 1 rfl) ?_
  refine ca_i (wr := []) (va_runV (As := [.int (nI p0)]) (rest := []) Xf (k_Mo_unit l D cA _ mo xI xL xO xK xR xW I L O K gI gL gO gK gR gW md wr at_ nu vl pc_ bs tk gd p0 hfI hcI hfL hcL hfO hcO hfK hcK (by omega)) ⟨cb_of 1 hw w_449 w_7 w_446 (by decide +kernel) (by rw [hR]; exact ⟨Nat.le_of_ble_eq_true rfl, Nat.le_of_ble_eq_true rfl⟩), hw _ w_448, hw _ ws_17⟩ (pre_V (As := [.int (nI p0)]) hP hD hK hn [0, 1, 2, 3, 4, 5, 6] rfl (by decide) 0 5 rfl rfl) rfl rfl hl.1 rfl (lv_room (Nat.le_of_ble_eq_true rfl)) dMo_readEights_2 ⟨Nat.zero_le _, Nat.zero_le _⟩) hP hD hS hA [0, 1, 2, 3, 4, 5, 6] [] rfl rfl (by decide) (by decide) (fun r2 u_ H locs hq_ hP hD hS => ?_)
  obtain rfl : r2 = un I p0 := hq_
  replace hP : va_P D vwCl [(mo, .inr (5, [.int (nI I.length), .ref xI, .int (nI L.length), .ref xL, .int (nI O.length), .ref xO, .int (nI K.length), .ref xK, .int md, .ref xR, .int wr, .ref xW, .int at_, .long nu, .long vl, .long pc_, .int bs, .int tk, .int gd])), (xI, .inl (cA, 120, .inl gI)), (xL, .inl (cA, 120, .inl gL)), (xO, .inl (cA, 400, .inl gO)), (xK, .inl (cA, 120, .inl gK)), (xR, .inl (cA, 121, .inl gR)), (xW, .inl (cA, 1000, .inl gW))] H := hP.sub [0, 1, 2, 3, 4, 5, 6] rfl
  replace hD : va_D A [(mo, .inr (5, [.int (nI I.length), .ref xI, .int (nI L.length), .ref xL, .int (nI O.length), .ref xO, .int (nI K.length), .ref xK, .int md, .ref xR, .int wr, .ref xW, .int at_, .long nu, .long vl, .long pc_, .int bs, .int tk, .int gd])), (xI, .inl (cA, 120, .inl gI)), (xL, .inl (cA, 120, .inl gL)), (xO, .inl (cA, 400, .inl gO)), (xK, .inl (cA, 120, .inl gK)), (xR, .inl (cA, 121, .inl gR)), (xW, .inl (cA, 1000, .inl gW))] := hD.sub [0, 1, 2, 3, 4, 5, 6] (by decide) rfl
  refine lv_istore_n (lv' := [(2, .int (un I p0)), (0, .ref mo), (1, .int (nI p0))]) hx hb dMo_readEights_5 rfl hl (by decide) rfl (fun ls hl => ?_)
  refine lv_iload_n hx hb dMo_readEights_6 rfl (lv_at hl 0 rfl) ?_
  refine ca_i (wr := [(mo, .inr (5, [.int (nI I.length), .ref xI, .int (nI L.length), .ref xL, .int (nI O.length), .ref xO, .int (nI K.length), .ref xK, .int md, .ref xR, .int wr, .ref xW, .int at_, .long nu, .long vl, .long pc_, .int bs, .int tk, .int gd])), (xI, .inl (cA, 120, .inl gI)), (xL, .inl (cA, 120, .inl gL)), (xO, .inl (cA, 400, .inl gO)), (xK, .inl (cA, 120, .inl gK)), (xR, .inl (cA, 121, .inl gR)), (xW, .inl (cA, 1000, .inl gW))]) (va_runS (As := [.int (un I p0)]) (rest := []) Xf (k_Mo_eights l D cA _ (un I p0)) ⟨cb_of 1 hw w_452 w_7 w_450 (by decide +kernel) (by rw [hR]; exact ⟨Nat.le_of_ble_eq_true rfl, Nat.le_of_ble_eq_true rfl⟩), hw _ w_451⟩ (pre_S hP hD hK hn [] rfl (by decide)) rfl rfl hl.1 rfl (lv_room (Nat.le_of_ble_eq_true rfl)) dMo_readEights_7 ⟨Nat.zero_le _, Nat.zero_le _⟩) hP hD hS hA [] [0, 1, 2, 3, 4, 5, 6] rfl rfl (by decide) (by decide) (fun r7 u_ H locs hq_ hP hD hS => ?_)
  obtain rfl : r7 = nI (sz8 (un I p0)) := hq_
  replace hP : va_P D vwCl [(mo, .inr (5, [.int (nI I.length), .ref xI, .int (nI L.length), .ref xL, .int (nI O.length), .ref xO, .int (nI K.length), .ref xK, .int md, .ref xR, .int wr, .ref xW, .int at_, .long nu, .long vl, .long pc_, .int bs, .int tk, .int gd])), (xI, .inl (cA, 120, .inl gI)), (xL, .inl (cA, 120, .inl gL)), (xO, .inl (cA, 400, .inl gO)), (xK, .inl (cA, 120, .inl gK)), (xR, .inl (cA, 121, .inl gR)), (xW, .inl (cA, 1000, .inl gW))] H := hP.sub [0, 1, 2, 3, 4, 5, 6] rfl
  replace hD : va_D A [(mo, .inr (5, [.int (nI I.length), .ref xI, .int (nI L.length), .ref xL, .int (nI O.length), .ref xO, .int (nI K.length), .ref xK, .int md, .ref xR, .int wr, .ref xW, .int at_, .long nu, .long vl, .long pc_, .int bs, .int tk, .int gd])), (xI, .inl (cA, 120, .inl gI)), (xL, .inl (cA, 120, .inl gL)), (xO, .inl (cA, 400, .inl gO)), (xK, .inl (cA, 120, .inl gK)), (xR, .inl (cA, 121, .inl gR)), (xW, .inl (cA, 1000, .inl gW))] := hD.sub [0, 1, 2, 3, 4, 5, 6] (by decide) rfl
  rcases sz8_c (un I p0) with e8 | ⟨e8, b1, b2⟩ | ⟨e8, b1, b2⟩ | ⟨e8, b1, b2⟩ | ⟨e8, b1, b2⟩
  · skip
    rw [e8]
    refine lv_istore_n (lv' := [(3, .int (nI 0)), (2, .int (un I p0)), (0, .ref mo), (1, .int (nI p0))]) hx hb dMo_readEights_10 rfl hl (by decide) rfl (fun ls hl => ?_)
    refine lv_aload_n hx hb dMo_readEights_11 rfl (lv_at hl 2 rfl) ?_
    refine lv_iconst (v := nI 0) hx hb dMo_readEights_12 (by decide) ?_
    refine va_put (D := D) (ci := 5) (v := .int (nI 0)) (ty := .int) (C := R_Mo) (T := T_Mo) (N := 19) hx hb hw in_Mo ty_Mo ty_Mo_ok nm_Mo hown hK hP hD hS 0 rfl rfl 17 (by decide) (hw _ w_381) (fun _ h9 => h9) rfl (by decide +kernel) rfl rfl (Nat.le_of_ble_eq_true rfl) dMo_readEights_13 (fun H locs hP hD hS => ?_)
    have hP : va_P D vwCl [(mo, .inr (5, [.int (nI I.length), .ref xI, .int (nI L.length), .ref xL, .int (nI O.length), .ref xO, .int (nI K.length), .ref xK, .int md, .ref xR, .int wr, .ref xW, .int at_, .long nu, .long vl, .long pc_, .int bs, .int (nI 0), .int gd])), (xI, .inl (cA, 120, .inl gI)), (xL, .inl (cA, 120, .inl gL)), (xO, .inl (cA, 400, .inl gO)), (xK, .inl (cA, 120, .inl gK)), (xR, .inl (cA, 121, .inl gR)), (xW, .inl (cA, 1000, .inl gW))] H := hP
    have hD : va_D A [(mo, .inr (5, [.int (nI I.length), .ref xI, .int (nI L.length), .ref xL, .int (nI O.length), .ref xO, .int (nI K.length), .ref xK, .int md, .ref xR, .int wr, .ref xW, .int at_, .long nu, .long vl, .long pc_, .int bs, .int (nI 0), .int gd])), (xI, .inl (cA, 120, .inl gI)), (xL, .inl (cA, 120, .inl gL)), (xO, .inl (cA, 400, .inl gO)), (xK, .inl (cA, 120, .inl gK)), (xR, .inl (cA, 121, .inl gR)), (xW, .inl (cA, 1000, .inl gW))] := hD
    refine lv_aload_n hx hb dMo_readEights_16 rfl (lv_at hl 2 rfl) ?_
    refine lv_iload_n hx hb dMo_readEights_17 rfl (lv_at hl 0 rfl) ?_
    refine lv_if_le (tgt := 25) hx hb dMo_readEights_18 (by decide) (fun h18 => ?_) (fun h18 => ?_)
    · skip
      refine lv_iconst (v := nI 0) hx hb dMo_readEights_25 (by decide) ?_
      refine va_put (D := D) (ci := 5) (v := .int (nI 0)) (ty := .int) (C := R_Mo) (T := T_Mo) (N := 19) hx hb hw in_Mo ty_Mo ty_Mo_ok nm_Mo hown hK hP hD hS 0 rfl rfl 18 (by decide) (hw _ w_382) (fun _ h9 => h9) rfl (by decide +kernel) rfl rfl (Nat.le_of_ble_eq_true rfl) dMo_readEights_26 (fun H locs hP hD hS => ?_)
      have hP : va_P D vwCl [(mo, .inr (5, [.int (nI I.length), .ref xI, .int (nI L.length), .ref xL, .int (nI O.length), .ref xO, .int (nI K.length), .ref xK, .int md, .ref xR, .int wr, .ref xW, .int at_, .long nu, .long vl, .long pc_, .int bs, .int (nI 0), .int (nI 0)])), (xI, .inl (cA, 120, .inl gI)), (xL, .inl (cA, 120, .inl gL)), (xO, .inl (cA, 400, .inl gO)), (xK, .inl (cA, 120, .inl gK)), (xR, .inl (cA, 121, .inl gR)), (xW, .inl (cA, 1000, .inl gW))] H := hP
      have hD : va_D A [(mo, .inr (5, [.int (nI I.length), .ref xI, .int (nI L.length), .ref xL, .int (nI O.length), .ref xO, .int (nI K.length), .ref xK, .int md, .ref xR, .int wr, .ref xW, .int at_, .long nu, .long vl, .long pc_, .int bs, .int (nI 0), .int (nI 0)])), (xI, .inl (cA, 120, .inl gI)), (xL, .inl (cA, 120, .inl gL)), (xO, .inl (cA, 400, .inl gO)), (xK, .inl (cA, 120, .inl gK)), (xR, .inl (cA, 121, .inl gR)), (xW, .inl (cA, 1000, .inl gW))] := hD
      refine lv_iload_n hx hb dMo_readEights_29 rfl (lv_at hl 0 rfl) ?_
      refine lv_if_ne (tgt := 35) hx hb dMo_readEights_30 (by decide) (fun h30 => ?_) (fun h30 => ?_)
      · skip
        exact absurd h30 (by decide)
      · skip
        refine lv_iconst (v := (-1)) hx hb dMo_readEights_33 (by decide) ?_
        have er : rd8 (un I) p0 = (none, 0) := by simp [rd8, e8]
        replace hP : va_P D vwCl [(mo, .inr (5, [.int (nI I.length), .ref xI, .int (nI L.length), .ref xL, .int (nI O.length), .ref xO, .int (nI K.length), .ref xK, .int md, .ref xR, .int wr, .ref xW, .int at_, .long nu, .long vl, .long pc_, .int bs, .int (tkv (rd8 (un I) p0)), .int (nI ((rd8 (un I) p0).2))])), (xI, .inl (cA, 120, .inl gI)), (xL, .inl (cA, 120, .inl gL)), (xO, .inl (cA, 400, .inl gO)), (xK, .inl (cA, 120, .inl gK)), (xR, .inl (cA, 121, .inl gR)), (xW, .inl (cA, 1000, .inl gW))] H := by rw [er]; exact hP
        replace hD : va_D A [(mo, .inr (5, [.int (nI I.length), .ref xI, .int (nI L.length), .ref xL, .int (nI O.length), .ref xO, .int (nI K.length), .ref xK, .int md, .ref xR, .int wr, .ref xW, .int at_, .long nu, .long vl, .long pc_, .int bs, .int (tkv (rd8 (un I) p0)), .int (nI ((rd8 (un I) p0).2))])), (xI, .inl (cA, 120, .inl gI)), (xL, .inl (cA, 120, .inl gL)), (xO, .inl (cA, 400, .inl gO)), (xK, .inl (cA, 120, .inl gK)), (xR, .inl (cA, 121, .inl gR)), (xW, .inl (cA, 1000, .inl gW))] := by rw [er]; exact hD
        exact ret () dMo_readEights_34 rfl (by rw [er]; rfl) hP hD hS
    · skip
      exact absurd h18 (by decide)
  · skip
    rw [e8]
    obtain ⟨ea, eb, ec⟩ := tn_of b1 (by decide)
    refine lv_istore_n (lv' := [(3, .int (nI 1)), (2, .int (un I p0)), (0, .ref mo), (1, .int (nI p0))]) hx hb dMo_readEights_10 rfl hl (by decide) rfl (fun ls hl => ?_)
    refine lv_aload_n hx hb dMo_readEights_11 rfl (lv_at hl 2 rfl) ?_
    refine lv_iconst (v := nI 0) hx hb dMo_readEights_12 (by decide) ?_
    refine va_put (D := D) (ci := 5) (v := .int (nI 0)) (ty := .int) (C := R_Mo) (T := T_Mo) (N := 19) hx hb hw in_Mo ty_Mo ty_Mo_ok nm_Mo hown hK hP hD hS 0 rfl rfl 17 (by decide) (hw _ w_381) (fun _ h9 => h9) rfl (by decide +kernel) rfl rfl (Nat.le_of_ble_eq_true rfl) dMo_readEights_13 (fun H locs hP hD hS => ?_)
    have hP : va_P D vwCl [(mo, .inr (5, [.int (nI I.length), .ref xI, .int (nI L.length), .ref xL, .int (nI O.length), .ref xO, .int (nI K.length), .ref xK, .int md, .ref xR, .int wr, .ref xW, .int at_, .long nu, .long vl, .long pc_, .int bs, .int (nI 0), .int gd])), (xI, .inl (cA, 120, .inl gI)), (xL, .inl (cA, 120, .inl gL)), (xO, .inl (cA, 400, .inl gO)), (xK, .inl (cA, 120, .inl gK)), (xR, .inl (cA, 121, .inl gR)), (xW, .inl (cA, 1000, .inl gW))] H := hP
    have hD : va_D A [(mo, .inr (5, [.int (nI I.length), .ref xI, .int (nI L.length), .ref xL, .int (nI O.length), .ref xO, .int (nI K.length), .ref xK, .int md, .ref xR, .int wr, .ref xW, .int at_, .long nu, .long vl, .long pc_, .int bs, .int (nI 0), .int gd])), (xI, .inl (cA, 120, .inl gI)), (xL, .inl (cA, 120, .inl gL)), (xO, .inl (cA, 400, .inl gO)), (xK, .inl (cA, 120, .inl gK)), (xR, .inl (cA, 121, .inl gR)), (xW, .inl (cA, 1000, .inl gW))] := hD
    refine lv_aload_n hx hb dMo_readEights_16 rfl (lv_at hl 2 rfl) ?_
    refine lv_iload_n hx hb dMo_readEights_17 rfl (lv_at hl 0 rfl) ?_
    refine lv_if_le (tgt := 25) hx hb dMo_readEights_18 (by decide) (fun h18 => ?_) (fun h18 => ?_)
    · skip
      exact absurd h18 (by decide)
    · skip
      refine lv_iconst (v := nI 1) hx hb dMo_readEights_21 (by decide) ?_
      refine lv_goto (tgt := 26) hx hb dMo_readEights_22 (by decide) ?_
      refine va_put (D := D) (ci := 5) (v := .int (nI 1)) (ty := .int) (C := R_Mo) (T := T_Mo) (N := 19) hx hb hw in_Mo ty_Mo ty_Mo_ok nm_Mo hown hK hP hD hS 0 rfl rfl 18 (by decide) (hw _ w_382) (fun _ h9 => h9) rfl (by decide +kernel) rfl rfl (Nat.le_of_ble_eq_true rfl) dMo_readEights_26 (fun H locs hP hD hS => ?_)
      have hP : va_P D vwCl [(mo, .inr (5, [.int (nI I.length), .ref xI, .int (nI L.length), .ref xL, .int (nI O.length), .ref xO, .int (nI K.length), .ref xK, .int md, .ref xR, .int wr, .ref xW, .int at_, .long nu, .long vl, .long pc_, .int bs, .int (nI 0), .int (nI 1)])), (xI, .inl (cA, 120, .inl gI)), (xL, .inl (cA, 120, .inl gL)), (xO, .inl (cA, 400, .inl gO)), (xK, .inl (cA, 120, .inl gK)), (xR, .inl (cA, 121, .inl gR)), (xW, .inl (cA, 1000, .inl gW))] H := hP
      have hD : va_D A [(mo, .inr (5, [.int (nI I.length), .ref xI, .int (nI L.length), .ref xL, .int (nI O.length), .ref xO, .int (nI K.length), .ref xK, .int md, .ref xR, .int wr, .ref xW, .int at_, .long nu, .long vl, .long pc_, .int bs, .int (nI 0), .int (nI 1)])), (xI, .inl (cA, 120, .inl gI)), (xL, .inl (cA, 120, .inl gL)), (xO, .inl (cA, 400, .inl gO)), (xK, .inl (cA, 120, .inl gK)), (xR, .inl (cA, 121, .inl gR)), (xW, .inl (cA, 1000, .inl gW))] := hD
      refine lv_iload_n hx hb dMo_readEights_29 rfl (lv_at hl 0 rfl) ?_
      refine lv_if_ne (tgt := 35) hx hb dMo_readEights_30 (by decide) (fun h30 => ?_) (fun h30 => ?_)
      · skip
        refine lv_iload_n hx hb dMo_readEights_35 rfl (lv_at hl 0 rfl) ?_
        refine lv_iconst (v := nI 1) hx hb dMo_readEights_36 (by decide) ?_
        refine lv_icmp_ne (tgt := 44) hx hb dMo_readEights_37 (by decide) (fun h37 => ?_) (fun h37 => ?_)
        · skip
          exact absurd h37 (by decide)
        · skip
          refine lv_iload_n hx hb dMo_readEights_40 rfl (lv_at hl 1 rfl) ?_
          refine lv_goto (tgt := 75) hx hb dMo_readEights_41 (by decide) ?_
          refine lv_rei (y := nI (tn (un I p0))) ea ?_
          refine lv_istore (lv' := [(4, .int (nI (tn (un I p0)))), (3, .int (nI 1)), (2, .int (un I p0)), (0, .ref mo), (1, .int (nI p0))]) hx hb dMo_readEights_75 hl (by decide) rfl (fun ls hl => ?_)
          refine lv_iconst (v := nI 1) hx hb dMo_readEights_77 (by decide) ?_
          refine lv_istore (lv' := [(5, .int (nI 1)), (4, .int (nI (tn (un I p0)))), (3, .int (nI 1)), (2, .int (un I p0)), (0, .ref mo), (1, .int (nI p0))]) hx hb dMo_readEights_78 hl (by decide) rfl (fun ls hl => ?_)
          refine lv_iload hx hb dMo_readEights_80 (lv_at hl 0 rfl) ?_
          refine lv_iload_n hx hb dMo_readEights_82 rfl (lv_at hl 2 rfl) ?_
          refine lv_icmp_ge (tgt := 168) hx hb dMo_readEights_83 (by decide) (fun h83 => ?_) (fun h83 => ?_)
          · skip
            refine lv_aload_n hx hb dMo_readEights_168 rfl (lv_at hl 4 rfl) ?_
            refine lv_iload_n hx hb dMo_readEights_169 rfl (lv_at hl 2 rfl) ?_
            refine va_put (D := D) (ci := 5) (v := .int (nI 1)) (ty := .int) (C := R_Mo) (T := T_Mo) (N := 19) hx hb hw in_Mo ty_Mo ty_Mo_ok nm_Mo hown hK hP hD hS 0 rfl rfl 17 (by decide) (hw _ w_381) (fun _ h9 => h9) rfl (by decide +kernel) rfl rfl (Nat.le_of_ble_eq_true rfl) dMo_readEights_170 (fun H locs hP hD hS => ?_)
            have hP : va_P D vwCl [(mo, .inr (5, [.int (nI I.length), .ref xI, .int (nI L.length), .ref xL, .int (nI O.length), .ref xO, .int (nI K.length), .ref xK, .int md, .ref xR, .int wr, .ref xW, .int at_, .long nu, .long vl, .long pc_, .int bs, .int (nI 1), .int (nI 1)])), (xI, .inl (cA, 120, .inl gI)), (xL, .inl (cA, 120, .inl gL)), (xO, .inl (cA, 400, .inl gO)), (xK, .inl (cA, 120, .inl gK)), (xR, .inl (cA, 121, .inl gR)), (xW, .inl (cA, 1000, .inl gW))] H := hP
            have hD : va_D A [(mo, .inr (5, [.int (nI I.length), .ref xI, .int (nI L.length), .ref xL, .int (nI O.length), .ref xO, .int (nI K.length), .ref xK, .int md, .ref xR, .int wr, .ref xW, .int at_, .long nu, .long vl, .long pc_, .int bs, .int (nI 1), .int (nI 1)])), (xI, .inl (cA, 120, .inl gI)), (xL, .inl (cA, 120, .inl gL)), (xO, .inl (cA, 400, .inl gO)), (xK, .inl (cA, 120, .inl gK)), (xR, .inl (cA, 121, .inl gR)), (xW, .inl (cA, 1000, .inl gW))] := hD
            refine lv_iload hx hb dMo_readEights_173 (lv_at hl 1 rfl) ?_
            have er : rd8 (un I) p0 = (some (tn (un I p0)), 1) := by simp [rd8, e8]
            replace hP : va_P D vwCl [(mo, .inr (5, [.int (nI I.length), .ref xI, .int (nI L.length), .ref xL, .int (nI O.length), .ref xO, .int (nI K.length), .ref xK, .int md, .ref xR, .int wr, .ref xW, .int at_, .long nu, .long vl, .long pc_, .int bs, .int (tkv (rd8 (un I) p0)), .int (nI ((rd8 (un I) p0).2))])), (xI, .inl (cA, 120, .inl gI)), (xL, .inl (cA, 120, .inl gL)), (xO, .inl (cA, 400, .inl gO)), (xK, .inl (cA, 120, .inl gK)), (xR, .inl (cA, 121, .inl gR)), (xW, .inl (cA, 1000, .inl gW))] H := by rw [er]; exact hP
            replace hD : va_D A [(mo, .inr (5, [.int (nI I.length), .ref xI, .int (nI L.length), .ref xL, .int (nI O.length), .ref xO, .int (nI K.length), .ref xK, .int md, .ref xR, .int wr, .ref xW, .int at_, .long nu, .long vl, .long pc_, .int bs, .int (tkv (rd8 (un I) p0)), .int (nI ((rd8 (un I) p0).2))])), (xI, .inl (cA, 120, .inl gI)), (xL, .inl (cA, 120, .inl gL)), (xO, .inl (cA, 400, .inl gO)), (xK, .inl (cA, 120, .inl gK)), (xR, .inl (cA, 121, .inl gR)), (xW, .inl (cA, 1000, .inl gW))] := by rw [er]; exact hD
            exact ret () dMo_readEights_175 rfl (by rw [er]; rfl) hP hD hS
          · skip
            exact absurd h83 (by decide)
      · skip
        exact absurd h30 (by decide)
  · skip
    rw [e8]
    obtain ⟨ea, eb, ec⟩ := tn_of b1 (by decide)
    refine lv_istore_n (lv' := [(3, .int (nI 2)), (2, .int (un I p0)), (0, .ref mo), (1, .int (nI p0))]) hx hb dMo_readEights_10 rfl hl (by decide) rfl (fun ls hl => ?_)
    refine lv_aload_n hx hb dMo_readEights_11 rfl (lv_at hl 2 rfl) ?_
    refine lv_iconst (v := nI 0) hx hb dMo_readEights_12 (by decide) ?_
    refine va_put (D := D) (ci := 5) (v := .int (nI 0)) (ty := .int) (C := R_Mo) (T := T_Mo) (N := 19) hx hb hw in_Mo ty_Mo ty_Mo_ok nm_Mo hown hK hP hD hS 0 rfl rfl 17 (by decide) (hw _ w_381) (fun _ h9 => h9) rfl (by decide +kernel) rfl rfl (Nat.le_of_ble_eq_true rfl) dMo_readEights_13 (fun H locs hP hD hS => ?_)
    have hP : va_P D vwCl [(mo, .inr (5, [.int (nI I.length), .ref xI, .int (nI L.length), .ref xL, .int (nI O.length), .ref xO, .int (nI K.length), .ref xK, .int md, .ref xR, .int wr, .ref xW, .int at_, .long nu, .long vl, .long pc_, .int bs, .int (nI 0), .int gd])), (xI, .inl (cA, 120, .inl gI)), (xL, .inl (cA, 120, .inl gL)), (xO, .inl (cA, 400, .inl gO)), (xK, .inl (cA, 120, .inl gK)), (xR, .inl (cA, 121, .inl gR)), (xW, .inl (cA, 1000, .inl gW))] H := hP
    have hD : va_D A [(mo, .inr (5, [.int (nI I.length), .ref xI, .int (nI L.length), .ref xL, .int (nI O.length), .ref xO, .int (nI K.length), .ref xK, .int md, .ref xR, .int wr, .ref xW, .int at_, .long nu, .long vl, .long pc_, .int bs, .int (nI 0), .int gd])), (xI, .inl (cA, 120, .inl gI)), (xL, .inl (cA, 120, .inl gL)), (xO, .inl (cA, 400, .inl gO)), (xK, .inl (cA, 120, .inl gK)), (xR, .inl (cA, 121, .inl gR)), (xW, .inl (cA, 1000, .inl gW))] := hD
    refine lv_aload_n hx hb dMo_readEights_16 rfl (lv_at hl 2 rfl) ?_
    refine lv_iload_n hx hb dMo_readEights_17 rfl (lv_at hl 0 rfl) ?_
    refine lv_if_le (tgt := 25) hx hb dMo_readEights_18 (by decide) (fun h18 => ?_) (fun h18 => ?_)
    · skip
      exact absurd h18 (by decide)
    · skip
      refine lv_iconst (v := nI 1) hx hb dMo_readEights_21 (by decide) ?_
      refine lv_goto (tgt := 26) hx hb dMo_readEights_22 (by decide) ?_
      refine va_put (D := D) (ci := 5) (v := .int (nI 1)) (ty := .int) (C := R_Mo) (T := T_Mo) (N := 19) hx hb hw in_Mo ty_Mo ty_Mo_ok nm_Mo hown hK hP hD hS 0 rfl rfl 18 (by decide) (hw _ w_382) (fun _ h9 => h9) rfl (by decide +kernel) rfl rfl (Nat.le_of_ble_eq_true rfl) dMo_readEights_26 (fun H locs hP hD hS => ?_)
      have hP : va_P D vwCl [(mo, .inr (5, [.int (nI I.length), .ref xI, .int (nI L.length), .ref xL, .int (nI O.length), .ref xO, .int (nI K.length), .ref xK, .int md, .ref xR, .int wr, .ref xW, .int at_, .long nu, .long vl, .long pc_, .int bs, .int (nI 0), .int (nI 1)])), (xI, .inl (cA, 120, .inl gI)), (xL, .inl (cA, 120, .inl gL)), (xO, .inl (cA, 400, .inl gO)), (xK, .inl (cA, 120, .inl gK)), (xR, .inl (cA, 121, .inl gR)), (xW, .inl (cA, 1000, .inl gW))] H := hP
      have hD : va_D A [(mo, .inr (5, [.int (nI I.length), .ref xI, .int (nI L.length), .ref xL, .int (nI O.length), .ref xO, .int (nI K.length), .ref xK, .int md, .ref xR, .int wr, .ref xW, .int at_, .long nu, .long vl, .long pc_, .int bs, .int (nI 0), .int (nI 1)])), (xI, .inl (cA, 120, .inl gI)), (xL, .inl (cA, 120, .inl gL)), (xO, .inl (cA, 400, .inl gO)), (xK, .inl (cA, 120, .inl gK)), (xR, .inl (cA, 121, .inl gR)), (xW, .inl (cA, 1000, .inl gW))] := hD
      refine lv_iload_n hx hb dMo_readEights_29 rfl (lv_at hl 0 rfl) ?_
      refine lv_if_ne (tgt := 35) hx hb dMo_readEights_30 (by decide) (fun h30 => ?_) (fun h30 => ?_)
      · skip
        refine lv_iload_n hx hb dMo_readEights_35 rfl (lv_at hl 0 rfl) ?_
        refine lv_iconst (v := nI 1) hx hb dMo_readEights_36 (by decide) ?_
        refine lv_icmp_ne (tgt := 44) hx hb dMo_readEights_37 (by decide) (fun h37 => ?_) (fun h37 => ?_)
        · skip
          refine lv_iload_n hx hb dMo_readEights_44 rfl (lv_at hl 0 rfl) ?_
          refine lv_iconst (v := nI 2) hx hb dMo_readEights_45 (by decide) ?_
          refine lv_icmp_ne (tgt := 57) hx hb dMo_readEights_46 (by decide) (fun h46 => ?_) (fun h46 => ?_)
          · skip
            exact absurd h46 (by decide)
          · skip
            refine lv_iload_n hx hb dMo_readEights_49 rfl (lv_at hl 1 rfl) ?_
            refine lv_sipush (v := nI 192) hx hb dMo_readEights_50 (by decide) ?_
            refine lv_isub hx hb dMo_readEights_53 ?_
            refine lv_rei (y := nI (tn (un I p0) - 192)) (sub_r ea (by omega)) ?_
            refine lv_goto (tgt := 75) hx hb dMo_readEights_54 (by decide) ?_
            refine lv_istore (lv' := [(4, .int (nI (tn (un I p0) - 192))), (3, .int (nI 2)), (2, .int (un I p0)), (0, .ref mo), (1, .int (nI p0))]) hx hb dMo_readEights_75 hl (by decide) rfl (fun ls hl => ?_)
            refine lv_iconst (v := nI 1) hx hb dMo_readEights_77 (by decide) ?_
            refine lv_istore (lv' := [(5, .int (nI 1)), (4, .int (nI (tn (un I p0) - 192))), (3, .int (nI 2)), (2, .int (un I p0)), (0, .ref mo), (1, .int (nI p0))]) hx hb dMo_readEights_78 hl (by decide) rfl (fun ls hl => ?_)
            refine lv_iload hx hb dMo_readEights_80 (lv_at hl 0 rfl) ?_
            refine lv_iload_n hx hb dMo_readEights_82 rfl (lv_at hl 2 rfl) ?_
            refine lv_icmp_ge (tgt := 168) hx hb dMo_readEights_83 (by decide) (fun h83 => ?_) (fun h83 => ?_)
            · skip
              exact absurd h83 (by decide)
            · skip
              refine lv_aload_n hx hb dMo_readEights_86 rfl (lv_at hl 4 rfl) ?_
              refine lv_iload_n hx hb dMo_readEights_87 rfl (lv_at hl 5 rfl) ?_
              refine lv_iload hx hb dMo_readEights_88 (lv_at hl 0 rfl) ?_
              refine lv_iadd hx hb dMo_readEights_90 ?_
              refine lv_rei (y := nI (p0 + 1)) (nI_add _ _) ?_
              refine ca_i (wr := []) (va_runV (As := [.int (nI (p0 + 1))]) (rest := []) Xf (k_Mo_unit l D cA _ mo xI xL xO xK xR xW I L O K gI gL gO gK gR gW md wr at_ nu vl pc_ bs (nI 0) (nI 1) (p0 + 1) hfI hcI hfL hcL hfO hcO hfK hcK (by omega)) ⟨cb_of 1 hw w_449 w_7 w_446 (by decide +kernel) (by rw [hR]; exact ⟨Nat.le_of_ble_eq_true rfl, Nat.le_of_ble_eq_true rfl⟩), hw _ w_448, hw _ ws_17⟩ (pre_V (As := [.int (nI (p0 + 1))]) hP hD hK hn [0, 1, 2, 3, 4, 5, 6] rfl (by decide) 0 5 rfl rfl) rfl rfl hl.1 rfl (lv_room (Nat.le_of_ble_eq_true rfl)) dMo_readEights_91 ⟨Nat.zero_le _, Nat.zero_le _⟩) hP hD hS hA [0, 1, 2, 3, 4, 5, 6] [] rfl rfl (by decide) (by decide) (fun r91 u_ H locs hq_ hP hD hS => ?_)
              obtain rfl : r91 = un I (p0 + 1) := hq_
              replace hP : va_P D vwCl [(mo, .inr (5, [.int (nI I.length), .ref xI, .int (nI L.length), .ref xL, .int (nI O.length), .ref xO, .int (nI K.length), .ref xK, .int md, .ref xR, .int wr, .ref xW, .int at_, .long nu, .long vl, .long pc_, .int bs, .int (nI 0), .int (nI 1)])), (xI, .inl (cA, 120, .inl gI)), (xL, .inl (cA, 120, .inl gL)), (xO, .inl (cA, 400, .inl gO)), (xK, .inl (cA, 120, .inl gK)), (xR, .inl (cA, 121, .inl gR)), (xW, .inl (cA, 1000, .inl gW))] H := hP.sub [0, 1, 2, 3, 4, 5, 6] rfl
              replace hD : va_D A [(mo, .inr (5, [.int (nI I.length), .ref xI, .int (nI L.length), .ref xL, .int (nI O.length), .ref xO, .int (nI K.length), .ref xK, .int md, .ref xR, .int wr, .ref xW, .int at_, .long nu, .long vl, .long pc_, .int bs, .int (nI 0), .int (nI 1)])), (xI, .inl (cA, 120, .inl gI)), (xL, .inl (cA, 120, .inl gL)), (xO, .inl (cA, 400, .inl gO)), (xK, .inl (cA, 120, .inl gK)), (xR, .inl (cA, 121, .inl gR)), (xW, .inl (cA, 1000, .inl gW))] := hD.sub [0, 1, 2, 3, 4, 5, 6] (by decide) rfl
              refine lv_istore (lv' := [(6, .int (un I (p0 + 1))), (5, .int (nI 1)), (4, .int (nI (tn (un I p0) - 192))), (3, .int (nI 2)), (2, .int (un I p0)), (0, .ref mo), (1, .int (nI p0))]) hx hb dMo_readEights_94 hl (by decide) rfl (fun ls hl => ?_)
              refine lv_iload hx hb dMo_readEights_96 (lv_at hl 0 rfl) ?_
              refine lv_iload hx hb dMo_readEights_98 (lv_at hl 1 rfl) ?_
              refine lv_iconst (v := nI 1) hx hb dMo_readEights_100 (by decide) ?_
              refine lv_icmp_ne (tgt := 111) hx hb dMo_readEights_101 (by decide) (fun h101 => ?_) (fun h101 => ?_)
              · skip
                exact absurd h101 (by decide)
              · skip
                refine lv_iload_n hx hb dMo_readEights_104 rfl (lv_at hl 4 rfl) ?_
                refine ca_i (wr := [(mo, .inr (5, [.int (nI I.length), .ref xI, .int (nI L.length), .ref xL, .int (nI O.length), .ref xO, .int (nI K.length), .ref xK, .int md, .ref xR, .int wr, .ref xW, .int at_, .long nu, .long vl, .long pc_, .int bs, .int (nI 0), .int (nI 1)])), (xI, .inl (cA, 120, .inl gI)), (xL, .inl (cA, 120, .inl gL)), (xO, .inl (cA, 400, .inl gO)), (xK, .inl (cA, 120, .inl gK)), (xR, .inl (cA, 121, .inl gR)), (xW, .inl (cA, 1000, .inl gW))]) (va_runS (As := [.int (un I p0)]) (rest := [.int (un I (p0 + 1))]) Xf (k_Mo_leastSecond l D cA _ (un I p0)) ⟨cb_of 1 hw w_458 w_7 w_456 (by decide +kernel) (by rw [hR]; exact ⟨Nat.le_of_ble_eq_true rfl, Nat.le_of_ble_eq_true rfl⟩), hw _ w_457⟩ (pre_S hP hD hK hn [] rfl (by decide)) rfl rfl hl.1 rfl (lv_room (Nat.le_of_ble_eq_true rfl)) dMo_readEights_105 ⟨Nat.zero_le _, Nat.zero_le _⟩) hP hD hS hA [] [0, 1, 2, 3, 4, 5, 6] rfl rfl (by decide) (by decide) (fun r105 u_ H locs hq_ hP hD hS => ?_)
                obtain rfl : r105 = nI (l2N (un I p0)) := hq_
                replace hP : va_P D vwCl [(mo, .inr (5, [.int (nI I.length), .ref xI, .int (nI L.length), .ref xL, .int (nI O.length), .ref xO, .int (nI K.length), .ref xK, .int md, .ref xR, .int wr, .ref xW, .int at_, .long nu, .long vl, .long pc_, .int bs, .int (nI 0), .int (nI 1)])), (xI, .inl (cA, 120, .inl gI)), (xL, .inl (cA, 120, .inl gL)), (xO, .inl (cA, 400, .inl gO)), (xK, .inl (cA, 120, .inl gK)), (xR, .inl (cA, 121, .inl gR)), (xW, .inl (cA, 1000, .inl gW))] H := hP.sub [0, 1, 2, 3, 4, 5, 6] rfl
                replace hD : va_D A [(mo, .inr (5, [.int (nI I.length), .ref xI, .int (nI L.length), .ref xL, .int (nI O.length), .ref xO, .int (nI K.length), .ref xK, .int md, .ref xR, .int wr, .ref xW, .int at_, .long nu, .long vl, .long pc_, .int bs, .int (nI 0), .int (nI 1)])), (xI, .inl (cA, 120, .inl gI)), (xL, .inl (cA, 120, .inl gL)), (xO, .inl (cA, 400, .inl gO)), (xK, .inl (cA, 120, .inl gK)), (xR, .inl (cA, 121, .inl gR)), (xW, .inl (cA, 1000, .inl gW))] := hD.sub [0, 1, 2, 3, 4, 5, 6] (by decide) rfl
                refine lv_goto (tgt := 114) hx hb dMo_readEights_108 (by decide) ?_
                refine lv_iload hx hb dMo_readEights_114 (lv_at hl 1 rfl) ?_
                refine lv_iconst (v := nI 1) hx hb dMo_readEights_116 (by decide) ?_
                refine lv_icmp_ne (tgt := 127) hx hb dMo_readEights_117 (by decide) (fun h117 => ?_) (fun h117 => ?_)
                · skip
                  exact absurd h117 (by decide)
                · skip
                  refine lv_iload_n hx hb dMo_readEights_120 rfl (lv_at hl 4 rfl) ?_
                  refine ca_i (wr := [(mo, .inr (5, [.int (nI I.length), .ref xI, .int (nI L.length), .ref xL, .int (nI O.length), .ref xO, .int (nI K.length), .ref xK, .int md, .ref xR, .int wr, .ref xW, .int at_, .long nu, .long vl, .long pc_, .int bs, .int (nI 0), .int (nI 1)])), (xI, .inl (cA, 120, .inl gI)), (xL, .inl (cA, 120, .inl gL)), (xO, .inl (cA, 400, .inl gO)), (xK, .inl (cA, 120, .inl gK)), (xR, .inl (cA, 121, .inl gR)), (xW, .inl (cA, 1000, .inl gW))]) (va_runS (As := [.int (un I p0)]) (rest := [.int (nI (l2N (un I p0))), .int (un I (p0 + 1))]) Xf (k_Mo_mostSecond l D cA _ (un I p0)) ⟨cb_of 1 hw w_461 w_7 w_459 (by decide +kernel) (by rw [hR]; exact ⟨Nat.le_of_ble_eq_true rfl, Nat.le_of_ble_eq_true rfl⟩), hw _ w_460⟩ (pre_S hP hD hK hn [] rfl (by decide)) rfl rfl hl.1 rfl (lv_room (Nat.le_of_ble_eq_true rfl)) dMo_readEights_121 ⟨Nat.zero_le _, Nat.zero_le _⟩) hP hD hS hA [] [0, 1, 2, 3, 4, 5, 6] rfl rfl (by decide) (by decide) (fun r121 u_ H locs hq_ hP hD hS => ?_)
                  obtain rfl : r121 = nI (h2N (un I p0)) := hq_
                  replace hP : va_P D vwCl [(mo, .inr (5, [.int (nI I.length), .ref xI, .int (nI L.length), .ref xL, .int (nI O.length), .ref xO, .int (nI K.length), .ref xK, .int md, .ref xR, .int wr, .ref xW, .int at_, .long nu, .long vl, .long pc_, .int bs, .int (nI 0), .int (nI 1)])), (xI, .inl (cA, 120, .inl gI)), (xL, .inl (cA, 120, .inl gL)), (xO, .inl (cA, 400, .inl gO)), (xK, .inl (cA, 120, .inl gK)), (xR, .inl (cA, 121, .inl gR)), (xW, .inl (cA, 1000, .inl gW))] H := hP.sub [0, 1, 2, 3, 4, 5, 6] rfl
                  replace hD : va_D A [(mo, .inr (5, [.int (nI I.length), .ref xI, .int (nI L.length), .ref xL, .int (nI O.length), .ref xO, .int (nI K.length), .ref xK, .int md, .ref xR, .int wr, .ref xW, .int at_, .long nu, .long vl, .long pc_, .int bs, .int (nI 0), .int (nI 1)])), (xI, .inl (cA, 120, .inl gI)), (xL, .inl (cA, 120, .inl gL)), (xO, .inl (cA, 400, .inl gO)), (xK, .inl (cA, 120, .inl gK)), (xR, .inl (cA, 121, .inl gR)), (xW, .inl (cA, 1000, .inl gW))] := hD.sub [0, 1, 2, 3, 4, 5, 6] (by decide) rfl
                  refine lv_goto (tgt := 130) hx hb dMo_readEights_124 (by decide) ?_
                  refine ca_i (wr := [(mo, .inr (5, [.int (nI I.length), .ref xI, .int (nI L.length), .ref xL, .int (nI O.length), .ref xO, .int (nI K.length), .ref xK, .int md, .ref xR, .int wr, .ref xW, .int at_, .long nu, .long vl, .long pc_, .int bs, .int (nI 0), .int (nI 1)])), (xI, .inl (cA, 120, .inl gI)), (xL, .inl (cA, 120, .inl gL)), (xO, .inl (cA, 400, .inl gO)), (xK, .inl (cA, 120, .inl gK)), (xR, .inl (cA, 121, .inl gR)), (xW, .inl (cA, 1000, .inl gW))]) (va_runS (As := [.int (un I (p0 + 1)), .int (nI (l2N (un I p0))), .int (nI (h2N (un I p0)))]) (rest := []) Xf (k_Mo_isIn l D cA _ (un I (p0 + 1)) (l2N (un I p0)) (h2N (un I p0)) (l2N_b _) (h2N_b _)) ⟨cb_of 3 hw w_455 w_7 w_453 (by decide +kernel) (by rw [hR]; exact ⟨Nat.le_of_ble_eq_true rfl, Nat.le_of_ble_eq_true rfl⟩), hw _ w_454⟩ (pre_S hP hD hK hn [] rfl (by decide)) rfl rfl hl.1 rfl (lv_room (Nat.le_of_ble_eq_true rfl)) dMo_readEights_130 ⟨Nat.zero_le _, Nat.zero_le _⟩) hP hD hS hA [] [0, 1, 2, 3, 4, 5, 6] rfl rfl (by decide) (by decide) (fun r130 u_ H locs hq_ hP hD hS => ?_)
                  rcases hq_ with ⟨hk130_1, rfl⟩ | ⟨hk130_1, rfl⟩
                  · skip
                    replace hP : va_P D vwCl [(mo, .inr (5, [.int (nI I.length), .ref xI, .int (nI L.length), .ref xL, .int (nI O.length), .ref xO, .int (nI K.length), .ref xK, .int md, .ref xR, .int wr, .ref xW, .int at_, .long nu, .long vl, .long pc_, .int bs, .int (nI 0), .int (nI 1)])), (xI, .inl (cA, 120, .inl gI)), (xL, .inl (cA, 120, .inl gL)), (xO, .inl (cA, 400, .inl gO)), (xK, .inl (cA, 120, .inl gK)), (xR, .inl (cA, 121, .inl gR)), (xW, .inl (cA, 1000, .inl gW))] H := hP.sub [0, 1, 2, 3, 4, 5, 6] rfl
                    replace hD : va_D A [(mo, .inr (5, [.int (nI I.length), .ref xI, .int (nI L.length), .ref xL, .int (nI O.length), .ref xO, .int (nI K.length), .ref xK, .int md, .ref xR, .int wr, .ref xW, .int at_, .long nu, .long vl, .long pc_, .int bs, .int (nI 0), .int (nI 1)])), (xI, .inl (cA, 120, .inl gI)), (xL, .inl (cA, 120, .inl gL)), (xO, .inl (cA, 400, .inl gO)), (xK, .inl (cA, 120, .inl gK)), (xR, .inl (cA, 121, .inl gR)), (xW, .inl (cA, 1000, .inl gW))] := hD.sub [0, 1, 2, 3, 4, 5, 6] (by decide) rfl
                    rw [l2N_i, h2N_i] at hk130_1
                    have ho1 : ok2 (un I p0) (un I (p0 + 1)) = true := decide_eq_true hk130_1
                    obtain ⟨g1_1, g2_1⟩ := ok2_r ho1
                    obtain ⟨ea_1, eb_1, ec_1⟩ := tn_of g1_1 (by decide)
                    refine lv_if_ne (tgt := 138) hx hb dMo_readEights_133 (by decide) (fun h133 => ?_) (fun h133 => ?_)
                    · skip
                      refine lv_bipush (v := nI 64) hx hb dMo_readEights_138 (by decide) ?_
                      refine lv_iload hx hb dMo_readEights_140 (lv_at hl 2 rfl) ?_
                      refine lv_imul hx hb dMo_readEights_142 ?_
                      refine lv_rei (y := nI ((tn (un I p0) - 192) * 64)) (by rw [pk_mul, Nat.mul_comm]) ?_
                      refine lv_iload hx hb dMo_readEights_143 (lv_at hl 0 rfl) ?_
                      refine lv_iadd hx hb dMo_readEights_145 ?_
                      refine lv_rei (y := nI ((tn (un I p0) - 192) * 64 + tn (un I (p0 + 1)))) (add_r ea_1) ?_
                      refine lv_sipush (v := nI 128) hx hb dMo_readEights_146 (by decide) ?_
                      refine lv_isub hx hb dMo_readEights_149 ?_
                      refine lv_rei (y := nI ((tn (un I p0) - 192) * 64 + tn (un I (p0 + 1)) - 128)) (pk_sub (by omega)) ?_
                      refine lv_istore (lv' := [(4, .int (nI ((tn (un I p0) - 192) * 64 + tn (un I (p0 + 1)) - 128))), (6, .int (un I (p0 + 1))), (5, .int (nI 1)), (3, .int (nI 2)), (2, .int (un I p0)), (0, .ref mo), (1, .int (nI p0))]) hx hb dMo_readEights_150 hl (by decide) rfl (fun ls hl => ?_)
                      refine lv_aload_n hx hb dMo_readEights_152 rfl (lv_at hl 5 rfl) ?_
                      refine lv_aload_n hx hb dMo_readEights_153 rfl (lv_at hl 5 rfl) ?_
                      refine va_get (D := D) (ci := 5) (v := .int (nI 1)) (C := R_Mo) (T := T_Mo) (N := 19) hx hb hw in_Mo hown hK hP 0 rfl rfl 18 (by decide) (hw _ w_382) (fun _ h9 => h9) rfl dMo_readEights_154 ?_
                      refine lv_iconst (v := nI 1) hx hb dMo_readEights_157 (by decide) ?_
                      refine lv_iadd hx hb dMo_readEights_158 ?_
                      refine lv_rei (y := nI 2) (by decide) ?_
                      refine va_put (D := D) (ci := 5) (v := .int (nI 2)) (ty := .int) (C := R_Mo) (T := T_Mo) (N := 19) hx hb hw in_Mo ty_Mo ty_Mo_ok nm_Mo hown hK hP hD hS 0 rfl rfl 18 (by decide) (hw _ w_382) (fun _ h9 => h9) rfl (by decide +kernel) rfl rfl (Nat.le_of_ble_eq_true rfl) dMo_readEights_159 (fun H locs hP hD hS => ?_)
                      have hP : va_P D vwCl [(mo, .inr (5, [.int (nI I.length), .ref xI, .int (nI L.length), .ref xL, .int (nI O.length), .ref xO, .int (nI K.length), .ref xK, .int md, .ref xR, .int wr, .ref xW, .int at_, .long nu, .long vl, .long pc_, .int bs, .int (nI 0), .int (nI 2)])), (xI, .inl (cA, 120, .inl gI)), (xL, .inl (cA, 120, .inl gL)), (xO, .inl (cA, 400, .inl gO)), (xK, .inl (cA, 120, .inl gK)), (xR, .inl (cA, 121, .inl gR)), (xW, .inl (cA, 1000, .inl gW))] H := hP
                      have hD : va_D A [(mo, .inr (5, [.int (nI I.length), .ref xI, .int (nI L.length), .ref xL, .int (nI O.length), .ref xO, .int (nI K.length), .ref xK, .int md, .ref xR, .int wr, .ref xW, .int at_, .long nu, .long vl, .long pc_, .int bs, .int (nI 0), .int (nI 2)])), (xI, .inl (cA, 120, .inl gI)), (xL, .inl (cA, 120, .inl gL)), (xO, .inl (cA, 400, .inl gO)), (xK, .inl (cA, 120, .inl gK)), (xR, .inl (cA, 121, .inl gR)), (xW, .inl (cA, 1000, .inl gW))] := hD
                      refine lv_iinc (k := 2) (v := nI 2) (lv' := [(5, .int (nI 2)), (4, .int (nI ((tn (un I p0) - 192) * 64 + tn (un I (p0 + 1)) - 128))), (6, .int (un I (p0 + 1))), (3, .int (nI 2)), (2, .int (un I p0)), (0, .ref mo), (1, .int (nI p0))]) hx hb dMo_readEights_162 hl rfl (by decide) (by decide) rfl (fun ls hl => ?_)
                      refine lv_goto (tgt := 80) hx hb dMo_readEights_165 (by decide) ?_
                      refine lv_iload hx hb dMo_readEights_80 (lv_at hl 0 rfl) ?_
                      refine lv_iload_n hx hb dMo_readEights_82 rfl (lv_at hl 3 rfl) ?_
                      refine lv_icmp_ge (tgt := 168) hx hb dMo_readEights_83 (by decide) (fun h83_2 => ?_) (fun h83_2 => ?_)
                      · skip
                        refine lv_aload_n hx hb dMo_readEights_168 rfl (lv_at hl 5 rfl) ?_
                        refine lv_iload_n hx hb dMo_readEights_169 rfl (lv_at hl 3 rfl) ?_
                        refine va_put (D := D) (ci := 5) (v := .int (nI 2)) (ty := .int) (C := R_Mo) (T := T_Mo) (N := 19) hx hb hw in_Mo ty_Mo ty_Mo_ok nm_Mo hown hK hP hD hS 0 rfl rfl 17 (by decide) (hw _ w_381) (fun _ h9 => h9) rfl (by decide +kernel) rfl rfl (Nat.le_of_ble_eq_true rfl) dMo_readEights_170 (fun H locs hP hD hS => ?_)
                        have hP : va_P D vwCl [(mo, .inr (5, [.int (nI I.length), .ref xI, .int (nI L.length), .ref xL, .int (nI O.length), .ref xO, .int (nI K.length), .ref xK, .int md, .ref xR, .int wr, .ref xW, .int at_, .long nu, .long vl, .long pc_, .int bs, .int (nI 2), .int (nI 2)])), (xI, .inl (cA, 120, .inl gI)), (xL, .inl (cA, 120, .inl gL)), (xO, .inl (cA, 400, .inl gO)), (xK, .inl (cA, 120, .inl gK)), (xR, .inl (cA, 121, .inl gR)), (xW, .inl (cA, 1000, .inl gW))] H := hP
                        have hD : va_D A [(mo, .inr (5, [.int (nI I.length), .ref xI, .int (nI L.length), .ref xL, .int (nI O.length), .ref xO, .int (nI K.length), .ref xK, .int md, .ref xR, .int wr, .ref xW, .int at_, .long nu, .long vl, .long pc_, .int bs, .int (nI 2), .int (nI 2)])), (xI, .inl (cA, 120, .inl gI)), (xL, .inl (cA, 120, .inl gL)), (xO, .inl (cA, 400, .inl gO)), (xK, .inl (cA, 120, .inl gK)), (xR, .inl (cA, 121, .inl gR)), (xW, .inl (cA, 1000, .inl gW))] := hD
                        refine lv_iload hx hb dMo_readEights_173 (lv_at hl 1 rfl) ?_
                        have er : rd8 (un I) p0 = (some ((tn (un I p0) - 192) * 64 + tn (un I (p0 + 1)) - 128), 2) := by simp [rd8, e8, ho1]
                        replace hP : va_P D vwCl [(mo, .inr (5, [.int (nI I.length), .ref xI, .int (nI L.length), .ref xL, .int (nI O.length), .ref xO, .int (nI K.length), .ref xK, .int md, .ref xR, .int wr, .ref xW, .int at_, .long nu, .long vl, .long pc_, .int bs, .int (tkv (rd8 (un I) p0)), .int (nI ((rd8 (un I) p0).2))])), (xI, .inl (cA, 120, .inl gI)), (xL, .inl (cA, 120, .inl gL)), (xO, .inl (cA, 400, .inl gO)), (xK, .inl (cA, 120, .inl gK)), (xR, .inl (cA, 121, .inl gR)), (xW, .inl (cA, 1000, .inl gW))] H := by rw [er]; exact hP
                        replace hD : va_D A [(mo, .inr (5, [.int (nI I.length), .ref xI, .int (nI L.length), .ref xL, .int (nI O.length), .ref xO, .int (nI K.length), .ref xK, .int md, .ref xR, .int wr, .ref xW, .int at_, .long nu, .long vl, .long pc_, .int bs, .int (tkv (rd8 (un I) p0)), .int (nI ((rd8 (un I) p0).2))])), (xI, .inl (cA, 120, .inl gI)), (xL, .inl (cA, 120, .inl gL)), (xO, .inl (cA, 400, .inl gO)), (xK, .inl (cA, 120, .inl gK)), (xR, .inl (cA, 121, .inl gR)), (xW, .inl (cA, 1000, .inl gW))] := by rw [er]; exact hD
                        exact ret () dMo_readEights_175 rfl (by rw [er]; rfl) hP hD hS
                      · skip
                        exact absurd h83_2 (by decide)
                    · skip
                      exact absurd h133 (by decide)
                  · skip
                    replace hP : va_P D vwCl [(mo, .inr (5, [.int (nI I.length), .ref xI, .int (nI L.length), .ref xL, .int (nI O.length), .ref xO, .int (nI K.length), .ref xK, .int md, .ref xR, .int wr, .ref xW, .int at_, .long nu, .long vl, .long pc_, .int bs, .int (nI 0), .int (nI 1)])), (xI, .inl (cA, 120, .inl gI)), (xL, .inl (cA, 120, .inl gL)), (xO, .inl (cA, 400, .inl gO)), (xK, .inl (cA, 120, .inl gK)), (xR, .inl (cA, 121, .inl gR)), (xW, .inl (cA, 1000, .inl gW))] H := hP.sub [0, 1, 2, 3, 4, 5, 6] rfl
                    replace hD : va_D A [(mo, .inr (5, [.int (nI I.length), .ref xI, .int (nI L.length), .ref xL, .int (nI O.length), .ref xO, .int (nI K.length), .ref xK, .int md, .ref xR, .int wr, .ref xW, .int at_, .long nu, .long vl, .long pc_, .int bs, .int (nI 0), .int (nI 1)])), (xI, .inl (cA, 120, .inl gI)), (xL, .inl (cA, 120, .inl gL)), (xO, .inl (cA, 400, .inl gO)), (xK, .inl (cA, 120, .inl gK)), (xR, .inl (cA, 121, .inl gR)), (xW, .inl (cA, 1000, .inl gW))] := hD.sub [0, 1, 2, 3, 4, 5, 6] (by decide) rfl
                    rw [l2N_i, h2N_i] at hk130_1
                    have ho1 : ok2 (un I p0) (un I (p0 + 1)) = false := decide_eq_false hk130_1
                    refine lv_if_ne (tgt := 138) hx hb dMo_readEights_133 (by decide) (fun h133 => ?_) (fun h133 => ?_)
                    · skip
                      exact absurd h133 (by decide)
                    · skip
                      refine lv_iconst (v := (-1)) hx hb dMo_readEights_136 (by decide) ?_
                      have er : rd8 (un I) p0 = (none, 1) := by simp [rd8, e8, ho1]
                      replace hP : va_P D vwCl [(mo, .inr (5, [.int (nI I.length), .ref xI, .int (nI L.length), .ref xL, .int (nI O.length), .ref xO, .int (nI K.length), .ref xK, .int md, .ref xR, .int wr, .ref xW, .int at_, .long nu, .long vl, .long pc_, .int bs, .int (tkv (rd8 (un I) p0)), .int (nI ((rd8 (un I) p0).2))])), (xI, .inl (cA, 120, .inl gI)), (xL, .inl (cA, 120, .inl gL)), (xO, .inl (cA, 400, .inl gO)), (xK, .inl (cA, 120, .inl gK)), (xR, .inl (cA, 121, .inl gR)), (xW, .inl (cA, 1000, .inl gW))] H := by rw [er]; exact hP
                      replace hD : va_D A [(mo, .inr (5, [.int (nI I.length), .ref xI, .int (nI L.length), .ref xL, .int (nI O.length), .ref xO, .int (nI K.length), .ref xK, .int md, .ref xR, .int wr, .ref xW, .int at_, .long nu, .long vl, .long pc_, .int bs, .int (tkv (rd8 (un I) p0)), .int (nI ((rd8 (un I) p0).2))])), (xI, .inl (cA, 120, .inl gI)), (xL, .inl (cA, 120, .inl gL)), (xO, .inl (cA, 400, .inl gO)), (xK, .inl (cA, 120, .inl gK)), (xR, .inl (cA, 121, .inl gR)), (xW, .inl (cA, 1000, .inl gW))] := by rw [er]; exact hD
                      exact ret () dMo_readEights_137 rfl (by rw [er]; rfl) hP hD hS
        · skip
          exact absurd h37 (by decide)
      · skip
        exact absurd h30 (by decide)
  · skip
    rw [e8]
    obtain ⟨ea, eb, ec⟩ := tn_of b1 (by decide)
    refine lv_istore_n (lv' := [(3, .int (nI 3)), (2, .int (un I p0)), (0, .ref mo), (1, .int (nI p0))]) hx hb dMo_readEights_10 rfl hl (by decide) rfl (fun ls hl => ?_)
    refine lv_aload_n hx hb dMo_readEights_11 rfl (lv_at hl 2 rfl) ?_
    refine lv_iconst (v := nI 0) hx hb dMo_readEights_12 (by decide) ?_
    refine va_put (D := D) (ci := 5) (v := .int (nI 0)) (ty := .int) (C := R_Mo) (T := T_Mo) (N := 19) hx hb hw in_Mo ty_Mo ty_Mo_ok nm_Mo hown hK hP hD hS 0 rfl rfl 17 (by decide) (hw _ w_381) (fun _ h9 => h9) rfl (by decide +kernel) rfl rfl (Nat.le_of_ble_eq_true rfl) dMo_readEights_13 (fun H locs hP hD hS => ?_)
    have hP : va_P D vwCl [(mo, .inr (5, [.int (nI I.length), .ref xI, .int (nI L.length), .ref xL, .int (nI O.length), .ref xO, .int (nI K.length), .ref xK, .int md, .ref xR, .int wr, .ref xW, .int at_, .long nu, .long vl, .long pc_, .int bs, .int (nI 0), .int gd])), (xI, .inl (cA, 120, .inl gI)), (xL, .inl (cA, 120, .inl gL)), (xO, .inl (cA, 400, .inl gO)), (xK, .inl (cA, 120, .inl gK)), (xR, .inl (cA, 121, .inl gR)), (xW, .inl (cA, 1000, .inl gW))] H := hP
    have hD : va_D A [(mo, .inr (5, [.int (nI I.length), .ref xI, .int (nI L.length), .ref xL, .int (nI O.length), .ref xO, .int (nI K.length), .ref xK, .int md, .ref xR, .int wr, .ref xW, .int at_, .long nu, .long vl, .long pc_, .int bs, .int (nI 0), .int gd])), (xI, .inl (cA, 120, .inl gI)), (xL, .inl (cA, 120, .inl gL)), (xO, .inl (cA, 400, .inl gO)), (xK, .inl (cA, 120, .inl gK)), (xR, .inl (cA, 121, .inl gR)), (xW, .inl (cA, 1000, .inl gW))] := hD
    refine lv_aload_n hx hb dMo_readEights_16 rfl (lv_at hl 2 rfl) ?_
    refine lv_iload_n hx hb dMo_readEights_17 rfl (lv_at hl 0 rfl) ?_
    refine lv_if_le (tgt := 25) hx hb dMo_readEights_18 (by decide) (fun h18 => ?_) (fun h18 => ?_)
    · skip
      exact absurd h18 (by decide)
    · skip
      refine lv_iconst (v := nI 1) hx hb dMo_readEights_21 (by decide) ?_
      refine lv_goto (tgt := 26) hx hb dMo_readEights_22 (by decide) ?_
      refine va_put (D := D) (ci := 5) (v := .int (nI 1)) (ty := .int) (C := R_Mo) (T := T_Mo) (N := 19) hx hb hw in_Mo ty_Mo ty_Mo_ok nm_Mo hown hK hP hD hS 0 rfl rfl 18 (by decide) (hw _ w_382) (fun _ h9 => h9) rfl (by decide +kernel) rfl rfl (Nat.le_of_ble_eq_true rfl) dMo_readEights_26 (fun H locs hP hD hS => ?_)
      have hP : va_P D vwCl [(mo, .inr (5, [.int (nI I.length), .ref xI, .int (nI L.length), .ref xL, .int (nI O.length), .ref xO, .int (nI K.length), .ref xK, .int md, .ref xR, .int wr, .ref xW, .int at_, .long nu, .long vl, .long pc_, .int bs, .int (nI 0), .int (nI 1)])), (xI, .inl (cA, 120, .inl gI)), (xL, .inl (cA, 120, .inl gL)), (xO, .inl (cA, 400, .inl gO)), (xK, .inl (cA, 120, .inl gK)), (xR, .inl (cA, 121, .inl gR)), (xW, .inl (cA, 1000, .inl gW))] H := hP
      have hD : va_D A [(mo, .inr (5, [.int (nI I.length), .ref xI, .int (nI L.length), .ref xL, .int (nI O.length), .ref xO, .int (nI K.length), .ref xK, .int md, .ref xR, .int wr, .ref xW, .int at_, .long nu, .long vl, .long pc_, .int bs, .int (nI 0), .int (nI 1)])), (xI, .inl (cA, 120, .inl gI)), (xL, .inl (cA, 120, .inl gL)), (xO, .inl (cA, 400, .inl gO)), (xK, .inl (cA, 120, .inl gK)), (xR, .inl (cA, 121, .inl gR)), (xW, .inl (cA, 1000, .inl gW))] := hD
      refine lv_iload_n hx hb dMo_readEights_29 rfl (lv_at hl 0 rfl) ?_
      refine lv_if_ne (tgt := 35) hx hb dMo_readEights_30 (by decide) (fun h30 => ?_) (fun h30 => ?_)
      · skip
        refine lv_iload_n hx hb dMo_readEights_35 rfl (lv_at hl 0 rfl) ?_
        refine lv_iconst (v := nI 1) hx hb dMo_readEights_36 (by decide) ?_
        refine lv_icmp_ne (tgt := 44) hx hb dMo_readEights_37 (by decide) (fun h37 => ?_) (fun h37 => ?_)
        · skip
          refine lv_iload_n hx hb dMo_readEights_44 rfl (lv_at hl 0 rfl) ?_
          refine lv_iconst (v := nI 2) hx hb dMo_readEights_45 (by decide) ?_
          refine lv_icmp_ne (tgt := 57) hx hb dMo_readEights_46 (by decide) (fun h46 => ?_) (fun h46 => ?_)
          · skip
            refine lv_iload_n hx hb dMo_readEights_57 rfl (lv_at hl 0 rfl) ?_
            refine lv_iconst (v := nI 3) hx hb dMo_readEights_58 (by decide) ?_
            refine lv_icmp_ne (tgt := 70) hx hb dMo_readEights_59 (by decide) (fun h59 => ?_) (fun h59 => ?_)
            · skip
              exact absurd h59 (by decide)
            · skip
              refine lv_iload_n hx hb dMo_readEights_62 rfl (lv_at hl 1 rfl) ?_
              refine lv_sipush (v := nI 224) hx hb dMo_readEights_63 (by decide) ?_
              refine lv_isub hx hb dMo_readEights_66 ?_
              refine lv_rei (y := nI (tn (un I p0) - 224)) (sub_r ea (by omega)) ?_
              refine lv_goto (tgt := 75) hx hb dMo_readEights_67 (by decide) ?_
              refine lv_istore (lv' := [(4, .int (nI (tn (un I p0) - 224))), (3, .int (nI 3)), (2, .int (un I p0)), (0, .ref mo), (1, .int (nI p0))]) hx hb dMo_readEights_75 hl (by decide) rfl (fun ls hl => ?_)
              refine lv_iconst (v := nI 1) hx hb dMo_readEights_77 (by decide) ?_
              refine lv_istore (lv' := [(5, .int (nI 1)), (4, .int (nI (tn (un I p0) - 224))), (3, .int (nI 3)), (2, .int (un I p0)), (0, .ref mo), (1, .int (nI p0))]) hx hb dMo_readEights_78 hl (by decide) rfl (fun ls hl => ?_)
              refine lv_iload hx hb dMo_readEights_80 (lv_at hl 0 rfl) ?_
              refine lv_iload_n hx hb dMo_readEights_82 rfl (lv_at hl 2 rfl) ?_
              refine lv_icmp_ge (tgt := 168) hx hb dMo_readEights_83 (by decide) (fun h83 => ?_) (fun h83 => ?_)
              · skip
                exact absurd h83 (by decide)
              · skip
                refine lv_aload_n hx hb dMo_readEights_86 rfl (lv_at hl 4 rfl) ?_
                refine lv_iload_n hx hb dMo_readEights_87 rfl (lv_at hl 5 rfl) ?_
                refine lv_iload hx hb dMo_readEights_88 (lv_at hl 0 rfl) ?_
                refine lv_iadd hx hb dMo_readEights_90 ?_
                refine lv_rei (y := nI (p0 + 1)) (nI_add _ _) ?_
                refine ca_i (wr := []) (va_runV (As := [.int (nI (p0 + 1))]) (rest := []) Xf (k_Mo_unit l D cA _ mo xI xL xO xK xR xW I L O K gI gL gO gK gR gW md wr at_ nu vl pc_ bs (nI 0) (nI 1) (p0 + 1) hfI hcI hfL hcL hfO hcO hfK hcK (by omega)) ⟨cb_of 1 hw w_449 w_7 w_446 (by decide +kernel) (by rw [hR]; exact ⟨Nat.le_of_ble_eq_true rfl, Nat.le_of_ble_eq_true rfl⟩), hw _ w_448, hw _ ws_17⟩ (pre_V (As := [.int (nI (p0 + 1))]) hP hD hK hn [0, 1, 2, 3, 4, 5, 6] rfl (by decide) 0 5 rfl rfl) rfl rfl hl.1 rfl (lv_room (Nat.le_of_ble_eq_true rfl)) dMo_readEights_91 ⟨Nat.zero_le _, Nat.zero_le _⟩) hP hD hS hA [0, 1, 2, 3, 4, 5, 6] [] rfl rfl (by decide) (by decide) (fun r91 u_ H locs hq_ hP hD hS => ?_)
                obtain rfl : r91 = un I (p0 + 1) := hq_
                replace hP : va_P D vwCl [(mo, .inr (5, [.int (nI I.length), .ref xI, .int (nI L.length), .ref xL, .int (nI O.length), .ref xO, .int (nI K.length), .ref xK, .int md, .ref xR, .int wr, .ref xW, .int at_, .long nu, .long vl, .long pc_, .int bs, .int (nI 0), .int (nI 1)])), (xI, .inl (cA, 120, .inl gI)), (xL, .inl (cA, 120, .inl gL)), (xO, .inl (cA, 400, .inl gO)), (xK, .inl (cA, 120, .inl gK)), (xR, .inl (cA, 121, .inl gR)), (xW, .inl (cA, 1000, .inl gW))] H := hP.sub [0, 1, 2, 3, 4, 5, 6] rfl
                replace hD : va_D A [(mo, .inr (5, [.int (nI I.length), .ref xI, .int (nI L.length), .ref xL, .int (nI O.length), .ref xO, .int (nI K.length), .ref xK, .int md, .ref xR, .int wr, .ref xW, .int at_, .long nu, .long vl, .long pc_, .int bs, .int (nI 0), .int (nI 1)])), (xI, .inl (cA, 120, .inl gI)), (xL, .inl (cA, 120, .inl gL)), (xO, .inl (cA, 400, .inl gO)), (xK, .inl (cA, 120, .inl gK)), (xR, .inl (cA, 121, .inl gR)), (xW, .inl (cA, 1000, .inl gW))] := hD.sub [0, 1, 2, 3, 4, 5, 6] (by decide) rfl
                refine lv_istore (lv' := [(6, .int (un I (p0 + 1))), (5, .int (nI 1)), (4, .int (nI (tn (un I p0) - 224))), (3, .int (nI 3)), (2, .int (un I p0)), (0, .ref mo), (1, .int (nI p0))]) hx hb dMo_readEights_94 hl (by decide) rfl (fun ls hl => ?_)
                refine lv_iload hx hb dMo_readEights_96 (lv_at hl 0 rfl) ?_
                refine lv_iload hx hb dMo_readEights_98 (lv_at hl 1 rfl) ?_
                refine lv_iconst (v := nI 1) hx hb dMo_readEights_100 (by decide) ?_
                refine lv_icmp_ne (tgt := 111) hx hb dMo_readEights_101 (by decide) (fun h101 => ?_) (fun h101 => ?_)
                · skip
                  exact absurd h101 (by decide)
                · skip
                  refine lv_iload_n hx hb dMo_readEights_104 rfl (lv_at hl 4 rfl) ?_
                  refine ca_i (wr := [(mo, .inr (5, [.int (nI I.length), .ref xI, .int (nI L.length), .ref xL, .int (nI O.length), .ref xO, .int (nI K.length), .ref xK, .int md, .ref xR, .int wr, .ref xW, .int at_, .long nu, .long vl, .long pc_, .int bs, .int (nI 0), .int (nI 1)])), (xI, .inl (cA, 120, .inl gI)), (xL, .inl (cA, 120, .inl gL)), (xO, .inl (cA, 400, .inl gO)), (xK, .inl (cA, 120, .inl gK)), (xR, .inl (cA, 121, .inl gR)), (xW, .inl (cA, 1000, .inl gW))]) (va_runS (As := [.int (un I p0)]) (rest := [.int (un I (p0 + 1))]) Xf (k_Mo_leastSecond l D cA _ (un I p0)) ⟨cb_of 1 hw w_458 w_7 w_456 (by decide +kernel) (by rw [hR]; exact ⟨Nat.le_of_ble_eq_true rfl, Nat.le_of_ble_eq_true rfl⟩), hw _ w_457⟩ (pre_S hP hD hK hn [] rfl (by decide)) rfl rfl hl.1 rfl (lv_room (Nat.le_of_ble_eq_true rfl)) dMo_readEights_105 ⟨Nat.zero_le _, Nat.zero_le _⟩) hP hD hS hA [] [0, 1, 2, 3, 4, 5, 6] rfl rfl (by decide) (by decide) (fun r105 u_ H locs hq_ hP hD hS => ?_)
                  obtain rfl : r105 = nI (l2N (un I p0)) := hq_
                  replace hP : va_P D vwCl [(mo, .inr (5, [.int (nI I.length), .ref xI, .int (nI L.length), .ref xL, .int (nI O.length), .ref xO, .int (nI K.length), .ref xK, .int md, .ref xR, .int wr, .ref xW, .int at_, .long nu, .long vl, .long pc_, .int bs, .int (nI 0), .int (nI 1)])), (xI, .inl (cA, 120, .inl gI)), (xL, .inl (cA, 120, .inl gL)), (xO, .inl (cA, 400, .inl gO)), (xK, .inl (cA, 120, .inl gK)), (xR, .inl (cA, 121, .inl gR)), (xW, .inl (cA, 1000, .inl gW))] H := hP.sub [0, 1, 2, 3, 4, 5, 6] rfl
                  replace hD : va_D A [(mo, .inr (5, [.int (nI I.length), .ref xI, .int (nI L.length), .ref xL, .int (nI O.length), .ref xO, .int (nI K.length), .ref xK, .int md, .ref xR, .int wr, .ref xW, .int at_, .long nu, .long vl, .long pc_, .int bs, .int (nI 0), .int (nI 1)])), (xI, .inl (cA, 120, .inl gI)), (xL, .inl (cA, 120, .inl gL)), (xO, .inl (cA, 400, .inl gO)), (xK, .inl (cA, 120, .inl gK)), (xR, .inl (cA, 121, .inl gR)), (xW, .inl (cA, 1000, .inl gW))] := hD.sub [0, 1, 2, 3, 4, 5, 6] (by decide) rfl
                  refine lv_goto (tgt := 114) hx hb dMo_readEights_108 (by decide) ?_
                  refine lv_iload hx hb dMo_readEights_114 (lv_at hl 1 rfl) ?_
                  refine lv_iconst (v := nI 1) hx hb dMo_readEights_116 (by decide) ?_
                  refine lv_icmp_ne (tgt := 127) hx hb dMo_readEights_117 (by decide) (fun h117 => ?_) (fun h117 => ?_)
                  · skip
                    exact absurd h117 (by decide)
                  · skip
                    refine lv_iload_n hx hb dMo_readEights_120 rfl (lv_at hl 4 rfl) ?_
                    refine ca_i (wr := [(mo, .inr (5, [.int (nI I.length), .ref xI, .int (nI L.length), .ref xL, .int (nI O.length), .ref xO, .int (nI K.length), .ref xK, .int md, .ref xR, .int wr, .ref xW, .int at_, .long nu, .long vl, .long pc_, .int bs, .int (nI 0), .int (nI 1)])), (xI, .inl (cA, 120, .inl gI)), (xL, .inl (cA, 120, .inl gL)), (xO, .inl (cA, 400, .inl gO)), (xK, .inl (cA, 120, .inl gK)), (xR, .inl (cA, 121, .inl gR)), (xW, .inl (cA, 1000, .inl gW))]) (va_runS (As := [.int (un I p0)]) (rest := [.int (nI (l2N (un I p0))), .int (un I (p0 + 1))]) Xf (k_Mo_mostSecond l D cA _ (un I p0)) ⟨cb_of 1 hw w_461 w_7 w_459 (by decide +kernel) (by rw [hR]; exact ⟨Nat.le_of_ble_eq_true rfl, Nat.le_of_ble_eq_true rfl⟩), hw _ w_460⟩ (pre_S hP hD hK hn [] rfl (by decide)) rfl rfl hl.1 rfl (lv_room (Nat.le_of_ble_eq_true rfl)) dMo_readEights_121 ⟨Nat.zero_le _, Nat.zero_le _⟩) hP hD hS hA [] [0, 1, 2, 3, 4, 5, 6] rfl rfl (by decide) (by decide) (fun r121 u_ H locs hq_ hP hD hS => ?_)
                    obtain rfl : r121 = nI (h2N (un I p0)) := hq_
                    replace hP : va_P D vwCl [(mo, .inr (5, [.int (nI I.length), .ref xI, .int (nI L.length), .ref xL, .int (nI O.length), .ref xO, .int (nI K.length), .ref xK, .int md, .ref xR, .int wr, .ref xW, .int at_, .long nu, .long vl, .long pc_, .int bs, .int (nI 0), .int (nI 1)])), (xI, .inl (cA, 120, .inl gI)), (xL, .inl (cA, 120, .inl gL)), (xO, .inl (cA, 400, .inl gO)), (xK, .inl (cA, 120, .inl gK)), (xR, .inl (cA, 121, .inl gR)), (xW, .inl (cA, 1000, .inl gW))] H := hP.sub [0, 1, 2, 3, 4, 5, 6] rfl
                    replace hD : va_D A [(mo, .inr (5, [.int (nI I.length), .ref xI, .int (nI L.length), .ref xL, .int (nI O.length), .ref xO, .int (nI K.length), .ref xK, .int md, .ref xR, .int wr, .ref xW, .int at_, .long nu, .long vl, .long pc_, .int bs, .int (nI 0), .int (nI 1)])), (xI, .inl (cA, 120, .inl gI)), (xL, .inl (cA, 120, .inl gL)), (xO, .inl (cA, 400, .inl gO)), (xK, .inl (cA, 120, .inl gK)), (xR, .inl (cA, 121, .inl gR)), (xW, .inl (cA, 1000, .inl gW))] := hD.sub [0, 1, 2, 3, 4, 5, 6] (by decide) rfl
                    refine lv_goto (tgt := 130) hx hb dMo_readEights_124 (by decide) ?_
                    refine ca_i (wr := [(mo, .inr (5, [.int (nI I.length), .ref xI, .int (nI L.length), .ref xL, .int (nI O.length), .ref xO, .int (nI K.length), .ref xK, .int md, .ref xR, .int wr, .ref xW, .int at_, .long nu, .long vl, .long pc_, .int bs, .int (nI 0), .int (nI 1)])), (xI, .inl (cA, 120, .inl gI)), (xL, .inl (cA, 120, .inl gL)), (xO, .inl (cA, 400, .inl gO)), (xK, .inl (cA, 120, .inl gK)), (xR, .inl (cA, 121, .inl gR)), (xW, .inl (cA, 1000, .inl gW))]) (va_runS (As := [.int (un I (p0 + 1)), .int (nI (l2N (un I p0))), .int (nI (h2N (un I p0)))]) (rest := []) Xf (k_Mo_isIn l D cA _ (un I (p0 + 1)) (l2N (un I p0)) (h2N (un I p0)) (l2N_b _) (h2N_b _)) ⟨cb_of 3 hw w_455 w_7 w_453 (by decide +kernel) (by rw [hR]; exact ⟨Nat.le_of_ble_eq_true rfl, Nat.le_of_ble_eq_true rfl⟩), hw _ w_454⟩ (pre_S hP hD hK hn [] rfl (by decide)) rfl rfl hl.1 rfl (lv_room (Nat.le_of_ble_eq_true rfl)) dMo_readEights_130 ⟨Nat.zero_le _, Nat.zero_le _⟩) hP hD hS hA [] [0, 1, 2, 3, 4, 5, 6] rfl rfl (by decide) (by decide) (fun r130 u_ H locs hq_ hP hD hS => ?_)
                    rcases hq_ with ⟨hk130_2, rfl⟩ | ⟨hk130_2, rfl⟩
                    · skip
                      replace hP : va_P D vwCl [(mo, .inr (5, [.int (nI I.length), .ref xI, .int (nI L.length), .ref xL, .int (nI O.length), .ref xO, .int (nI K.length), .ref xK, .int md, .ref xR, .int wr, .ref xW, .int at_, .long nu, .long vl, .long pc_, .int bs, .int (nI 0), .int (nI 1)])), (xI, .inl (cA, 120, .inl gI)), (xL, .inl (cA, 120, .inl gL)), (xO, .inl (cA, 400, .inl gO)), (xK, .inl (cA, 120, .inl gK)), (xR, .inl (cA, 121, .inl gR)), (xW, .inl (cA, 1000, .inl gW))] H := hP.sub [0, 1, 2, 3, 4, 5, 6] rfl
                      replace hD : va_D A [(mo, .inr (5, [.int (nI I.length), .ref xI, .int (nI L.length), .ref xL, .int (nI O.length), .ref xO, .int (nI K.length), .ref xK, .int md, .ref xR, .int wr, .ref xW, .int at_, .long nu, .long vl, .long pc_, .int bs, .int (nI 0), .int (nI 1)])), (xI, .inl (cA, 120, .inl gI)), (xL, .inl (cA, 120, .inl gL)), (xO, .inl (cA, 400, .inl gO)), (xK, .inl (cA, 120, .inl gK)), (xR, .inl (cA, 121, .inl gR)), (xW, .inl (cA, 1000, .inl gW))] := hD.sub [0, 1, 2, 3, 4, 5, 6] (by decide) rfl
                      rw [l2N_i, h2N_i] at hk130_2
                      have ho1 : ok2 (un I p0) (un I (p0 + 1)) = true := decide_eq_true hk130_2
                      obtain ⟨g1_1, g2_1⟩ := ok2_r ho1
                      obtain ⟨ea_1, eb_1, ec_1⟩ := tn_of g1_1 (by decide)
                      refine lv_if_ne (tgt := 138) hx hb dMo_readEights_133 (by decide) (fun h133 => ?_) (fun h133 => ?_)
                      · skip
                        refine lv_bipush (v := nI 64) hx hb dMo_readEights_138 (by decide) ?_
                        refine lv_iload hx hb dMo_readEights_140 (lv_at hl 2 rfl) ?_
                        refine lv_imul hx hb dMo_readEights_142 ?_
                        refine lv_rei (y := nI ((tn (un I p0) - 224) * 64)) (by rw [pk_mul, Nat.mul_comm]) ?_
                        refine lv_iload hx hb dMo_readEights_143 (lv_at hl 0 rfl) ?_
                        refine lv_iadd hx hb dMo_readEights_145 ?_
                        refine lv_rei (y := nI ((tn (un I p0) - 224) * 64 + tn (un I (p0 + 1)))) (add_r ea_1) ?_
                        refine lv_sipush (v := nI 128) hx hb dMo_readEights_146 (by decide) ?_
                        refine lv_isub hx hb dMo_readEights_149 ?_
                        refine lv_rei (y := nI ((tn (un I p0) - 224) * 64 + tn (un I (p0 + 1)) - 128)) (pk_sub (by omega)) ?_
                        refine lv_istore (lv' := [(4, .int (nI ((tn (un I p0) - 224) * 64 + tn (un I (p0 + 1)) - 128))), (6, .int (un I (p0 + 1))), (5, .int (nI 1)), (3, .int (nI 3)), (2, .int (un I p0)), (0, .ref mo), (1, .int (nI p0))]) hx hb dMo_readEights_150 hl (by decide) rfl (fun ls hl => ?_)
                        refine lv_aload_n hx hb dMo_readEights_152 rfl (lv_at hl 5 rfl) ?_
                        refine lv_aload_n hx hb dMo_readEights_153 rfl (lv_at hl 5 rfl) ?_
                        refine va_get (D := D) (ci := 5) (v := .int (nI 1)) (C := R_Mo) (T := T_Mo) (N := 19) hx hb hw in_Mo hown hK hP 0 rfl rfl 18 (by decide) (hw _ w_382) (fun _ h9 => h9) rfl dMo_readEights_154 ?_
                        refine lv_iconst (v := nI 1) hx hb dMo_readEights_157 (by decide) ?_
                        refine lv_iadd hx hb dMo_readEights_158 ?_
                        refine lv_rei (y := nI 2) (by decide) ?_
                        refine va_put (D := D) (ci := 5) (v := .int (nI 2)) (ty := .int) (C := R_Mo) (T := T_Mo) (N := 19) hx hb hw in_Mo ty_Mo ty_Mo_ok nm_Mo hown hK hP hD hS 0 rfl rfl 18 (by decide) (hw _ w_382) (fun _ h9 => h9) rfl (by decide +kernel) rfl rfl (Nat.le_of_ble_eq_true rfl) dMo_readEights_159 (fun H locs hP hD hS => ?_)
                        have hP : va_P D vwCl [(mo, .inr (5, [.int (nI I.length), .ref xI, .int (nI L.length), .ref xL, .int (nI O.length), .ref xO, .int (nI K.length), .ref xK, .int md, .ref xR, .int wr, .ref xW, .int at_, .long nu, .long vl, .long pc_, .int bs, .int (nI 0), .int (nI 2)])), (xI, .inl (cA, 120, .inl gI)), (xL, .inl (cA, 120, .inl gL)), (xO, .inl (cA, 400, .inl gO)), (xK, .inl (cA, 120, .inl gK)), (xR, .inl (cA, 121, .inl gR)), (xW, .inl (cA, 1000, .inl gW))] H := hP
                        have hD : va_D A [(mo, .inr (5, [.int (nI I.length), .ref xI, .int (nI L.length), .ref xL, .int (nI O.length), .ref xO, .int (nI K.length), .ref xK, .int md, .ref xR, .int wr, .ref xW, .int at_, .long nu, .long vl, .long pc_, .int bs, .int (nI 0), .int (nI 2)])), (xI, .inl (cA, 120, .inl gI)), (xL, .inl (cA, 120, .inl gL)), (xO, .inl (cA, 400, .inl gO)), (xK, .inl (cA, 120, .inl gK)), (xR, .inl (cA, 121, .inl gR)), (xW, .inl (cA, 1000, .inl gW))] := hD
                        refine lv_iinc (k := 2) (v := nI 2) (lv' := [(5, .int (nI 2)), (4, .int (nI ((tn (un I p0) - 224) * 64 + tn (un I (p0 + 1)) - 128))), (6, .int (un I (p0 + 1))), (3, .int (nI 3)), (2, .int (un I p0)), (0, .ref mo), (1, .int (nI p0))]) hx hb dMo_readEights_162 hl rfl (by decide) (by decide) rfl (fun ls hl => ?_)
                        refine lv_goto (tgt := 80) hx hb dMo_readEights_165 (by decide) ?_
                        refine lv_iload hx hb dMo_readEights_80 (lv_at hl 0 rfl) ?_
                        refine lv_iload_n hx hb dMo_readEights_82 rfl (lv_at hl 3 rfl) ?_
                        refine lv_icmp_ge (tgt := 168) hx hb dMo_readEights_83 (by decide) (fun h83_2 => ?_) (fun h83_2 => ?_)
                        · skip
                          exact absurd h83_2 (by decide)
                        · skip
                          refine lv_aload_n hx hb dMo_readEights_86 rfl (lv_at hl 5 rfl) ?_
                          refine lv_iload_n hx hb dMo_readEights_87 rfl (lv_at hl 6 rfl) ?_
                          refine lv_iload hx hb dMo_readEights_88 (lv_at hl 0 rfl) ?_
                          refine lv_iadd hx hb dMo_readEights_90 ?_
                          refine lv_rei (y := nI (p0 + 2)) (nI_add _ _) ?_
                          refine ca_i (wr := []) (va_runV (As := [.int (nI (p0 + 2))]) (rest := []) Xf (k_Mo_unit l D cA _ mo xI xL xO xK xR xW I L O K gI gL gO gK gR gW md wr at_ nu vl pc_ bs (nI 0) (nI 2) (p0 + 2) hfI hcI hfL hcL hfO hcO hfK hcK (by omega)) ⟨cb_of 1 hw w_449 w_7 w_446 (by decide +kernel) (by rw [hR]; exact ⟨Nat.le_of_ble_eq_true rfl, Nat.le_of_ble_eq_true rfl⟩), hw _ w_448, hw _ ws_17⟩ (pre_V (As := [.int (nI (p0 + 2))]) hP hD hK hn [0, 1, 2, 3, 4, 5, 6] rfl (by decide) 0 5 rfl rfl) rfl rfl hl.1 rfl (lv_room (Nat.le_of_ble_eq_true rfl)) dMo_readEights_91 ⟨Nat.zero_le _, Nat.zero_le _⟩) hP hD hS hA [0, 1, 2, 3, 4, 5, 6] [] rfl rfl (by decide) (by decide) (fun r91 u_ H locs hq_ hP hD hS => ?_)
                          obtain rfl : r91 = un I (p0 + 2) := hq_
                          replace hP : va_P D vwCl [(mo, .inr (5, [.int (nI I.length), .ref xI, .int (nI L.length), .ref xL, .int (nI O.length), .ref xO, .int (nI K.length), .ref xK, .int md, .ref xR, .int wr, .ref xW, .int at_, .long nu, .long vl, .long pc_, .int bs, .int (nI 0), .int (nI 2)])), (xI, .inl (cA, 120, .inl gI)), (xL, .inl (cA, 120, .inl gL)), (xO, .inl (cA, 400, .inl gO)), (xK, .inl (cA, 120, .inl gK)), (xR, .inl (cA, 121, .inl gR)), (xW, .inl (cA, 1000, .inl gW))] H := hP.sub [0, 1, 2, 3, 4, 5, 6] rfl
                          replace hD : va_D A [(mo, .inr (5, [.int (nI I.length), .ref xI, .int (nI L.length), .ref xL, .int (nI O.length), .ref xO, .int (nI K.length), .ref xK, .int md, .ref xR, .int wr, .ref xW, .int at_, .long nu, .long vl, .long pc_, .int bs, .int (nI 0), .int (nI 2)])), (xI, .inl (cA, 120, .inl gI)), (xL, .inl (cA, 120, .inl gL)), (xO, .inl (cA, 400, .inl gO)), (xK, .inl (cA, 120, .inl gK)), (xR, .inl (cA, 121, .inl gR)), (xW, .inl (cA, 1000, .inl gW))] := hD.sub [0, 1, 2, 3, 4, 5, 6] (by decide) rfl
                          refine lv_istore (lv' := [(6, .int (un I (p0 + 2))), (5, .int (nI 2)), (4, .int (nI ((tn (un I p0) - 224) * 64 + tn (un I (p0 + 1)) - 128))), (3, .int (nI 3)), (2, .int (un I p0)), (0, .ref mo), (1, .int (nI p0))]) hx hb dMo_readEights_94 hl (by decide) rfl (fun ls hl => ?_)
                          refine lv_iload hx hb dMo_readEights_96 (lv_at hl 0 rfl) ?_
                          refine lv_iload hx hb dMo_readEights_98 (lv_at hl 1 rfl) ?_
                          refine lv_iconst (v := nI 1) hx hb dMo_readEights_100 (by decide) ?_
                          refine lv_icmp_ne (tgt := 111) hx hb dMo_readEights_101 (by decide) (fun h101_2 => ?_) (fun h101_2 => ?_)
                          · skip
                            refine lv_sipush (v := nI 128) hx hb dMo_readEights_111 (by decide) ?_
                            refine lv_iload hx hb dMo_readEights_114 (lv_at hl 1 rfl) ?_
                            refine lv_iconst (v := nI 1) hx hb dMo_readEights_116 (by decide) ?_
                            refine lv_icmp_ne (tgt := 127) hx hb dMo_readEights_117 (by decide) (fun h117_2 => ?_) (fun h117_2 => ?_)
                            · skip
                              refine lv_sipush (v := nI 191) hx hb dMo_readEights_127 (by decide) ?_
                              refine ca_i (wr := [(mo, .inr (5, [.int (nI I.length), .ref xI, .int (nI L.length), .ref xL, .int (nI O.length), .ref xO, .int (nI K.length), .ref xK, .int md, .ref xR, .int wr, .ref xW, .int at_, .long nu, .long vl, .long pc_, .int bs, .int (nI 0), .int (nI 2)])), (xI, .inl (cA, 120, .inl gI)), (xL, .inl (cA, 120, .inl gL)), (xO, .inl (cA, 400, .inl gO)), (xK, .inl (cA, 120, .inl gK)), (xR, .inl (cA, 121, .inl gR)), (xW, .inl (cA, 1000, .inl gW))]) (va_runS (As := [.int (un I (p0 + 2)), .int (nI 128), .int (nI 191)]) (rest := []) Xf (k_Mo_isIn l D cA _ (un I (p0 + 2)) 128 191 (by omega) (by omega)) ⟨cb_of 3 hw w_455 w_7 w_453 (by decide +kernel) (by rw [hR]; exact ⟨Nat.le_of_ble_eq_true rfl, Nat.le_of_ble_eq_true rfl⟩), hw _ w_454⟩ (pre_S hP hD hK hn [] rfl (by decide)) rfl rfl hl.1 rfl (lv_room (Nat.le_of_ble_eq_true rfl)) dMo_readEights_130 ⟨Nat.zero_le _, Nat.zero_le _⟩) hP hD hS hA [] [0, 1, 2, 3, 4, 5, 6] rfl rfl (by decide) (by decide) (fun r130 u_ H locs hq_ hP hD hS => ?_)
                              rcases hq_ with ⟨hk130_3, rfl⟩ | ⟨hk130_3, rfl⟩
                              · skip
                                replace hP : va_P D vwCl [(mo, .inr (5, [.int (nI I.length), .ref xI, .int (nI L.length), .ref xL, .int (nI O.length), .ref xO, .int (nI K.length), .ref xK, .int md, .ref xR, .int wr, .ref xW, .int at_, .long nu, .long vl, .long pc_, .int bs, .int (nI 0), .int (nI 2)])), (xI, .inl (cA, 120, .inl gI)), (xL, .inl (cA, 120, .inl gL)), (xO, .inl (cA, 400, .inl gO)), (xK, .inl (cA, 120, .inl gK)), (xR, .inl (cA, 121, .inl gR)), (xW, .inl (cA, 1000, .inl gW))] H := hP.sub [0, 1, 2, 3, 4, 5, 6] rfl
                                replace hD : va_D A [(mo, .inr (5, [.int (nI I.length), .ref xI, .int (nI L.length), .ref xL, .int (nI O.length), .ref xO, .int (nI K.length), .ref xK, .int md, .ref xR, .int wr, .ref xW, .int at_, .long nu, .long vl, .long pc_, .int bs, .int (nI 0), .int (nI 2)])), (xI, .inl (cA, 120, .inl gI)), (xL, .inl (cA, 120, .inl gL)), (xO, .inl (cA, 400, .inl gO)), (xK, .inl (cA, 120, .inl gK)), (xR, .inl (cA, 121, .inl gR)), (xW, .inl (cA, 1000, .inl gW))] := hD.sub [0, 1, 2, 3, 4, 5, 6] (by decide) rfl
                                have ho2 : ok3 (un I (p0 + 2)) = true := decide_eq_true ⟨by omega, by omega⟩
                                obtain ⟨g1_2, g2_2⟩ := ok3_r ho2
                                obtain ⟨ea_2, eb_2, ec_2⟩ := tn_of g1_2 (by decide)
                                refine lv_if_ne (tgt := 138) hx hb dMo_readEights_133 (by decide) (fun h133_2 => ?_) (fun h133_2 => ?_)
                                · skip
                                  refine lv_bipush (v := nI 64) hx hb dMo_readEights_138 (by decide) ?_
                                  refine lv_iload hx hb dMo_readEights_140 (lv_at hl 2 rfl) ?_
                                  refine lv_imul hx hb dMo_readEights_142 ?_
                                  refine lv_rei (y := nI (((tn (un I p0) - 224) * 64 + tn (un I (p0 + 1)) - 128) * 64)) (by rw [pk_mul, Nat.mul_comm]) ?_
                                  refine lv_iload hx hb dMo_readEights_143 (lv_at hl 0 rfl) ?_
                                  refine lv_iadd hx hb dMo_readEights_145 ?_
                                  refine lv_rei (y := nI (((tn (un I p0) - 224) * 64 + tn (un I (p0 + 1)) - 128) * 64 + tn (un I (p0 + 2)))) (add_r ea_2) ?_
                                  refine lv_sipush (v := nI 128) hx hb dMo_readEights_146 (by decide) ?_
                                  refine lv_isub hx hb dMo_readEights_149 ?_
                                  refine lv_rei (y := nI (((tn (un I p0) - 224) * 64 + tn (un I (p0 + 1)) - 128) * 64 + tn (un I (p0 + 2)) - 128)) (pk_sub (by omega)) ?_
                                  refine lv_istore (lv' := [(4, .int (nI (((tn (un I p0) - 224) * 64 + tn (un I (p0 + 1)) - 128) * 64 + tn (un I (p0 + 2)) - 128))), (6, .int (un I (p0 + 2))), (5, .int (nI 2)), (3, .int (nI 3)), (2, .int (un I p0)), (0, .ref mo), (1, .int (nI p0))]) hx hb dMo_readEights_150 hl (by decide) rfl (fun ls hl => ?_)
                                  refine lv_aload_n hx hb dMo_readEights_152 rfl (lv_at hl 5 rfl) ?_
                                  refine lv_aload_n hx hb dMo_readEights_153 rfl (lv_at hl 5 rfl) ?_
                                  refine va_get (D := D) (ci := 5) (v := .int (nI 2)) (C := R_Mo) (T := T_Mo) (N := 19) hx hb hw in_Mo hown hK hP 0 rfl rfl 18 (by decide) (hw _ w_382) (fun _ h9 => h9) rfl dMo_readEights_154 ?_
                                  refine lv_iconst (v := nI 1) hx hb dMo_readEights_157 (by decide) ?_
                                  refine lv_iadd hx hb dMo_readEights_158 ?_
                                  refine lv_rei (y := nI 3) (by decide) ?_
                                  refine va_put (D := D) (ci := 5) (v := .int (nI 3)) (ty := .int) (C := R_Mo) (T := T_Mo) (N := 19) hx hb hw in_Mo ty_Mo ty_Mo_ok nm_Mo hown hK hP hD hS 0 rfl rfl 18 (by decide) (hw _ w_382) (fun _ h9 => h9) rfl (by decide +kernel) rfl rfl (Nat.le_of_ble_eq_true rfl) dMo_readEights_159 (fun H locs hP hD hS => ?_)
                                  have hP : va_P D vwCl [(mo, .inr (5, [.int (nI I.length), .ref xI, .int (nI L.length), .ref xL, .int (nI O.length), .ref xO, .int (nI K.length), .ref xK, .int md, .ref xR, .int wr, .ref xW, .int at_, .long nu, .long vl, .long pc_, .int bs, .int (nI 0), .int (nI 3)])), (xI, .inl (cA, 120, .inl gI)), (xL, .inl (cA, 120, .inl gL)), (xO, .inl (cA, 400, .inl gO)), (xK, .inl (cA, 120, .inl gK)), (xR, .inl (cA, 121, .inl gR)), (xW, .inl (cA, 1000, .inl gW))] H := hP
                                  have hD : va_D A [(mo, .inr (5, [.int (nI I.length), .ref xI, .int (nI L.length), .ref xL, .int (nI O.length), .ref xO, .int (nI K.length), .ref xK, .int md, .ref xR, .int wr, .ref xW, .int at_, .long nu, .long vl, .long pc_, .int bs, .int (nI 0), .int (nI 3)])), (xI, .inl (cA, 120, .inl gI)), (xL, .inl (cA, 120, .inl gL)), (xO, .inl (cA, 400, .inl gO)), (xK, .inl (cA, 120, .inl gK)), (xR, .inl (cA, 121, .inl gR)), (xW, .inl (cA, 1000, .inl gW))] := hD
                                  refine lv_iinc (k := 2) (v := nI 3) (lv' := [(5, .int (nI 3)), (4, .int (nI (((tn (un I p0) - 224) * 64 + tn (un I (p0 + 1)) - 128) * 64 + tn (un I (p0 + 2)) - 128))), (6, .int (un I (p0 + 2))), (3, .int (nI 3)), (2, .int (un I p0)), (0, .ref mo), (1, .int (nI p0))]) hx hb dMo_readEights_162 hl rfl (by decide) (by decide) rfl (fun ls hl => ?_)
                                  refine lv_goto (tgt := 80) hx hb dMo_readEights_165 (by decide) ?_
                                  refine lv_iload hx hb dMo_readEights_80 (lv_at hl 0 rfl) ?_
                                  refine lv_iload_n hx hb dMo_readEights_82 rfl (lv_at hl 3 rfl) ?_
                                  refine lv_icmp_ge (tgt := 168) hx hb dMo_readEights_83 (by decide) (fun h83_3 => ?_) (fun h83_3 => ?_)
                                  · skip
                                    refine lv_aload_n hx hb dMo_readEights_168 rfl (lv_at hl 5 rfl) ?_
                                    refine lv_iload_n hx hb dMo_readEights_169 rfl (lv_at hl 3 rfl) ?_
                                    refine va_put (D := D) (ci := 5) (v := .int (nI 3)) (ty := .int) (C := R_Mo) (T := T_Mo) (N := 19) hx hb hw in_Mo ty_Mo ty_Mo_ok nm_Mo hown hK hP hD hS 0 rfl rfl 17 (by decide) (hw _ w_381) (fun _ h9 => h9) rfl (by decide +kernel) rfl rfl (Nat.le_of_ble_eq_true rfl) dMo_readEights_170 (fun H locs hP hD hS => ?_)
                                    have hP : va_P D vwCl [(mo, .inr (5, [.int (nI I.length), .ref xI, .int (nI L.length), .ref xL, .int (nI O.length), .ref xO, .int (nI K.length), .ref xK, .int md, .ref xR, .int wr, .ref xW, .int at_, .long nu, .long vl, .long pc_, .int bs, .int (nI 3), .int (nI 3)])), (xI, .inl (cA, 120, .inl gI)), (xL, .inl (cA, 120, .inl gL)), (xO, .inl (cA, 400, .inl gO)), (xK, .inl (cA, 120, .inl gK)), (xR, .inl (cA, 121, .inl gR)), (xW, .inl (cA, 1000, .inl gW))] H := hP
                                    have hD : va_D A [(mo, .inr (5, [.int (nI I.length), .ref xI, .int (nI L.length), .ref xL, .int (nI O.length), .ref xO, .int (nI K.length), .ref xK, .int md, .ref xR, .int wr, .ref xW, .int at_, .long nu, .long vl, .long pc_, .int bs, .int (nI 3), .int (nI 3)])), (xI, .inl (cA, 120, .inl gI)), (xL, .inl (cA, 120, .inl gL)), (xO, .inl (cA, 400, .inl gO)), (xK, .inl (cA, 120, .inl gK)), (xR, .inl (cA, 121, .inl gR)), (xW, .inl (cA, 1000, .inl gW))] := hD
                                    refine lv_iload hx hb dMo_readEights_173 (lv_at hl 1 rfl) ?_
                                    have er : rd8 (un I) p0 = (some (((tn (un I p0) - 224) * 64 + tn (un I (p0 + 1)) - 128) * 64 + tn (un I (p0 + 2)) - 128), 3) := by simp [rd8, e8, ho1, ho2]
                                    replace hP : va_P D vwCl [(mo, .inr (5, [.int (nI I.length), .ref xI, .int (nI L.length), .ref xL, .int (nI O.length), .ref xO, .int (nI K.length), .ref xK, .int md, .ref xR, .int wr, .ref xW, .int at_, .long nu, .long vl, .long pc_, .int bs, .int (tkv (rd8 (un I) p0)), .int (nI ((rd8 (un I) p0).2))])), (xI, .inl (cA, 120, .inl gI)), (xL, .inl (cA, 120, .inl gL)), (xO, .inl (cA, 400, .inl gO)), (xK, .inl (cA, 120, .inl gK)), (xR, .inl (cA, 121, .inl gR)), (xW, .inl (cA, 1000, .inl gW))] H := by rw [er]; exact hP
                                    replace hD : va_D A [(mo, .inr (5, [.int (nI I.length), .ref xI, .int (nI L.length), .ref xL, .int (nI O.length), .ref xO, .int (nI K.length), .ref xK, .int md, .ref xR, .int wr, .ref xW, .int at_, .long nu, .long vl, .long pc_, .int bs, .int (tkv (rd8 (un I) p0)), .int (nI ((rd8 (un I) p0).2))])), (xI, .inl (cA, 120, .inl gI)), (xL, .inl (cA, 120, .inl gL)), (xO, .inl (cA, 400, .inl gO)), (xK, .inl (cA, 120, .inl gK)), (xR, .inl (cA, 121, .inl gR)), (xW, .inl (cA, 1000, .inl gW))] := by rw [er]; exact hD
                                    exact ret () dMo_readEights_175 rfl (by rw [er]; rfl) hP hD hS
                                  · skip
                                    exact absurd h83_3 (by decide)
                                · skip
                                  exact absurd h133_2 (by decide)
                              · skip
                                replace hP : va_P D vwCl [(mo, .inr (5, [.int (nI I.length), .ref xI, .int (nI L.length), .ref xL, .int (nI O.length), .ref xO, .int (nI K.length), .ref xK, .int md, .ref xR, .int wr, .ref xW, .int at_, .long nu, .long vl, .long pc_, .int bs, .int (nI 0), .int (nI 2)])), (xI, .inl (cA, 120, .inl gI)), (xL, .inl (cA, 120, .inl gL)), (xO, .inl (cA, 400, .inl gO)), (xK, .inl (cA, 120, .inl gK)), (xR, .inl (cA, 121, .inl gR)), (xW, .inl (cA, 1000, .inl gW))] H := hP.sub [0, 1, 2, 3, 4, 5, 6] rfl
                                replace hD : va_D A [(mo, .inr (5, [.int (nI I.length), .ref xI, .int (nI L.length), .ref xL, .int (nI O.length), .ref xO, .int (nI K.length), .ref xK, .int md, .ref xR, .int wr, .ref xW, .int at_, .long nu, .long vl, .long pc_, .int bs, .int (nI 0), .int (nI 2)])), (xI, .inl (cA, 120, .inl gI)), (xL, .inl (cA, 120, .inl gL)), (xO, .inl (cA, 400, .inl gO)), (xK, .inl (cA, 120, .inl gK)), (xR, .inl (cA, 121, .inl gR)), (xW, .inl (cA, 1000, .inl gW))] := hD.sub [0, 1, 2, 3, 4, 5, 6] (by decide) rfl
                                have ho2 : ok3 (un I (p0 + 2)) = false := decide_eq_false (by omega)
                                refine lv_if_ne (tgt := 138) hx hb dMo_readEights_133 (by decide) (fun h133_2 => ?_) (fun h133_2 => ?_)
                                · skip
                                  exact absurd h133_2 (by decide)
                                · skip
                                  refine lv_iconst (v := (-1)) hx hb dMo_readEights_136 (by decide) ?_
                                  have er : rd8 (un I) p0 = (none, 2) := by simp [rd8, e8, ho1, ho2]
                                  replace hP : va_P D vwCl [(mo, .inr (5, [.int (nI I.length), .ref xI, .int (nI L.length), .ref xL, .int (nI O.length), .ref xO, .int (nI K.length), .ref xK, .int md, .ref xR, .int wr, .ref xW, .int at_, .long nu, .long vl, .long pc_, .int bs, .int (tkv (rd8 (un I) p0)), .int (nI ((rd8 (un I) p0).2))])), (xI, .inl (cA, 120, .inl gI)), (xL, .inl (cA, 120, .inl gL)), (xO, .inl (cA, 400, .inl gO)), (xK, .inl (cA, 120, .inl gK)), (xR, .inl (cA, 121, .inl gR)), (xW, .inl (cA, 1000, .inl gW))] H := by rw [er]; exact hP
                                  replace hD : va_D A [(mo, .inr (5, [.int (nI I.length), .ref xI, .int (nI L.length), .ref xL, .int (nI O.length), .ref xO, .int (nI K.length), .ref xK, .int md, .ref xR, .int wr, .ref xW, .int at_, .long nu, .long vl, .long pc_, .int bs, .int (tkv (rd8 (un I) p0)), .int (nI ((rd8 (un I) p0).2))])), (xI, .inl (cA, 120, .inl gI)), (xL, .inl (cA, 120, .inl gL)), (xO, .inl (cA, 400, .inl gO)), (xK, .inl (cA, 120, .inl gK)), (xR, .inl (cA, 121, .inl gR)), (xW, .inl (cA, 1000, .inl gW))] := by rw [er]; exact hD
                                  exact ret () dMo_readEights_137 rfl (by rw [er]; rfl) hP hD hS
                            · skip
                              exact absurd h117_2 (by decide)
                          · skip
                            exact absurd h101_2 (by decide)
                      · skip
                        exact absurd h133 (by decide)
                    · skip
                      replace hP : va_P D vwCl [(mo, .inr (5, [.int (nI I.length), .ref xI, .int (nI L.length), .ref xL, .int (nI O.length), .ref xO, .int (nI K.length), .ref xK, .int md, .ref xR, .int wr, .ref xW, .int at_, .long nu, .long vl, .long pc_, .int bs, .int (nI 0), .int (nI 1)])), (xI, .inl (cA, 120, .inl gI)), (xL, .inl (cA, 120, .inl gL)), (xO, .inl (cA, 400, .inl gO)), (xK, .inl (cA, 120, .inl gK)), (xR, .inl (cA, 121, .inl gR)), (xW, .inl (cA, 1000, .inl gW))] H := hP.sub [0, 1, 2, 3, 4, 5, 6] rfl
                      replace hD : va_D A [(mo, .inr (5, [.int (nI I.length), .ref xI, .int (nI L.length), .ref xL, .int (nI O.length), .ref xO, .int (nI K.length), .ref xK, .int md, .ref xR, .int wr, .ref xW, .int at_, .long nu, .long vl, .long pc_, .int bs, .int (nI 0), .int (nI 1)])), (xI, .inl (cA, 120, .inl gI)), (xL, .inl (cA, 120, .inl gL)), (xO, .inl (cA, 400, .inl gO)), (xK, .inl (cA, 120, .inl gK)), (xR, .inl (cA, 121, .inl gR)), (xW, .inl (cA, 1000, .inl gW))] := hD.sub [0, 1, 2, 3, 4, 5, 6] (by decide) rfl
                      rw [l2N_i, h2N_i] at hk130_2
                      have ho1 : ok2 (un I p0) (un I (p0 + 1)) = false := decide_eq_false hk130_2
                      refine lv_if_ne (tgt := 138) hx hb dMo_readEights_133 (by decide) (fun h133 => ?_) (fun h133 => ?_)
                      · skip
                        exact absurd h133 (by decide)
                      · skip
                        refine lv_iconst (v := (-1)) hx hb dMo_readEights_136 (by decide) ?_
                        have er : rd8 (un I) p0 = (none, 1) := by simp [rd8, e8, ho1]
                        replace hP : va_P D vwCl [(mo, .inr (5, [.int (nI I.length), .ref xI, .int (nI L.length), .ref xL, .int (nI O.length), .ref xO, .int (nI K.length), .ref xK, .int md, .ref xR, .int wr, .ref xW, .int at_, .long nu, .long vl, .long pc_, .int bs, .int (tkv (rd8 (un I) p0)), .int (nI ((rd8 (un I) p0).2))])), (xI, .inl (cA, 120, .inl gI)), (xL, .inl (cA, 120, .inl gL)), (xO, .inl (cA, 400, .inl gO)), (xK, .inl (cA, 120, .inl gK)), (xR, .inl (cA, 121, .inl gR)), (xW, .inl (cA, 1000, .inl gW))] H := by rw [er]; exact hP
                        replace hD : va_D A [(mo, .inr (5, [.int (nI I.length), .ref xI, .int (nI L.length), .ref xL, .int (nI O.length), .ref xO, .int (nI K.length), .ref xK, .int md, .ref xR, .int wr, .ref xW, .int at_, .long nu, .long vl, .long pc_, .int bs, .int (tkv (rd8 (un I) p0)), .int (nI ((rd8 (un I) p0).2))])), (xI, .inl (cA, 120, .inl gI)), (xL, .inl (cA, 120, .inl gL)), (xO, .inl (cA, 400, .inl gO)), (xK, .inl (cA, 120, .inl gK)), (xR, .inl (cA, 121, .inl gR)), (xW, .inl (cA, 1000, .inl gW))] := by rw [er]; exact hD
                        exact ret () dMo_readEights_137 rfl (by rw [er]; rfl) hP hD hS
          · skip
            exact absurd h46 (by decide)
        · skip
          exact absurd h37 (by decide)
      · skip
        exact absurd h30 (by decide)
  · skip
    rw [e8]
    obtain ⟨ea, eb, ec⟩ := tn_of b1 (by decide)
    refine lv_istore_n (lv' := [(3, .int (nI 4)), (2, .int (un I p0)), (0, .ref mo), (1, .int (nI p0))]) hx hb dMo_readEights_10 rfl hl (by decide) rfl (fun ls hl => ?_)
    refine lv_aload_n hx hb dMo_readEights_11 rfl (lv_at hl 2 rfl) ?_
    refine lv_iconst (v := nI 0) hx hb dMo_readEights_12 (by decide) ?_
    refine va_put (D := D) (ci := 5) (v := .int (nI 0)) (ty := .int) (C := R_Mo) (T := T_Mo) (N := 19) hx hb hw in_Mo ty_Mo ty_Mo_ok nm_Mo hown hK hP hD hS 0 rfl rfl 17 (by decide) (hw _ w_381) (fun _ h9 => h9) rfl (by decide +kernel) rfl rfl (Nat.le_of_ble_eq_true rfl) dMo_readEights_13 (fun H locs hP hD hS => ?_)
    have hP : va_P D vwCl [(mo, .inr (5, [.int (nI I.length), .ref xI, .int (nI L.length), .ref xL, .int (nI O.length), .ref xO, .int (nI K.length), .ref xK, .int md, .ref xR, .int wr, .ref xW, .int at_, .long nu, .long vl, .long pc_, .int bs, .int (nI 0), .int gd])), (xI, .inl (cA, 120, .inl gI)), (xL, .inl (cA, 120, .inl gL)), (xO, .inl (cA, 400, .inl gO)), (xK, .inl (cA, 120, .inl gK)), (xR, .inl (cA, 121, .inl gR)), (xW, .inl (cA, 1000, .inl gW))] H := hP
    have hD : va_D A [(mo, .inr (5, [.int (nI I.length), .ref xI, .int (nI L.length), .ref xL, .int (nI O.length), .ref xO, .int (nI K.length), .ref xK, .int md, .ref xR, .int wr, .ref xW, .int at_, .long nu, .long vl, .long pc_, .int bs, .int (nI 0), .int gd])), (xI, .inl (cA, 120, .inl gI)), (xL, .inl (cA, 120, .inl gL)), (xO, .inl (cA, 400, .inl gO)), (xK, .inl (cA, 120, .inl gK)), (xR, .inl (cA, 121, .inl gR)), (xW, .inl (cA, 1000, .inl gW))] := hD
    refine lv_aload_n hx hb dMo_readEights_16 rfl (lv_at hl 2 rfl) ?_
    refine lv_iload_n hx hb dMo_readEights_17 rfl (lv_at hl 0 rfl) ?_
    refine lv_if_le (tgt := 25) hx hb dMo_readEights_18 (by decide) (fun h18 => ?_) (fun h18 => ?_)
    · skip
      exact absurd h18 (by decide)
    · skip
      refine lv_iconst (v := nI 1) hx hb dMo_readEights_21 (by decide) ?_
      refine lv_goto (tgt := 26) hx hb dMo_readEights_22 (by decide) ?_
      refine va_put (D := D) (ci := 5) (v := .int (nI 1)) (ty := .int) (C := R_Mo) (T := T_Mo) (N := 19) hx hb hw in_Mo ty_Mo ty_Mo_ok nm_Mo hown hK hP hD hS 0 rfl rfl 18 (by decide) (hw _ w_382) (fun _ h9 => h9) rfl (by decide +kernel) rfl rfl (Nat.le_of_ble_eq_true rfl) dMo_readEights_26 (fun H locs hP hD hS => ?_)
      have hP : va_P D vwCl [(mo, .inr (5, [.int (nI I.length), .ref xI, .int (nI L.length), .ref xL, .int (nI O.length), .ref xO, .int (nI K.length), .ref xK, .int md, .ref xR, .int wr, .ref xW, .int at_, .long nu, .long vl, .long pc_, .int bs, .int (nI 0), .int (nI 1)])), (xI, .inl (cA, 120, .inl gI)), (xL, .inl (cA, 120, .inl gL)), (xO, .inl (cA, 400, .inl gO)), (xK, .inl (cA, 120, .inl gK)), (xR, .inl (cA, 121, .inl gR)), (xW, .inl (cA, 1000, .inl gW))] H := hP
      have hD : va_D A [(mo, .inr (5, [.int (nI I.length), .ref xI, .int (nI L.length), .ref xL, .int (nI O.length), .ref xO, .int (nI K.length), .ref xK, .int md, .ref xR, .int wr, .ref xW, .int at_, .long nu, .long vl, .long pc_, .int bs, .int (nI 0), .int (nI 1)])), (xI, .inl (cA, 120, .inl gI)), (xL, .inl (cA, 120, .inl gL)), (xO, .inl (cA, 400, .inl gO)), (xK, .inl (cA, 120, .inl gK)), (xR, .inl (cA, 121, .inl gR)), (xW, .inl (cA, 1000, .inl gW))] := hD
      refine lv_iload_n hx hb dMo_readEights_29 rfl (lv_at hl 0 rfl) ?_
      refine lv_if_ne (tgt := 35) hx hb dMo_readEights_30 (by decide) (fun h30 => ?_) (fun h30 => ?_)
      · skip
        refine lv_iload_n hx hb dMo_readEights_35 rfl (lv_at hl 0 rfl) ?_
        refine lv_iconst (v := nI 1) hx hb dMo_readEights_36 (by decide) ?_
        refine lv_icmp_ne (tgt := 44) hx hb dMo_readEights_37 (by decide) (fun h37 => ?_) (fun h37 => ?_)
        · skip
          refine lv_iload_n hx hb dMo_readEights_44 rfl (lv_at hl 0 rfl) ?_
          refine lv_iconst (v := nI 2) hx hb dMo_readEights_45 (by decide) ?_
          refine lv_icmp_ne (tgt := 57) hx hb dMo_readEights_46 (by decide) (fun h46 => ?_) (fun h46 => ?_)
          · skip
            refine lv_iload_n hx hb dMo_readEights_57 rfl (lv_at hl 0 rfl) ?_
            refine lv_iconst (v := nI 3) hx hb dMo_readEights_58 (by decide) ?_
            refine lv_icmp_ne (tgt := 70) hx hb dMo_readEights_59 (by decide) (fun h59 => ?_) (fun h59 => ?_)
            · skip
              refine lv_iload_n hx hb dMo_readEights_70 rfl (lv_at hl 1 rfl) ?_
              refine lv_sipush (v := nI 240) hx hb dMo_readEights_71 (by decide) ?_
              refine lv_isub hx hb dMo_readEights_74 ?_
              refine lv_rei (y := nI (tn (un I p0) - 240)) (sub_r ea (by omega)) ?_
              refine lv_istore (lv' := [(4, .int (nI (tn (un I p0) - 240))), (3, .int (nI 4)), (2, .int (un I p0)), (0, .ref mo), (1, .int (nI p0))]) hx hb dMo_readEights_75 hl (by decide) rfl (fun ls hl => ?_)
              refine lv_iconst (v := nI 1) hx hb dMo_readEights_77 (by decide) ?_
              refine lv_istore (lv' := [(5, .int (nI 1)), (4, .int (nI (tn (un I p0) - 240))), (3, .int (nI 4)), (2, .int (un I p0)), (0, .ref mo), (1, .int (nI p0))]) hx hb dMo_readEights_78 hl (by decide) rfl (fun ls hl => ?_)
              refine lv_iload hx hb dMo_readEights_80 (lv_at hl 0 rfl) ?_
              refine lv_iload_n hx hb dMo_readEights_82 rfl (lv_at hl 2 rfl) ?_
              refine lv_icmp_ge (tgt := 168) hx hb dMo_readEights_83 (by decide) (fun h83 => ?_) (fun h83 => ?_)
              · skip
                exact absurd h83 (by decide)
              · skip
                refine lv_aload_n hx hb dMo_readEights_86 rfl (lv_at hl 4 rfl) ?_
                refine lv_iload_n hx hb dMo_readEights_87 rfl (lv_at hl 5 rfl) ?_
                refine lv_iload hx hb dMo_readEights_88 (lv_at hl 0 rfl) ?_
                refine lv_iadd hx hb dMo_readEights_90 ?_
                refine lv_rei (y := nI (p0 + 1)) (nI_add _ _) ?_
                refine ca_i (wr := []) (va_runV (As := [.int (nI (p0 + 1))]) (rest := []) Xf (k_Mo_unit l D cA _ mo xI xL xO xK xR xW I L O K gI gL gO gK gR gW md wr at_ nu vl pc_ bs (nI 0) (nI 1) (p0 + 1) hfI hcI hfL hcL hfO hcO hfK hcK (by omega)) ⟨cb_of 1 hw w_449 w_7 w_446 (by decide +kernel) (by rw [hR]; exact ⟨Nat.le_of_ble_eq_true rfl, Nat.le_of_ble_eq_true rfl⟩), hw _ w_448, hw _ ws_17⟩ (pre_V (As := [.int (nI (p0 + 1))]) hP hD hK hn [0, 1, 2, 3, 4, 5, 6] rfl (by decide) 0 5 rfl rfl) rfl rfl hl.1 rfl (lv_room (Nat.le_of_ble_eq_true rfl)) dMo_readEights_91 ⟨Nat.zero_le _, Nat.zero_le _⟩) hP hD hS hA [0, 1, 2, 3, 4, 5, 6] [] rfl rfl (by decide) (by decide) (fun r91 u_ H locs hq_ hP hD hS => ?_)
                obtain rfl : r91 = un I (p0 + 1) := hq_
                replace hP : va_P D vwCl [(mo, .inr (5, [.int (nI I.length), .ref xI, .int (nI L.length), .ref xL, .int (nI O.length), .ref xO, .int (nI K.length), .ref xK, .int md, .ref xR, .int wr, .ref xW, .int at_, .long nu, .long vl, .long pc_, .int bs, .int (nI 0), .int (nI 1)])), (xI, .inl (cA, 120, .inl gI)), (xL, .inl (cA, 120, .inl gL)), (xO, .inl (cA, 400, .inl gO)), (xK, .inl (cA, 120, .inl gK)), (xR, .inl (cA, 121, .inl gR)), (xW, .inl (cA, 1000, .inl gW))] H := hP.sub [0, 1, 2, 3, 4, 5, 6] rfl
                replace hD : va_D A [(mo, .inr (5, [.int (nI I.length), .ref xI, .int (nI L.length), .ref xL, .int (nI O.length), .ref xO, .int (nI K.length), .ref xK, .int md, .ref xR, .int wr, .ref xW, .int at_, .long nu, .long vl, .long pc_, .int bs, .int (nI 0), .int (nI 1)])), (xI, .inl (cA, 120, .inl gI)), (xL, .inl (cA, 120, .inl gL)), (xO, .inl (cA, 400, .inl gO)), (xK, .inl (cA, 120, .inl gK)), (xR, .inl (cA, 121, .inl gR)), (xW, .inl (cA, 1000, .inl gW))] := hD.sub [0, 1, 2, 3, 4, 5, 6] (by decide) rfl
                refine lv_istore (lv' := [(6, .int (un I (p0 + 1))), (5, .int (nI 1)), (4, .int (nI (tn (un I p0) - 240))), (3, .int (nI 4)), (2, .int (un I p0)), (0, .ref mo), (1, .int (nI p0))]) hx hb dMo_readEights_94 hl (by decide) rfl (fun ls hl => ?_)
                refine lv_iload hx hb dMo_readEights_96 (lv_at hl 0 rfl) ?_
                refine lv_iload hx hb dMo_readEights_98 (lv_at hl 1 rfl) ?_
                refine lv_iconst (v := nI 1) hx hb dMo_readEights_100 (by decide) ?_
                refine lv_icmp_ne (tgt := 111) hx hb dMo_readEights_101 (by decide) (fun h101 => ?_) (fun h101 => ?_)
                · skip
                  exact absurd h101 (by decide)
                · skip
                  refine lv_iload_n hx hb dMo_readEights_104 rfl (lv_at hl 4 rfl) ?_
                  refine ca_i (wr := [(mo, .inr (5, [.int (nI I.length), .ref xI, .int (nI L.length), .ref xL, .int (nI O.length), .ref xO, .int (nI K.length), .ref xK, .int md, .ref xR, .int wr, .ref xW, .int at_, .long nu, .long vl, .long pc_, .int bs, .int (nI 0), .int (nI 1)])), (xI, .inl (cA, 120, .inl gI)), (xL, .inl (cA, 120, .inl gL)), (xO, .inl (cA, 400, .inl gO)), (xK, .inl (cA, 120, .inl gK)), (xR, .inl (cA, 121, .inl gR)), (xW, .inl (cA, 1000, .inl gW))]) (va_runS (As := [.int (un I p0)]) (rest := [.int (un I (p0 + 1))]) Xf (k_Mo_leastSecond l D cA _ (un I p0)) ⟨cb_of 1 hw w_458 w_7 w_456 (by decide +kernel) (by rw [hR]; exact ⟨Nat.le_of_ble_eq_true rfl, Nat.le_of_ble_eq_true rfl⟩), hw _ w_457⟩ (pre_S hP hD hK hn [] rfl (by decide)) rfl rfl hl.1 rfl (lv_room (Nat.le_of_ble_eq_true rfl)) dMo_readEights_105 ⟨Nat.zero_le _, Nat.zero_le _⟩) hP hD hS hA [] [0, 1, 2, 3, 4, 5, 6] rfl rfl (by decide) (by decide) (fun r105 u_ H locs hq_ hP hD hS => ?_)
                  obtain rfl : r105 = nI (l2N (un I p0)) := hq_
                  replace hP : va_P D vwCl [(mo, .inr (5, [.int (nI I.length), .ref xI, .int (nI L.length), .ref xL, .int (nI O.length), .ref xO, .int (nI K.length), .ref xK, .int md, .ref xR, .int wr, .ref xW, .int at_, .long nu, .long vl, .long pc_, .int bs, .int (nI 0), .int (nI 1)])), (xI, .inl (cA, 120, .inl gI)), (xL, .inl (cA, 120, .inl gL)), (xO, .inl (cA, 400, .inl gO)), (xK, .inl (cA, 120, .inl gK)), (xR, .inl (cA, 121, .inl gR)), (xW, .inl (cA, 1000, .inl gW))] H := hP.sub [0, 1, 2, 3, 4, 5, 6] rfl
                  replace hD : va_D A [(mo, .inr (5, [.int (nI I.length), .ref xI, .int (nI L.length), .ref xL, .int (nI O.length), .ref xO, .int (nI K.length), .ref xK, .int md, .ref xR, .int wr, .ref xW, .int at_, .long nu, .long vl, .long pc_, .int bs, .int (nI 0), .int (nI 1)])), (xI, .inl (cA, 120, .inl gI)), (xL, .inl (cA, 120, .inl gL)), (xO, .inl (cA, 400, .inl gO)), (xK, .inl (cA, 120, .inl gK)), (xR, .inl (cA, 121, .inl gR)), (xW, .inl (cA, 1000, .inl gW))] := hD.sub [0, 1, 2, 3, 4, 5, 6] (by decide) rfl
                  refine lv_goto (tgt := 114) hx hb dMo_readEights_108 (by decide) ?_
                  refine lv_iload hx hb dMo_readEights_114 (lv_at hl 1 rfl) ?_
                  refine lv_iconst (v := nI 1) hx hb dMo_readEights_116 (by decide) ?_
                  refine lv_icmp_ne (tgt := 127) hx hb dMo_readEights_117 (by decide) (fun h117 => ?_) (fun h117 => ?_)
                  · skip
                    exact absurd h117 (by decide)
                  · skip
                    refine lv_iload_n hx hb dMo_readEights_120 rfl (lv_at hl 4 rfl) ?_
                    refine ca_i (wr := [(mo, .inr (5, [.int (nI I.length), .ref xI, .int (nI L.length), .ref xL, .int (nI O.length), .ref xO, .int (nI K.length), .ref xK, .int md, .ref xR, .int wr, .ref xW, .int at_, .long nu, .long vl, .long pc_, .int bs, .int (nI 0), .int (nI 1)])), (xI, .inl (cA, 120, .inl gI)), (xL, .inl (cA, 120, .inl gL)), (xO, .inl (cA, 400, .inl gO)), (xK, .inl (cA, 120, .inl gK)), (xR, .inl (cA, 121, .inl gR)), (xW, .inl (cA, 1000, .inl gW))]) (va_runS (As := [.int (un I p0)]) (rest := [.int (nI (l2N (un I p0))), .int (un I (p0 + 1))]) Xf (k_Mo_mostSecond l D cA _ (un I p0)) ⟨cb_of 1 hw w_461 w_7 w_459 (by decide +kernel) (by rw [hR]; exact ⟨Nat.le_of_ble_eq_true rfl, Nat.le_of_ble_eq_true rfl⟩), hw _ w_460⟩ (pre_S hP hD hK hn [] rfl (by decide)) rfl rfl hl.1 rfl (lv_room (Nat.le_of_ble_eq_true rfl)) dMo_readEights_121 ⟨Nat.zero_le _, Nat.zero_le _⟩) hP hD hS hA [] [0, 1, 2, 3, 4, 5, 6] rfl rfl (by decide) (by decide) (fun r121 u_ H locs hq_ hP hD hS => ?_)
                    obtain rfl : r121 = nI (h2N (un I p0)) := hq_
                    replace hP : va_P D vwCl [(mo, .inr (5, [.int (nI I.length), .ref xI, .int (nI L.length), .ref xL, .int (nI O.length), .ref xO, .int (nI K.length), .ref xK, .int md, .ref xR, .int wr, .ref xW, .int at_, .long nu, .long vl, .long pc_, .int bs, .int (nI 0), .int (nI 1)])), (xI, .inl (cA, 120, .inl gI)), (xL, .inl (cA, 120, .inl gL)), (xO, .inl (cA, 400, .inl gO)), (xK, .inl (cA, 120, .inl gK)), (xR, .inl (cA, 121, .inl gR)), (xW, .inl (cA, 1000, .inl gW))] H := hP.sub [0, 1, 2, 3, 4, 5, 6] rfl
                    replace hD : va_D A [(mo, .inr (5, [.int (nI I.length), .ref xI, .int (nI L.length), .ref xL, .int (nI O.length), .ref xO, .int (nI K.length), .ref xK, .int md, .ref xR, .int wr, .ref xW, .int at_, .long nu, .long vl, .long pc_, .int bs, .int (nI 0), .int (nI 1)])), (xI, .inl (cA, 120, .inl gI)), (xL, .inl (cA, 120, .inl gL)), (xO, .inl (cA, 400, .inl gO)), (xK, .inl (cA, 120, .inl gK)), (xR, .inl (cA, 121, .inl gR)), (xW, .inl (cA, 1000, .inl gW))] := hD.sub [0, 1, 2, 3, 4, 5, 6] (by decide) rfl
                    refine lv_goto (tgt := 130) hx hb dMo_readEights_124 (by decide) ?_
                    refine ca_i (wr := [(mo, .inr (5, [.int (nI I.length), .ref xI, .int (nI L.length), .ref xL, .int (nI O.length), .ref xO, .int (nI K.length), .ref xK, .int md, .ref xR, .int wr, .ref xW, .int at_, .long nu, .long vl, .long pc_, .int bs, .int (nI 0), .int (nI 1)])), (xI, .inl (cA, 120, .inl gI)), (xL, .inl (cA, 120, .inl gL)), (xO, .inl (cA, 400, .inl gO)), (xK, .inl (cA, 120, .inl gK)), (xR, .inl (cA, 121, .inl gR)), (xW, .inl (cA, 1000, .inl gW))]) (va_runS (As := [.int (un I (p0 + 1)), .int (nI (l2N (un I p0))), .int (nI (h2N (un I p0)))]) (rest := []) Xf (k_Mo_isIn l D cA _ (un I (p0 + 1)) (l2N (un I p0)) (h2N (un I p0)) (l2N_b _) (h2N_b _)) ⟨cb_of 3 hw w_455 w_7 w_453 (by decide +kernel) (by rw [hR]; exact ⟨Nat.le_of_ble_eq_true rfl, Nat.le_of_ble_eq_true rfl⟩), hw _ w_454⟩ (pre_S hP hD hK hn [] rfl (by decide)) rfl rfl hl.1 rfl (lv_room (Nat.le_of_ble_eq_true rfl)) dMo_readEights_130 ⟨Nat.zero_le _, Nat.zero_le _⟩) hP hD hS hA [] [0, 1, 2, 3, 4, 5, 6] rfl rfl (by decide) (by decide) (fun r130 u_ H locs hq_ hP hD hS => ?_)
                    rcases hq_ with ⟨hk130_4, rfl⟩ | ⟨hk130_4, rfl⟩
                    · skip
                      replace hP : va_P D vwCl [(mo, .inr (5, [.int (nI I.length), .ref xI, .int (nI L.length), .ref xL, .int (nI O.length), .ref xO, .int (nI K.length), .ref xK, .int md, .ref xR, .int wr, .ref xW, .int at_, .long nu, .long vl, .long pc_, .int bs, .int (nI 0), .int (nI 1)])), (xI, .inl (cA, 120, .inl gI)), (xL, .inl (cA, 120, .inl gL)), (xO, .inl (cA, 400, .inl gO)), (xK, .inl (cA, 120, .inl gK)), (xR, .inl (cA, 121, .inl gR)), (xW, .inl (cA, 1000, .inl gW))] H := hP.sub [0, 1, 2, 3, 4, 5, 6] rfl
                      replace hD : va_D A [(mo, .inr (5, [.int (nI I.length), .ref xI, .int (nI L.length), .ref xL, .int (nI O.length), .ref xO, .int (nI K.length), .ref xK, .int md, .ref xR, .int wr, .ref xW, .int at_, .long nu, .long vl, .long pc_, .int bs, .int (nI 0), .int (nI 1)])), (xI, .inl (cA, 120, .inl gI)), (xL, .inl (cA, 120, .inl gL)), (xO, .inl (cA, 400, .inl gO)), (xK, .inl (cA, 120, .inl gK)), (xR, .inl (cA, 121, .inl gR)), (xW, .inl (cA, 1000, .inl gW))] := hD.sub [0, 1, 2, 3, 4, 5, 6] (by decide) rfl
                      rw [l2N_i, h2N_i] at hk130_4
                      have ho1 : ok2 (un I p0) (un I (p0 + 1)) = true := decide_eq_true hk130_4
                      obtain ⟨g1_1, g2_1⟩ := ok2_r ho1
                      obtain ⟨ea_1, eb_1, ec_1⟩ := tn_of g1_1 (by decide)
                      refine lv_if_ne (tgt := 138) hx hb dMo_readEights_133 (by decide) (fun h133 => ?_) (fun h133 => ?_)
                      · skip
                        refine lv_bipush (v := nI 64) hx hb dMo_readEights_138 (by decide) ?_
                        refine lv_iload hx hb dMo_readEights_140 (lv_at hl 2 rfl) ?_
                        refine lv_imul hx hb dMo_readEights_142 ?_
                        refine lv_rei (y := nI ((tn (un I p0) - 240) * 64)) (by rw [pk_mul, Nat.mul_comm]) ?_
                        refine lv_iload hx hb dMo_readEights_143 (lv_at hl 0 rfl) ?_
                        refine lv_iadd hx hb dMo_readEights_145 ?_
                        refine lv_rei (y := nI ((tn (un I p0) - 240) * 64 + tn (un I (p0 + 1)))) (add_r ea_1) ?_
                        refine lv_sipush (v := nI 128) hx hb dMo_readEights_146 (by decide) ?_
                        refine lv_isub hx hb dMo_readEights_149 ?_
                        refine lv_rei (y := nI ((tn (un I p0) - 240) * 64 + tn (un I (p0 + 1)) - 128)) (pk_sub (by omega)) ?_
                        refine lv_istore (lv' := [(4, .int (nI ((tn (un I p0) - 240) * 64 + tn (un I (p0 + 1)) - 128))), (6, .int (un I (p0 + 1))), (5, .int (nI 1)), (3, .int (nI 4)), (2, .int (un I p0)), (0, .ref mo), (1, .int (nI p0))]) hx hb dMo_readEights_150 hl (by decide) rfl (fun ls hl => ?_)
                        refine lv_aload_n hx hb dMo_readEights_152 rfl (lv_at hl 5 rfl) ?_
                        refine lv_aload_n hx hb dMo_readEights_153 rfl (lv_at hl 5 rfl) ?_
                        refine va_get (D := D) (ci := 5) (v := .int (nI 1)) (C := R_Mo) (T := T_Mo) (N := 19) hx hb hw in_Mo hown hK hP 0 rfl rfl 18 (by decide) (hw _ w_382) (fun _ h9 => h9) rfl dMo_readEights_154 ?_
                        refine lv_iconst (v := nI 1) hx hb dMo_readEights_157 (by decide) ?_
                        refine lv_iadd hx hb dMo_readEights_158 ?_
                        refine lv_rei (y := nI 2) (by decide) ?_
                        refine va_put (D := D) (ci := 5) (v := .int (nI 2)) (ty := .int) (C := R_Mo) (T := T_Mo) (N := 19) hx hb hw in_Mo ty_Mo ty_Mo_ok nm_Mo hown hK hP hD hS 0 rfl rfl 18 (by decide) (hw _ w_382) (fun _ h9 => h9) rfl (by decide +kernel) rfl rfl (Nat.le_of_ble_eq_true rfl) dMo_readEights_159 (fun H locs hP hD hS => ?_)
                        have hP : va_P D vwCl [(mo, .inr (5, [.int (nI I.length), .ref xI, .int (nI L.length), .ref xL, .int (nI O.length), .ref xO, .int (nI K.length), .ref xK, .int md, .ref xR, .int wr, .ref xW, .int at_, .long nu, .long vl, .long pc_, .int bs, .int (nI 0), .int (nI 2)])), (xI, .inl (cA, 120, .inl gI)), (xL, .inl (cA, 120, .inl gL)), (xO, .inl (cA, 400, .inl gO)), (xK, .inl (cA, 120, .inl gK)), (xR, .inl (cA, 121, .inl gR)), (xW, .inl (cA, 1000, .inl gW))] H := hP
                        have hD : va_D A [(mo, .inr (5, [.int (nI I.length), .ref xI, .int (nI L.length), .ref xL, .int (nI O.length), .ref xO, .int (nI K.length), .ref xK, .int md, .ref xR, .int wr, .ref xW, .int at_, .long nu, .long vl, .long pc_, .int bs, .int (nI 0), .int (nI 2)])), (xI, .inl (cA, 120, .inl gI)), (xL, .inl (cA, 120, .inl gL)), (xO, .inl (cA, 400, .inl gO)), (xK, .inl (cA, 120, .inl gK)), (xR, .inl (cA, 121, .inl gR)), (xW, .inl (cA, 1000, .inl gW))] := hD
                        refine lv_iinc (k := 2) (v := nI 2) (lv' := [(5, .int (nI 2)), (4, .int (nI ((tn (un I p0) - 240) * 64 + tn (un I (p0 + 1)) - 128))), (6, .int (un I (p0 + 1))), (3, .int (nI 4)), (2, .int (un I p0)), (0, .ref mo), (1, .int (nI p0))]) hx hb dMo_readEights_162 hl rfl (by decide) (by decide) rfl (fun ls hl => ?_)
                        refine lv_goto (tgt := 80) hx hb dMo_readEights_165 (by decide) ?_
                        refine lv_iload hx hb dMo_readEights_80 (lv_at hl 0 rfl) ?_
                        refine lv_iload_n hx hb dMo_readEights_82 rfl (lv_at hl 3 rfl) ?_
                        refine lv_icmp_ge (tgt := 168) hx hb dMo_readEights_83 (by decide) (fun h83_2 => ?_) (fun h83_2 => ?_)
                        · skip
                          exact absurd h83_2 (by decide)
                        · skip
                          refine lv_aload_n hx hb dMo_readEights_86 rfl (lv_at hl 5 rfl) ?_
                          refine lv_iload_n hx hb dMo_readEights_87 rfl (lv_at hl 6 rfl) ?_
                          refine lv_iload hx hb dMo_readEights_88 (lv_at hl 0 rfl) ?_
                          refine lv_iadd hx hb dMo_readEights_90 ?_
                          refine lv_rei (y := nI (p0 + 2)) (nI_add _ _) ?_
                          refine ca_i (wr := []) (va_runV (As := [.int (nI (p0 + 2))]) (rest := []) Xf (k_Mo_unit l D cA _ mo xI xL xO xK xR xW I L O K gI gL gO gK gR gW md wr at_ nu vl pc_ bs (nI 0) (nI 2) (p0 + 2) hfI hcI hfL hcL hfO hcO hfK hcK (by omega)) ⟨cb_of 1 hw w_449 w_7 w_446 (by decide +kernel) (by rw [hR]; exact ⟨Nat.le_of_ble_eq_true rfl, Nat.le_of_ble_eq_true rfl⟩), hw _ w_448, hw _ ws_17⟩ (pre_V (As := [.int (nI (p0 + 2))]) hP hD hK hn [0, 1, 2, 3, 4, 5, 6] rfl (by decide) 0 5 rfl rfl) rfl rfl hl.1 rfl (lv_room (Nat.le_of_ble_eq_true rfl)) dMo_readEights_91 ⟨Nat.zero_le _, Nat.zero_le _⟩) hP hD hS hA [0, 1, 2, 3, 4, 5, 6] [] rfl rfl (by decide) (by decide) (fun r91 u_ H locs hq_ hP hD hS => ?_)
                          obtain rfl : r91 = un I (p0 + 2) := hq_
                          replace hP : va_P D vwCl [(mo, .inr (5, [.int (nI I.length), .ref xI, .int (nI L.length), .ref xL, .int (nI O.length), .ref xO, .int (nI K.length), .ref xK, .int md, .ref xR, .int wr, .ref xW, .int at_, .long nu, .long vl, .long pc_, .int bs, .int (nI 0), .int (nI 2)])), (xI, .inl (cA, 120, .inl gI)), (xL, .inl (cA, 120, .inl gL)), (xO, .inl (cA, 400, .inl gO)), (xK, .inl (cA, 120, .inl gK)), (xR, .inl (cA, 121, .inl gR)), (xW, .inl (cA, 1000, .inl gW))] H := hP.sub [0, 1, 2, 3, 4, 5, 6] rfl
                          replace hD : va_D A [(mo, .inr (5, [.int (nI I.length), .ref xI, .int (nI L.length), .ref xL, .int (nI O.length), .ref xO, .int (nI K.length), .ref xK, .int md, .ref xR, .int wr, .ref xW, .int at_, .long nu, .long vl, .long pc_, .int bs, .int (nI 0), .int (nI 2)])), (xI, .inl (cA, 120, .inl gI)), (xL, .inl (cA, 120, .inl gL)), (xO, .inl (cA, 400, .inl gO)), (xK, .inl (cA, 120, .inl gK)), (xR, .inl (cA, 121, .inl gR)), (xW, .inl (cA, 1000, .inl gW))] := hD.sub [0, 1, 2, 3, 4, 5, 6] (by decide) rfl
                          refine lv_istore (lv' := [(6, .int (un I (p0 + 2))), (5, .int (nI 2)), (4, .int (nI ((tn (un I p0) - 240) * 64 + tn (un I (p0 + 1)) - 128))), (3, .int (nI 4)), (2, .int (un I p0)), (0, .ref mo), (1, .int (nI p0))]) hx hb dMo_readEights_94 hl (by decide) rfl (fun ls hl => ?_)
                          refine lv_iload hx hb dMo_readEights_96 (lv_at hl 0 rfl) ?_
                          refine lv_iload hx hb dMo_readEights_98 (lv_at hl 1 rfl) ?_
                          refine lv_iconst (v := nI 1) hx hb dMo_readEights_100 (by decide) ?_
                          refine lv_icmp_ne (tgt := 111) hx hb dMo_readEights_101 (by decide) (fun h101_2 => ?_) (fun h101_2 => ?_)
                          · skip
                            refine lv_sipush (v := nI 128) hx hb dMo_readEights_111 (by decide) ?_
                            refine lv_iload hx hb dMo_readEights_114 (lv_at hl 1 rfl) ?_
                            refine lv_iconst (v := nI 1) hx hb dMo_readEights_116 (by decide) ?_
                            refine lv_icmp_ne (tgt := 127) hx hb dMo_readEights_117 (by decide) (fun h117_2 => ?_) (fun h117_2 => ?_)
                            · skip
                              refine lv_sipush (v := nI 191) hx hb dMo_readEights_127 (by decide) ?_
                              refine ca_i (wr := [(mo, .inr (5, [.int (nI I.length), .ref xI, .int (nI L.length), .ref xL, .int (nI O.length), .ref xO, .int (nI K.length), .ref xK, .int md, .ref xR, .int wr, .ref xW, .int at_, .long nu, .long vl, .long pc_, .int bs, .int (nI 0), .int (nI 2)])), (xI, .inl (cA, 120, .inl gI)), (xL, .inl (cA, 120, .inl gL)), (xO, .inl (cA, 400, .inl gO)), (xK, .inl (cA, 120, .inl gK)), (xR, .inl (cA, 121, .inl gR)), (xW, .inl (cA, 1000, .inl gW))]) (va_runS (As := [.int (un I (p0 + 2)), .int (nI 128), .int (nI 191)]) (rest := []) Xf (k_Mo_isIn l D cA _ (un I (p0 + 2)) 128 191 (by omega) (by omega)) ⟨cb_of 3 hw w_455 w_7 w_453 (by decide +kernel) (by rw [hR]; exact ⟨Nat.le_of_ble_eq_true rfl, Nat.le_of_ble_eq_true rfl⟩), hw _ w_454⟩ (pre_S hP hD hK hn [] rfl (by decide)) rfl rfl hl.1 rfl (lv_room (Nat.le_of_ble_eq_true rfl)) dMo_readEights_130 ⟨Nat.zero_le _, Nat.zero_le _⟩) hP hD hS hA [] [0, 1, 2, 3, 4, 5, 6] rfl rfl (by decide) (by decide) (fun r130 u_ H locs hq_ hP hD hS => ?_)
                              rcases hq_ with ⟨hk130_5, rfl⟩ | ⟨hk130_5, rfl⟩
                              · skip
                                replace hP : va_P D vwCl [(mo, .inr (5, [.int (nI I.length), .ref xI, .int (nI L.length), .ref xL, .int (nI O.length), .ref xO, .int (nI K.length), .ref xK, .int md, .ref xR, .int wr, .ref xW, .int at_, .long nu, .long vl, .long pc_, .int bs, .int (nI 0), .int (nI 2)])), (xI, .inl (cA, 120, .inl gI)), (xL, .inl (cA, 120, .inl gL)), (xO, .inl (cA, 400, .inl gO)), (xK, .inl (cA, 120, .inl gK)), (xR, .inl (cA, 121, .inl gR)), (xW, .inl (cA, 1000, .inl gW))] H := hP.sub [0, 1, 2, 3, 4, 5, 6] rfl
                                replace hD : va_D A [(mo, .inr (5, [.int (nI I.length), .ref xI, .int (nI L.length), .ref xL, .int (nI O.length), .ref xO, .int (nI K.length), .ref xK, .int md, .ref xR, .int wr, .ref xW, .int at_, .long nu, .long vl, .long pc_, .int bs, .int (nI 0), .int (nI 2)])), (xI, .inl (cA, 120, .inl gI)), (xL, .inl (cA, 120, .inl gL)), (xO, .inl (cA, 400, .inl gO)), (xK, .inl (cA, 120, .inl gK)), (xR, .inl (cA, 121, .inl gR)), (xW, .inl (cA, 1000, .inl gW))] := hD.sub [0, 1, 2, 3, 4, 5, 6] (by decide) rfl
                                have ho2 : ok3 (un I (p0 + 2)) = true := decide_eq_true ⟨by omega, by omega⟩
                                obtain ⟨g1_2, g2_2⟩ := ok3_r ho2
                                obtain ⟨ea_2, eb_2, ec_2⟩ := tn_of g1_2 (by decide)
                                refine lv_if_ne (tgt := 138) hx hb dMo_readEights_133 (by decide) (fun h133_2 => ?_) (fun h133_2 => ?_)
                                · skip
                                  refine lv_bipush (v := nI 64) hx hb dMo_readEights_138 (by decide) ?_
                                  refine lv_iload hx hb dMo_readEights_140 (lv_at hl 2 rfl) ?_
                                  refine lv_imul hx hb dMo_readEights_142 ?_
                                  refine lv_rei (y := nI (((tn (un I p0) - 240) * 64 + tn (un I (p0 + 1)) - 128) * 64)) (by rw [pk_mul, Nat.mul_comm]) ?_
                                  refine lv_iload hx hb dMo_readEights_143 (lv_at hl 0 rfl) ?_
                                  refine lv_iadd hx hb dMo_readEights_145 ?_
                                  refine lv_rei (y := nI (((tn (un I p0) - 240) * 64 + tn (un I (p0 + 1)) - 128) * 64 + tn (un I (p0 + 2)))) (add_r ea_2) ?_
                                  refine lv_sipush (v := nI 128) hx hb dMo_readEights_146 (by decide) ?_
                                  refine lv_isub hx hb dMo_readEights_149 ?_
                                  refine lv_rei (y := nI (((tn (un I p0) - 240) * 64 + tn (un I (p0 + 1)) - 128) * 64 + tn (un I (p0 + 2)) - 128)) (pk_sub (by omega)) ?_
                                  refine lv_istore (lv' := [(4, .int (nI (((tn (un I p0) - 240) * 64 + tn (un I (p0 + 1)) - 128) * 64 + tn (un I (p0 + 2)) - 128))), (6, .int (un I (p0 + 2))), (5, .int (nI 2)), (3, .int (nI 4)), (2, .int (un I p0)), (0, .ref mo), (1, .int (nI p0))]) hx hb dMo_readEights_150 hl (by decide) rfl (fun ls hl => ?_)
                                  refine lv_aload_n hx hb dMo_readEights_152 rfl (lv_at hl 5 rfl) ?_
                                  refine lv_aload_n hx hb dMo_readEights_153 rfl (lv_at hl 5 rfl) ?_
                                  refine va_get (D := D) (ci := 5) (v := .int (nI 2)) (C := R_Mo) (T := T_Mo) (N := 19) hx hb hw in_Mo hown hK hP 0 rfl rfl 18 (by decide) (hw _ w_382) (fun _ h9 => h9) rfl dMo_readEights_154 ?_
                                  refine lv_iconst (v := nI 1) hx hb dMo_readEights_157 (by decide) ?_
                                  refine lv_iadd hx hb dMo_readEights_158 ?_
                                  refine lv_rei (y := nI 3) (by decide) ?_
                                  refine va_put (D := D) (ci := 5) (v := .int (nI 3)) (ty := .int) (C := R_Mo) (T := T_Mo) (N := 19) hx hb hw in_Mo ty_Mo ty_Mo_ok nm_Mo hown hK hP hD hS 0 rfl rfl 18 (by decide) (hw _ w_382) (fun _ h9 => h9) rfl (by decide +kernel) rfl rfl (Nat.le_of_ble_eq_true rfl) dMo_readEights_159 (fun H locs hP hD hS => ?_)
                                  have hP : va_P D vwCl [(mo, .inr (5, [.int (nI I.length), .ref xI, .int (nI L.length), .ref xL, .int (nI O.length), .ref xO, .int (nI K.length), .ref xK, .int md, .ref xR, .int wr, .ref xW, .int at_, .long nu, .long vl, .long pc_, .int bs, .int (nI 0), .int (nI 3)])), (xI, .inl (cA, 120, .inl gI)), (xL, .inl (cA, 120, .inl gL)), (xO, .inl (cA, 400, .inl gO)), (xK, .inl (cA, 120, .inl gK)), (xR, .inl (cA, 121, .inl gR)), (xW, .inl (cA, 1000, .inl gW))] H := hP
                                  have hD : va_D A [(mo, .inr (5, [.int (nI I.length), .ref xI, .int (nI L.length), .ref xL, .int (nI O.length), .ref xO, .int (nI K.length), .ref xK, .int md, .ref xR, .int wr, .ref xW, .int at_, .long nu, .long vl, .long pc_, .int bs, .int (nI 0), .int (nI 3)])), (xI, .inl (cA, 120, .inl gI)), (xL, .inl (cA, 120, .inl gL)), (xO, .inl (cA, 400, .inl gO)), (xK, .inl (cA, 120, .inl gK)), (xR, .inl (cA, 121, .inl gR)), (xW, .inl (cA, 1000, .inl gW))] := hD
                                  refine lv_iinc (k := 2) (v := nI 3) (lv' := [(5, .int (nI 3)), (4, .int (nI (((tn (un I p0) - 240) * 64 + tn (un I (p0 + 1)) - 128) * 64 + tn (un I (p0 + 2)) - 128))), (6, .int (un I (p0 + 2))), (3, .int (nI 4)), (2, .int (un I p0)), (0, .ref mo), (1, .int (nI p0))]) hx hb dMo_readEights_162 hl rfl (by decide) (by decide) rfl (fun ls hl => ?_)
                                  refine lv_goto (tgt := 80) hx hb dMo_readEights_165 (by decide) ?_
                                  refine lv_iload hx hb dMo_readEights_80 (lv_at hl 0 rfl) ?_
                                  refine lv_iload_n hx hb dMo_readEights_82 rfl (lv_at hl 3 rfl) ?_
                                  refine lv_icmp_ge (tgt := 168) hx hb dMo_readEights_83 (by decide) (fun h83_3 => ?_) (fun h83_3 => ?_)
                                  · skip
                                    exact absurd h83_3 (by decide)
                                  · skip
                                    refine lv_aload_n hx hb dMo_readEights_86 rfl (lv_at hl 5 rfl) ?_
                                    refine lv_iload_n hx hb dMo_readEights_87 rfl (lv_at hl 6 rfl) ?_
                                    refine lv_iload hx hb dMo_readEights_88 (lv_at hl 0 rfl) ?_
                                    refine lv_iadd hx hb dMo_readEights_90 ?_
                                    refine lv_rei (y := nI (p0 + 3)) (nI_add _ _) ?_
                                    refine ca_i (wr := []) (va_runV (As := [.int (nI (p0 + 3))]) (rest := []) Xf (k_Mo_unit l D cA _ mo xI xL xO xK xR xW I L O K gI gL gO gK gR gW md wr at_ nu vl pc_ bs (nI 0) (nI 3) (p0 + 3) hfI hcI hfL hcL hfO hcO hfK hcK (by omega)) ⟨cb_of 1 hw w_449 w_7 w_446 (by decide +kernel) (by rw [hR]; exact ⟨Nat.le_of_ble_eq_true rfl, Nat.le_of_ble_eq_true rfl⟩), hw _ w_448, hw _ ws_17⟩ (pre_V (As := [.int (nI (p0 + 3))]) hP hD hK hn [0, 1, 2, 3, 4, 5, 6] rfl (by decide) 0 5 rfl rfl) rfl rfl hl.1 rfl (lv_room (Nat.le_of_ble_eq_true rfl)) dMo_readEights_91 ⟨Nat.zero_le _, Nat.zero_le _⟩) hP hD hS hA [0, 1, 2, 3, 4, 5, 6] [] rfl rfl (by decide) (by decide) (fun r91 u_ H locs hq_ hP hD hS => ?_)
                                    obtain rfl : r91 = un I (p0 + 3) := hq_
                                    replace hP : va_P D vwCl [(mo, .inr (5, [.int (nI I.length), .ref xI, .int (nI L.length), .ref xL, .int (nI O.length), .ref xO, .int (nI K.length), .ref xK, .int md, .ref xR, .int wr, .ref xW, .int at_, .long nu, .long vl, .long pc_, .int bs, .int (nI 0), .int (nI 3)])), (xI, .inl (cA, 120, .inl gI)), (xL, .inl (cA, 120, .inl gL)), (xO, .inl (cA, 400, .inl gO)), (xK, .inl (cA, 120, .inl gK)), (xR, .inl (cA, 121, .inl gR)), (xW, .inl (cA, 1000, .inl gW))] H := hP.sub [0, 1, 2, 3, 4, 5, 6] rfl
                                    replace hD : va_D A [(mo, .inr (5, [.int (nI I.length), .ref xI, .int (nI L.length), .ref xL, .int (nI O.length), .ref xO, .int (nI K.length), .ref xK, .int md, .ref xR, .int wr, .ref xW, .int at_, .long nu, .long vl, .long pc_, .int bs, .int (nI 0), .int (nI 3)])), (xI, .inl (cA, 120, .inl gI)), (xL, .inl (cA, 120, .inl gL)), (xO, .inl (cA, 400, .inl gO)), (xK, .inl (cA, 120, .inl gK)), (xR, .inl (cA, 121, .inl gR)), (xW, .inl (cA, 1000, .inl gW))] := hD.sub [0, 1, 2, 3, 4, 5, 6] (by decide) rfl
                                    refine lv_istore (lv' := [(6, .int (un I (p0 + 3))), (5, .int (nI 3)), (4, .int (nI (((tn (un I p0) - 240) * 64 + tn (un I (p0 + 1)) - 128) * 64 + tn (un I (p0 + 2)) - 128))), (3, .int (nI 4)), (2, .int (un I p0)), (0, .ref mo), (1, .int (nI p0))]) hx hb dMo_readEights_94 hl (by decide) rfl (fun ls hl => ?_)
                                    refine lv_iload hx hb dMo_readEights_96 (lv_at hl 0 rfl) ?_
                                    refine lv_iload hx hb dMo_readEights_98 (lv_at hl 1 rfl) ?_
                                    refine lv_iconst (v := nI 1) hx hb dMo_readEights_100 (by decide) ?_
                                    refine lv_icmp_ne (tgt := 111) hx hb dMo_readEights_101 (by decide) (fun h101_3 => ?_) (fun h101_3 => ?_)
                                    · skip
                                      refine lv_sipush (v := nI 128) hx hb dMo_readEights_111 (by decide) ?_
                                      refine lv_iload hx hb dMo_readEights_114 (lv_at hl 1 rfl) ?_
                                      refine lv_iconst (v := nI 1) hx hb dMo_readEights_116 (by decide) ?_
                                      refine lv_icmp_ne (tgt := 127) hx hb dMo_readEights_117 (by decide) (fun h117_3 => ?_) (fun h117_3 => ?_)
                                      · skip
                                        refine lv_sipush (v := nI 191) hx hb dMo_readEights_127 (by decide) ?_
                                        refine ca_i (wr := [(mo, .inr (5, [.int (nI I.length), .ref xI, .int (nI L.length), .ref xL, .int (nI O.length), .ref xO, .int (nI K.length), .ref xK, .int md, .ref xR, .int wr, .ref xW, .int at_, .long nu, .long vl, .long pc_, .int bs, .int (nI 0), .int (nI 3)])), (xI, .inl (cA, 120, .inl gI)), (xL, .inl (cA, 120, .inl gL)), (xO, .inl (cA, 400, .inl gO)), (xK, .inl (cA, 120, .inl gK)), (xR, .inl (cA, 121, .inl gR)), (xW, .inl (cA, 1000, .inl gW))]) (va_runS (As := [.int (un I (p0 + 3)), .int (nI 128), .int (nI 191)]) (rest := []) Xf (k_Mo_isIn l D cA _ (un I (p0 + 3)) 128 191 (by omega) (by omega)) ⟨cb_of 3 hw w_455 w_7 w_453 (by decide +kernel) (by rw [hR]; exact ⟨Nat.le_of_ble_eq_true rfl, Nat.le_of_ble_eq_true rfl⟩), hw _ w_454⟩ (pre_S hP hD hK hn [] rfl (by decide)) rfl rfl hl.1 rfl (lv_room (Nat.le_of_ble_eq_true rfl)) dMo_readEights_130 ⟨Nat.zero_le _, Nat.zero_le _⟩) hP hD hS hA [] [0, 1, 2, 3, 4, 5, 6] rfl rfl (by decide) (by decide) (fun r130 u_ H locs hq_ hP hD hS => ?_)
                                        rcases hq_ with ⟨hk130_6, rfl⟩ | ⟨hk130_6, rfl⟩
                                        · skip
                                          replace hP : va_P D vwCl [(mo, .inr (5, [.int (nI I.length), .ref xI, .int (nI L.length), .ref xL, .int (nI O.length), .ref xO, .int (nI K.length), .ref xK, .int md, .ref xR, .int wr, .ref xW, .int at_, .long nu, .long vl, .long pc_, .int bs, .int (nI 0), .int (nI 3)])), (xI, .inl (cA, 120, .inl gI)), (xL, .inl (cA, 120, .inl gL)), (xO, .inl (cA, 400, .inl gO)), (xK, .inl (cA, 120, .inl gK)), (xR, .inl (cA, 121, .inl gR)), (xW, .inl (cA, 1000, .inl gW))] H := hP.sub [0, 1, 2, 3, 4, 5, 6] rfl
                                          replace hD : va_D A [(mo, .inr (5, [.int (nI I.length), .ref xI, .int (nI L.length), .ref xL, .int (nI O.length), .ref xO, .int (nI K.length), .ref xK, .int md, .ref xR, .int wr, .ref xW, .int at_, .long nu, .long vl, .long pc_, .int bs, .int (nI 0), .int (nI 3)])), (xI, .inl (cA, 120, .inl gI)), (xL, .inl (cA, 120, .inl gL)), (xO, .inl (cA, 400, .inl gO)), (xK, .inl (cA, 120, .inl gK)), (xR, .inl (cA, 121, .inl gR)), (xW, .inl (cA, 1000, .inl gW))] := hD.sub [0, 1, 2, 3, 4, 5, 6] (by decide) rfl
                                          have ho3 : ok3 (un I (p0 + 3)) = true := decide_eq_true ⟨by omega, by omega⟩
                                          obtain ⟨g1_3, g2_3⟩ := ok3_r ho3
                                          obtain ⟨ea_3, eb_3, ec_3⟩ := tn_of g1_3 (by decide)
                                          refine lv_if_ne (tgt := 138) hx hb dMo_readEights_133 (by decide) (fun h133_3 => ?_) (fun h133_3 => ?_)
                                          · skip
                                            refine lv_bipush (v := nI 64) hx hb dMo_readEights_138 (by decide) ?_
                                            refine lv_iload hx hb dMo_readEights_140 (lv_at hl 2 rfl) ?_
                                            refine lv_imul hx hb dMo_readEights_142 ?_
                                            refine lv_rei (y := nI ((((tn (un I p0) - 240) * 64 + tn (un I (p0 + 1)) - 128) * 64 + tn (un I (p0 + 2)) - 128) * 64)) (by rw [pk_mul, Nat.mul_comm]) ?_
                                            refine lv_iload hx hb dMo_readEights_143 (lv_at hl 0 rfl) ?_
                                            refine lv_iadd hx hb dMo_readEights_145 ?_
                                            refine lv_rei (y := nI ((((tn (un I p0) - 240) * 64 + tn (un I (p0 + 1)) - 128) * 64 + tn (un I (p0 + 2)) - 128) * 64 + tn (un I (p0 + 3)))) (add_r ea_3) ?_
                                            refine lv_sipush (v := nI 128) hx hb dMo_readEights_146 (by decide) ?_
                                            refine lv_isub hx hb dMo_readEights_149 ?_
                                            refine lv_rei (y := nI ((((tn (un I p0) - 240) * 64 + tn (un I (p0 + 1)) - 128) * 64 + tn (un I (p0 + 2)) - 128) * 64 + tn (un I (p0 + 3)) - 128)) (pk_sub (by omega)) ?_
                                            refine lv_istore (lv' := [(4, .int (nI ((((tn (un I p0) - 240) * 64 + tn (un I (p0 + 1)) - 128) * 64 + tn (un I (p0 + 2)) - 128) * 64 + tn (un I (p0 + 3)) - 128))), (6, .int (un I (p0 + 3))), (5, .int (nI 3)), (3, .int (nI 4)), (2, .int (un I p0)), (0, .ref mo), (1, .int (nI p0))]) hx hb dMo_readEights_150 hl (by decide) rfl (fun ls hl => ?_)
                                            refine lv_aload_n hx hb dMo_readEights_152 rfl (lv_at hl 5 rfl) ?_
                                            refine lv_aload_n hx hb dMo_readEights_153 rfl (lv_at hl 5 rfl) ?_
                                            refine va_get (D := D) (ci := 5) (v := .int (nI 3)) (C := R_Mo) (T := T_Mo) (N := 19) hx hb hw in_Mo hown hK hP 0 rfl rfl 18 (by decide) (hw _ w_382) (fun _ h9 => h9) rfl dMo_readEights_154 ?_
                                            refine lv_iconst (v := nI 1) hx hb dMo_readEights_157 (by decide) ?_
                                            refine lv_iadd hx hb dMo_readEights_158 ?_
                                            refine lv_rei (y := nI 4) (by decide) ?_
                                            refine va_put (D := D) (ci := 5) (v := .int (nI 4)) (ty := .int) (C := R_Mo) (T := T_Mo) (N := 19) hx hb hw in_Mo ty_Mo ty_Mo_ok nm_Mo hown hK hP hD hS 0 rfl rfl 18 (by decide) (hw _ w_382) (fun _ h9 => h9) rfl (by decide +kernel) rfl rfl (Nat.le_of_ble_eq_true rfl) dMo_readEights_159 (fun H locs hP hD hS => ?_)
                                            have hP : va_P D vwCl [(mo, .inr (5, [.int (nI I.length), .ref xI, .int (nI L.length), .ref xL, .int (nI O.length), .ref xO, .int (nI K.length), .ref xK, .int md, .ref xR, .int wr, .ref xW, .int at_, .long nu, .long vl, .long pc_, .int bs, .int (nI 0), .int (nI 4)])), (xI, .inl (cA, 120, .inl gI)), (xL, .inl (cA, 120, .inl gL)), (xO, .inl (cA, 400, .inl gO)), (xK, .inl (cA, 120, .inl gK)), (xR, .inl (cA, 121, .inl gR)), (xW, .inl (cA, 1000, .inl gW))] H := hP
                                            have hD : va_D A [(mo, .inr (5, [.int (nI I.length), .ref xI, .int (nI L.length), .ref xL, .int (nI O.length), .ref xO, .int (nI K.length), .ref xK, .int md, .ref xR, .int wr, .ref xW, .int at_, .long nu, .long vl, .long pc_, .int bs, .int (nI 0), .int (nI 4)])), (xI, .inl (cA, 120, .inl gI)), (xL, .inl (cA, 120, .inl gL)), (xO, .inl (cA, 400, .inl gO)), (xK, .inl (cA, 120, .inl gK)), (xR, .inl (cA, 121, .inl gR)), (xW, .inl (cA, 1000, .inl gW))] := hD
                                            refine lv_iinc (k := 2) (v := nI 4) (lv' := [(5, .int (nI 4)), (4, .int (nI ((((tn (un I p0) - 240) * 64 + tn (un I (p0 + 1)) - 128) * 64 + tn (un I (p0 + 2)) - 128) * 64 + tn (un I (p0 + 3)) - 128))), (6, .int (un I (p0 + 3))), (3, .int (nI 4)), (2, .int (un I p0)), (0, .ref mo), (1, .int (nI p0))]) hx hb dMo_readEights_162 hl rfl (by decide) (by decide) rfl (fun ls hl => ?_)
                                            refine lv_goto (tgt := 80) hx hb dMo_readEights_165 (by decide) ?_
                                            refine lv_iload hx hb dMo_readEights_80 (lv_at hl 0 rfl) ?_
                                            refine lv_iload_n hx hb dMo_readEights_82 rfl (lv_at hl 3 rfl) ?_
                                            refine lv_icmp_ge (tgt := 168) hx hb dMo_readEights_83 (by decide) (fun h83_4 => ?_) (fun h83_4 => ?_)
                                            · skip
                                              refine lv_aload_n hx hb dMo_readEights_168 rfl (lv_at hl 5 rfl) ?_
                                              refine lv_iload_n hx hb dMo_readEights_169 rfl (lv_at hl 3 rfl) ?_
                                              refine va_put (D := D) (ci := 5) (v := .int (nI 4)) (ty := .int) (C := R_Mo) (T := T_Mo) (N := 19) hx hb hw in_Mo ty_Mo ty_Mo_ok nm_Mo hown hK hP hD hS 0 rfl rfl 17 (by decide) (hw _ w_381) (fun _ h9 => h9) rfl (by decide +kernel) rfl rfl (Nat.le_of_ble_eq_true rfl) dMo_readEights_170 (fun H locs hP hD hS => ?_)
                                              have hP : va_P D vwCl [(mo, .inr (5, [.int (nI I.length), .ref xI, .int (nI L.length), .ref xL, .int (nI O.length), .ref xO, .int (nI K.length), .ref xK, .int md, .ref xR, .int wr, .ref xW, .int at_, .long nu, .long vl, .long pc_, .int bs, .int (nI 4), .int (nI 4)])), (xI, .inl (cA, 120, .inl gI)), (xL, .inl (cA, 120, .inl gL)), (xO, .inl (cA, 400, .inl gO)), (xK, .inl (cA, 120, .inl gK)), (xR, .inl (cA, 121, .inl gR)), (xW, .inl (cA, 1000, .inl gW))] H := hP
                                              have hD : va_D A [(mo, .inr (5, [.int (nI I.length), .ref xI, .int (nI L.length), .ref xL, .int (nI O.length), .ref xO, .int (nI K.length), .ref xK, .int md, .ref xR, .int wr, .ref xW, .int at_, .long nu, .long vl, .long pc_, .int bs, .int (nI 4), .int (nI 4)])), (xI, .inl (cA, 120, .inl gI)), (xL, .inl (cA, 120, .inl gL)), (xO, .inl (cA, 400, .inl gO)), (xK, .inl (cA, 120, .inl gK)), (xR, .inl (cA, 121, .inl gR)), (xW, .inl (cA, 1000, .inl gW))] := hD
                                              refine lv_iload hx hb dMo_readEights_173 (lv_at hl 1 rfl) ?_
                                              have er : rd8 (un I) p0 = (some ((((tn (un I p0) - 240) * 64 + tn (un I (p0 + 1)) - 128) * 64 + tn (un I (p0 + 2)) - 128) * 64 + tn (un I (p0 + 3)) - 128), 4) := by simp [rd8, e8, ho1, ho2, ho3]
                                              replace hP : va_P D vwCl [(mo, .inr (5, [.int (nI I.length), .ref xI, .int (nI L.length), .ref xL, .int (nI O.length), .ref xO, .int (nI K.length), .ref xK, .int md, .ref xR, .int wr, .ref xW, .int at_, .long nu, .long vl, .long pc_, .int bs, .int (tkv (rd8 (un I) p0)), .int (nI ((rd8 (un I) p0).2))])), (xI, .inl (cA, 120, .inl gI)), (xL, .inl (cA, 120, .inl gL)), (xO, .inl (cA, 400, .inl gO)), (xK, .inl (cA, 120, .inl gK)), (xR, .inl (cA, 121, .inl gR)), (xW, .inl (cA, 1000, .inl gW))] H := by rw [er]; exact hP
                                              replace hD : va_D A [(mo, .inr (5, [.int (nI I.length), .ref xI, .int (nI L.length), .ref xL, .int (nI O.length), .ref xO, .int (nI K.length), .ref xK, .int md, .ref xR, .int wr, .ref xW, .int at_, .long nu, .long vl, .long pc_, .int bs, .int (tkv (rd8 (un I) p0)), .int (nI ((rd8 (un I) p0).2))])), (xI, .inl (cA, 120, .inl gI)), (xL, .inl (cA, 120, .inl gL)), (xO, .inl (cA, 400, .inl gO)), (xK, .inl (cA, 120, .inl gK)), (xR, .inl (cA, 121, .inl gR)), (xW, .inl (cA, 1000, .inl gW))] := by rw [er]; exact hD
                                              exact ret () dMo_readEights_175 rfl (by rw [er]; rfl) hP hD hS
                                            · skip
                                              exact absurd h83_4 (by decide)
                                          · skip
                                            exact absurd h133_3 (by decide)
                                        · skip
                                          replace hP : va_P D vwCl [(mo, .inr (5, [.int (nI I.length), .ref xI, .int (nI L.length), .ref xL, .int (nI O.length), .ref xO, .int (nI K.length), .ref xK, .int md, .ref xR, .int wr, .ref xW, .int at_, .long nu, .long vl, .long pc_, .int bs, .int (nI 0), .int (nI 3)])), (xI, .inl (cA, 120, .inl gI)), (xL, .inl (cA, 120, .inl gL)), (xO, .inl (cA, 400, .inl gO)), (xK, .inl (cA, 120, .inl gK)), (xR, .inl (cA, 121, .inl gR)), (xW, .inl (cA, 1000, .inl gW))] H := hP.sub [0, 1, 2, 3, 4, 5, 6] rfl
                                          replace hD : va_D A [(mo, .inr (5, [.int (nI I.length), .ref xI, .int (nI L.length), .ref xL, .int (nI O.length), .ref xO, .int (nI K.length), .ref xK, .int md, .ref xR, .int wr, .ref xW, .int at_, .long nu, .long vl, .long pc_, .int bs, .int (nI 0), .int (nI 3)])), (xI, .inl (cA, 120, .inl gI)), (xL, .inl (cA, 120, .inl gL)), (xO, .inl (cA, 400, .inl gO)), (xK, .inl (cA, 120, .inl gK)), (xR, .inl (cA, 121, .inl gR)), (xW, .inl (cA, 1000, .inl gW))] := hD.sub [0, 1, 2, 3, 4, 5, 6] (by decide) rfl
                                          have ho3 : ok3 (un I (p0 + 3)) = false := decide_eq_false (by omega)
                                          refine lv_if_ne (tgt := 138) hx hb dMo_readEights_133 (by decide) (fun h133_3 => ?_) (fun h133_3 => ?_)
                                          · skip
                                            exact absurd h133_3 (by decide)
                                          · skip
                                            refine lv_iconst (v := (-1)) hx hb dMo_readEights_136 (by decide) ?_
                                            have er : rd8 (un I) p0 = (none, 3) := by simp [rd8, e8, ho1, ho2, ho3]
                                            replace hP : va_P D vwCl [(mo, .inr (5, [.int (nI I.length), .ref xI, .int (nI L.length), .ref xL, .int (nI O.length), .ref xO, .int (nI K.length), .ref xK, .int md, .ref xR, .int wr, .ref xW, .int at_, .long nu, .long vl, .long pc_, .int bs, .int (tkv (rd8 (un I) p0)), .int (nI ((rd8 (un I) p0).2))])), (xI, .inl (cA, 120, .inl gI)), (xL, .inl (cA, 120, .inl gL)), (xO, .inl (cA, 400, .inl gO)), (xK, .inl (cA, 120, .inl gK)), (xR, .inl (cA, 121, .inl gR)), (xW, .inl (cA, 1000, .inl gW))] H := by rw [er]; exact hP
                                            replace hD : va_D A [(mo, .inr (5, [.int (nI I.length), .ref xI, .int (nI L.length), .ref xL, .int (nI O.length), .ref xO, .int (nI K.length), .ref xK, .int md, .ref xR, .int wr, .ref xW, .int at_, .long nu, .long vl, .long pc_, .int bs, .int (tkv (rd8 (un I) p0)), .int (nI ((rd8 (un I) p0).2))])), (xI, .inl (cA, 120, .inl gI)), (xL, .inl (cA, 120, .inl gL)), (xO, .inl (cA, 400, .inl gO)), (xK, .inl (cA, 120, .inl gK)), (xR, .inl (cA, 121, .inl gR)), (xW, .inl (cA, 1000, .inl gW))] := by rw [er]; exact hD
                                            exact ret () dMo_readEights_137 rfl (by rw [er]; rfl) hP hD hS
                                      · skip
                                        exact absurd h117_3 (by decide)
                                    · skip
                                      exact absurd h101_3 (by decide)
                                · skip
                                  exact absurd h133_2 (by decide)
                              · skip
                                replace hP : va_P D vwCl [(mo, .inr (5, [.int (nI I.length), .ref xI, .int (nI L.length), .ref xL, .int (nI O.length), .ref xO, .int (nI K.length), .ref xK, .int md, .ref xR, .int wr, .ref xW, .int at_, .long nu, .long vl, .long pc_, .int bs, .int (nI 0), .int (nI 2)])), (xI, .inl (cA, 120, .inl gI)), (xL, .inl (cA, 120, .inl gL)), (xO, .inl (cA, 400, .inl gO)), (xK, .inl (cA, 120, .inl gK)), (xR, .inl (cA, 121, .inl gR)), (xW, .inl (cA, 1000, .inl gW))] H := hP.sub [0, 1, 2, 3, 4, 5, 6] rfl
                                replace hD : va_D A [(mo, .inr (5, [.int (nI I.length), .ref xI, .int (nI L.length), .ref xL, .int (nI O.length), .ref xO, .int (nI K.length), .ref xK, .int md, .ref xR, .int wr, .ref xW, .int at_, .long nu, .long vl, .long pc_, .int bs, .int (nI 0), .int (nI 2)])), (xI, .inl (cA, 120, .inl gI)), (xL, .inl (cA, 120, .inl gL)), (xO, .inl (cA, 400, .inl gO)), (xK, .inl (cA, 120, .inl gK)), (xR, .inl (cA, 121, .inl gR)), (xW, .inl (cA, 1000, .inl gW))] := hD.sub [0, 1, 2, 3, 4, 5, 6] (by decide) rfl
                                have ho2 : ok3 (un I (p0 + 2)) = false := decide_eq_false (by omega)
                                refine lv_if_ne (tgt := 138) hx hb dMo_readEights_133 (by decide) (fun h133_2 => ?_) (fun h133_2 => ?_)
                                · skip
                                  exact absurd h133_2 (by decide)
                                · skip
                                  refine lv_iconst (v := (-1)) hx hb dMo_readEights_136 (by decide) ?_
                                  have er : rd8 (un I) p0 = (none, 2) := by simp [rd8, e8, ho1, ho2]
                                  replace hP : va_P D vwCl [(mo, .inr (5, [.int (nI I.length), .ref xI, .int (nI L.length), .ref xL, .int (nI O.length), .ref xO, .int (nI K.length), .ref xK, .int md, .ref xR, .int wr, .ref xW, .int at_, .long nu, .long vl, .long pc_, .int bs, .int (tkv (rd8 (un I) p0)), .int (nI ((rd8 (un I) p0).2))])), (xI, .inl (cA, 120, .inl gI)), (xL, .inl (cA, 120, .inl gL)), (xO, .inl (cA, 400, .inl gO)), (xK, .inl (cA, 120, .inl gK)), (xR, .inl (cA, 121, .inl gR)), (xW, .inl (cA, 1000, .inl gW))] H := by rw [er]; exact hP
                                  replace hD : va_D A [(mo, .inr (5, [.int (nI I.length), .ref xI, .int (nI L.length), .ref xL, .int (nI O.length), .ref xO, .int (nI K.length), .ref xK, .int md, .ref xR, .int wr, .ref xW, .int at_, .long nu, .long vl, .long pc_, .int bs, .int (tkv (rd8 (un I) p0)), .int (nI ((rd8 (un I) p0).2))])), (xI, .inl (cA, 120, .inl gI)), (xL, .inl (cA, 120, .inl gL)), (xO, .inl (cA, 400, .inl gO)), (xK, .inl (cA, 120, .inl gK)), (xR, .inl (cA, 121, .inl gR)), (xW, .inl (cA, 1000, .inl gW))] := by rw [er]; exact hD
                                  exact ret () dMo_readEights_137 rfl (by rw [er]; rfl) hP hD hS
                            · skip
                              exact absurd h117_2 (by decide)
                          · skip
                            exact absurd h101_2 (by decide)
                      · skip
                        exact absurd h133 (by decide)
                    · skip
                      replace hP : va_P D vwCl [(mo, .inr (5, [.int (nI I.length), .ref xI, .int (nI L.length), .ref xL, .int (nI O.length), .ref xO, .int (nI K.length), .ref xK, .int md, .ref xR, .int wr, .ref xW, .int at_, .long nu, .long vl, .long pc_, .int bs, .int (nI 0), .int (nI 1)])), (xI, .inl (cA, 120, .inl gI)), (xL, .inl (cA, 120, .inl gL)), (xO, .inl (cA, 400, .inl gO)), (xK, .inl (cA, 120, .inl gK)), (xR, .inl (cA, 121, .inl gR)), (xW, .inl (cA, 1000, .inl gW))] H := hP.sub [0, 1, 2, 3, 4, 5, 6] rfl
                      replace hD : va_D A [(mo, .inr (5, [.int (nI I.length), .ref xI, .int (nI L.length), .ref xL, .int (nI O.length), .ref xO, .int (nI K.length), .ref xK, .int md, .ref xR, .int wr, .ref xW, .int at_, .long nu, .long vl, .long pc_, .int bs, .int (nI 0), .int (nI 1)])), (xI, .inl (cA, 120, .inl gI)), (xL, .inl (cA, 120, .inl gL)), (xO, .inl (cA, 400, .inl gO)), (xK, .inl (cA, 120, .inl gK)), (xR, .inl (cA, 121, .inl gR)), (xW, .inl (cA, 1000, .inl gW))] := hD.sub [0, 1, 2, 3, 4, 5, 6] (by decide) rfl
                      rw [l2N_i, h2N_i] at hk130_4
                      have ho1 : ok2 (un I p0) (un I (p0 + 1)) = false := decide_eq_false hk130_4
                      refine lv_if_ne (tgt := 138) hx hb dMo_readEights_133 (by decide) (fun h133 => ?_) (fun h133 => ?_)
                      · skip
                        exact absurd h133 (by decide)
                      · skip
                        refine lv_iconst (v := (-1)) hx hb dMo_readEights_136 (by decide) ?_
                        have er : rd8 (un I) p0 = (none, 1) := by simp [rd8, e8, ho1]
                        replace hP : va_P D vwCl [(mo, .inr (5, [.int (nI I.length), .ref xI, .int (nI L.length), .ref xL, .int (nI O.length), .ref xO, .int (nI K.length), .ref xK, .int md, .ref xR, .int wr, .ref xW, .int at_, .long nu, .long vl, .long pc_, .int bs, .int (tkv (rd8 (un I) p0)), .int (nI ((rd8 (un I) p0).2))])), (xI, .inl (cA, 120, .inl gI)), (xL, .inl (cA, 120, .inl gL)), (xO, .inl (cA, 400, .inl gO)), (xK, .inl (cA, 120, .inl gK)), (xR, .inl (cA, 121, .inl gR)), (xW, .inl (cA, 1000, .inl gW))] H := by rw [er]; exact hP
                        replace hD : va_D A [(mo, .inr (5, [.int (nI I.length), .ref xI, .int (nI L.length), .ref xL, .int (nI O.length), .ref xO, .int (nI K.length), .ref xK, .int md, .ref xR, .int wr, .ref xW, .int at_, .long nu, .long vl, .long pc_, .int bs, .int (tkv (rd8 (un I) p0)), .int (nI ((rd8 (un I) p0).2))])), (xI, .inl (cA, 120, .inl gI)), (xL, .inl (cA, 120, .inl gL)), (xO, .inl (cA, 400, .inl gO)), (xK, .inl (cA, 120, .inl gK)), (xR, .inl (cA, 121, .inl gR)), (xW, .inl (cA, 1000, .inl gW))] := by rw [er]; exact hD
                        exact ret () dMo_readEights_137 rfl (by rw [er]; rfl) hP hD hS
            · skip
              exact absurd h59 (by decide)
          · skip
            exact absurd h46 (by decide)
        · skip
          exact absurd h37 (by decide)
      · skip
        exact absurd h30 (by decide)
set_option maxHeartbeats 4000000 in
set_option maxRecDepth 100000 in
theorem k_Mo_readSixteens (l : Launch) (D : va_G) (cA : ClassId) (sz : Nat) (mo xI xL xO xK xR xW : Nat) (I L O K : List Int32) (gI gL gO gK gR gW : Nat → Int32) (md wr at_ : Int32) (nu vl pc_ : Int64) (bs tk gd : Int32) (p0 : Nat) (hfI : Hd gI I) (hcI : I.length ≤ 120) (hfL : Hd gL L) (hcL : L.length ≤ 120) (hfO : Hd gO O) (hcO : O.length ≤ 400) (hfK : Hd gK K) (hcK : K.length ≤ 120) (hp0 : p0 < 2 ^ 30) : KI l D cA y_Mo_readSixteens c_Mo_readSixteens 4 .int 1 22 [.ref mo, .int (nI p0)] sz [(mo, .inr (5, [.int (nI I.length), .ref xI, .int (nI L.length), .ref xL, .int (nI O.length), .ref xO, .int (nI K.length), .ref xK, .int md, .ref xR, .int wr, .ref xW, .int at_, .long nu, .long vl, .long pc_, .int bs, .int tk, .int gd])), (xI, .inl (cA, 120, .inl gI)), (xL, .inl (cA, 120, .inl gL)), (xO, .inl (cA, 400, .inl gO)), (xK, .inl (cA, 120, .inl gK)), (xR, .inl (cA, 121, .inl gR)), (xW, .inl (cA, 1000, .inl gW))] (S := Unit) (fun r _ => r = ov (rd16 (un I) p0).1) (fun _ => [(mo, .inr (5, [.int (nI I.length), .ref xI, .int (nI L.length), .ref xL, .int (nI O.length), .ref xO, .int (nI K.length), .ref xK, .int md, .ref xR, .int wr, .ref xW, .int at_, .long nu, .long vl, .long pc_, .int bs, .int (tkv (rd16 (un I) p0)), .int (nI ((rd16 (un I) p0).2))])), (xI, .inl (cA, 120, .inl gI)), (xL, .inl (cA, 120, .inl gL)), (xO, .inl (cA, 400, .inl gO)), (xK, .inl (cA, 120, .inl gK)), (xR, .inl (cA, 121, .inl gR)), (xW, .inl (cA, 1000, .inl gW))]) := by
  refine KI.of (by decide) (Nat.le_of_ble_eq_true rfl) ?_
  intro p e s m args below meth c Q R A ls Xf hR hA hS hP hD hK hn hl ret
  have hx := Xf.1
  have hb := Xf.2.1
  have hown : s.vm.findClass "ScalarScribeModel" = some m.cls := Xf.2.2.2.1
  have hw := Xf.2.2.2.2
  have hl : lv_has ls 4 [(0, .ref mo), (1, .int (nI p0))] := hl
  refine lv_aload_n hx hb dMo_readSixteens_0 rfl (lv_at hl 0 rfl) ?_
  refine lv_iload_n hx hb dMo_readSixteens_1 rfl (lv_at hl 1 rfl) ?_
  refine ca_i (wr := []) (va_runV (As := [.int (nI p0)]) (rest := []) Xf (k_Mo_unit l D cA _ mo xI xL xO xK xR xW I L O K gI gL gO gK gR gW md wr at_ nu vl pc_ bs tk gd p0 hfI hcI hfL hcL hfO hcO hfK hcK (by omega)) ⟨cb_of 1 hw w_449 w_7 w_446 (by decide +kernel) (by rw [hR]; exact ⟨Nat.le_of_ble_eq_true rfl, Nat.le_of_ble_eq_true rfl⟩), hw _ w_448, hw _ ws_17⟩ (pre_V (As := [.int (nI p0)]) hP hD hK hn [0, 1, 2, 3, 4, 5, 6] rfl (by decide) 0 5 rfl rfl) rfl rfl hl.1 rfl (lv_room (Nat.le_of_ble_eq_true rfl)) dMo_readSixteens_2 ⟨Nat.zero_le _, Nat.zero_le _⟩) hP hD hS hA [0, 1, 2, 3, 4, 5, 6] [] rfl rfl (by decide) (by decide) (fun r2 u_ H locs hq_ hP hD hS => ?_)
  obtain rfl : r2 = un I p0 := hq_
  replace hP : va_P D vwCl [(mo, .inr (5, [.int (nI I.length), .ref xI, .int (nI L.length), .ref xL, .int (nI O.length), .ref xO, .int (nI K.length), .ref xK, .int md, .ref xR, .int wr, .ref xW, .int at_, .long nu, .long vl, .long pc_, .int bs, .int tk, .int gd])), (xI, .inl (cA, 120, .inl gI)), (xL, .inl (cA, 120, .inl gL)), (xO, .inl (cA, 400, .inl gO)), (xK, .inl (cA, 120, .inl gK)), (xR, .inl (cA, 121, .inl gR)), (xW, .inl (cA, 1000, .inl gW))] H := hP.sub [0, 1, 2, 3, 4, 5, 6] rfl
  replace hD : va_D A [(mo, .inr (5, [.int (nI I.length), .ref xI, .int (nI L.length), .ref xL, .int (nI O.length), .ref xO, .int (nI K.length), .ref xK, .int md, .ref xR, .int wr, .ref xW, .int at_, .long nu, .long vl, .long pc_, .int bs, .int tk, .int gd])), (xI, .inl (cA, 120, .inl gI)), (xL, .inl (cA, 120, .inl gL)), (xO, .inl (cA, 400, .inl gO)), (xK, .inl (cA, 120, .inl gK)), (xR, .inl (cA, 121, .inl gR)), (xW, .inl (cA, 1000, .inl gW))] := hD.sub [0, 1, 2, 3, 4, 5, 6] (by decide) rfl
  refine lv_istore_n (lv' := [(2, .int (un I p0)), (0, .ref mo), (1, .int (nI p0))]) hx hb dMo_readSixteens_5 rfl hl (by decide) rfl (fun ls hl => ?_)
  refine lv_aload_n hx hb dMo_readSixteens_6 rfl (lv_at hl 1 rfl) ?_
  refine lv_iconst (v := nI 0) hx hb dMo_readSixteens_7 (by decide) ?_
  refine va_put (D := D) (ci := 5) (v := .int (nI 0)) (ty := .int) (C := R_Mo) (T := T_Mo) (N := 19) hx hb hw in_Mo ty_Mo ty_Mo_ok nm_Mo hown hK hP hD hS 0 rfl rfl 17 (by decide) (hw _ w_381) (fun _ h9 => h9) rfl (by decide +kernel) rfl rfl (Nat.le_of_ble_eq_true rfl) dMo_readSixteens_8 (fun H locs hP hD hS => ?_)
  have hP : va_P D vwCl [(mo, .inr (5, [.int (nI I.length), .ref xI, .int (nI L.length), .ref xL, .int (nI O.length), .ref xO, .int (nI K.length), .ref xK, .int md, .ref xR, .int wr, .ref xW, .int at_, .long nu, .long vl, .long pc_, .int bs, .int (nI 0), .int gd])), (xI, .inl (cA, 120, .inl gI)), (xL, .inl (cA, 120, .inl gL)), (xO, .inl (cA, 400, .inl gO)), (xK, .inl (cA, 120, .inl gK)), (xR, .inl (cA, 121, .inl gR)), (xW, .inl (cA, 1000, .inl gW))] H := hP
  have hD : va_D A [(mo, .inr (5, [.int (nI I.length), .ref xI, .int (nI L.length), .ref xL, .int (nI O.length), .ref xO, .int (nI K.length), .ref xK, .int md, .ref xR, .int wr, .ref xW, .int at_, .long nu, .long vl, .long pc_, .int bs, .int (nI 0), .int gd])), (xI, .inl (cA, 120, .inl gI)), (xL, .inl (cA, 120, .inl gL)), (xO, .inl (cA, 400, .inl gO)), (xK, .inl (cA, 120, .inl gK)), (xR, .inl (cA, 121, .inl gR)), (xW, .inl (cA, 1000, .inl gW))] := hD
  refine lv_aload_n hx hb dMo_readSixteens_11 rfl (lv_at hl 1 rfl) ?_
  refine lv_iconst (v := nI 0) hx hb dMo_readSixteens_12 (by decide) ?_
  refine va_put (D := D) (ci := 5) (v := .int (nI 0)) (ty := .int) (C := R_Mo) (T := T_Mo) (N := 19) hx hb hw in_Mo ty_Mo ty_Mo_ok nm_Mo hown hK hP hD hS 0 rfl rfl 18 (by decide) (hw _ w_382) (fun _ h9 => h9) rfl (by decide +kernel) rfl rfl (Nat.le_of_ble_eq_true rfl) dMo_readSixteens_13 (fun H locs hP hD hS => ?_)
  have hP : va_P D vwCl [(mo, .inr (5, [.int (nI I.length), .ref xI, .int (nI L.length), .ref xL, .int (nI O.length), .ref xO, .int (nI K.length), .ref xK, .int md, .ref xR, .int wr, .ref xW, .int at_, .long nu, .long vl, .long pc_, .int bs, .int (nI 0), .int (nI 0)])), (xI, .inl (cA, 120, .inl gI)), (xL, .inl (cA, 120, .inl gL)), (xO, .inl (cA, 400, .inl gO)), (xK, .inl (cA, 120, .inl gK)), (xR, .inl (cA, 121, .inl gR)), (xW, .inl (cA, 1000, .inl gW))] H := hP
  have hD : va_D A [(mo, .inr (5, [.int (nI I.length), .ref xI, .int (nI L.length), .ref xL, .int (nI O.length), .ref xO, .int (nI K.length), .ref xK, .int md, .ref xR, .int wr, .ref xW, .int at_, .long nu, .long vl, .long pc_, .int bs, .int (nI 0), .int (nI 0)])), (xI, .inl (cA, 120, .inl gI)), (xL, .inl (cA, 120, .inl gL)), (xO, .inl (cA, 400, .inl gO)), (xK, .inl (cA, 120, .inl gK)), (xR, .inl (cA, 121, .inl gR)), (xW, .inl (cA, 1000, .inl gW))] := hD
  refine lv_iload_n hx hb dMo_readSixteens_16 rfl (lv_at hl 0 rfl) ?_
  refine lv_iconst (v := nI 0) hx hb dMo_readSixteens_17 (by decide) ?_
  refine lv_ldc (v := nI 65535) hx hb hown (hw _ w_466) dMo_readSixteens_18 ?_
  refine ca_i (wr := [(mo, .inr (5, [.int (nI I.length), .ref xI, .int (nI L.length), .ref xL, .int (nI O.length), .ref xO, .int (nI K.length), .ref xK, .int md, .ref xR, .int wr, .ref xW, .int at_, .long nu, .long vl, .long pc_, .int bs, .int (nI 0), .int (nI 0)])), (xI, .inl (cA, 120, .inl gI)), (xL, .inl (cA, 120, .inl gL)), (xO, .inl (cA, 400, .inl gO)), (xK, .inl (cA, 120, .inl gK)), (xR, .inl (cA, 121, .inl gR)), (xW, .inl (cA, 1000, .inl gW))]) (va_runS (As := [.int (un I p0), .int (nI 0), .int (nI 65535)]) (rest := []) Xf (k_Mo_isIn l D cA _ (un I p0) 0 65535 (by omega) (by omega)) ⟨cb_of 3 hw w_455 w_7 w_453 (by decide +kernel) (by rw [hR]; exact ⟨Nat.le_of_ble_eq_true rfl, Nat.le_of_ble_eq_true rfl⟩), hw _ w_454⟩ (pre_S hP hD hK hn [] rfl (by decide)) rfl rfl hl.1 rfl (lv_room (Nat.le_of_ble_eq_true rfl)) dMo_readSixteens_20 ⟨Nat.zero_le _, Nat.zero_le _⟩) hP hD hS hA [] [0, 1, 2, 3, 4, 5, 6] rfl rfl (by decide) (by decide) (fun r20 u_ H locs hq_ hP hD hS => ?_)
  rcases hq_ with ⟨hk20_1, rfl⟩ | ⟨hk20_1, rfl⟩
  · skip
    replace hP : va_P D vwCl [(mo, .inr (5, [.int (nI I.length), .ref xI, .int (nI L.length), .ref xL, .int (nI O.length), .ref xO, .int (nI K.length), .ref xK, .int md, .ref xR, .int wr, .ref xW, .int at_, .long nu, .long vl, .long pc_, .int bs, .int (nI 0), .int (nI 0)])), (xI, .inl (cA, 120, .inl gI)), (xL, .inl (cA, 120, .inl gL)), (xO, .inl (cA, 400, .inl gO)), (xK, .inl (cA, 120, .inl gK)), (xR, .inl (cA, 121, .inl gR)), (xW, .inl (cA, 1000, .inl gW))] H := hP.sub [0, 1, 2, 3, 4, 5, 6] rfl
    replace hD : va_D A [(mo, .inr (5, [.int (nI I.length), .ref xI, .int (nI L.length), .ref xL, .int (nI O.length), .ref xO, .int (nI K.length), .ref xK, .int md, .ref xR, .int wr, .ref xW, .int at_, .long nu, .long vl, .long pc_, .int bs, .int (nI 0), .int (nI 0)])), (xI, .inl (cA, 120, .inl gI)), (xL, .inl (cA, 120, .inl gL)), (xO, .inl (cA, 400, .inl gO)), (xK, .inl (cA, 120, .inl gK)), (xR, .inl (cA, 121, .inl gR)), (xW, .inl (cA, 1000, .inl gW))] := hD.sub [0, 1, 2, 3, 4, 5, 6] (by decide) rfl
    refine lv_if_eq (tgt := 37) hx hb dMo_readSixteens_23 (by decide) (fun h23 => ?_) (fun h23 => ?_)
    · skip
      exact absurd h23 (by decide)
    · skip
      refine lv_iload_n hx hb dMo_readSixteens_26 rfl (lv_at hl 0 rfl) ?_
      refine lv_ldc (v := nI 56320) hx hb hown (hw _ w_467) dMo_readSixteens_27 ?_
      refine lv_ldc (v := nI 57343) hx hb hown (hw _ w_468) dMo_readSixteens_29 ?_
      refine ca_i (wr := [(mo, .inr (5, [.int (nI I.length), .ref xI, .int (nI L.length), .ref xL, .int (nI O.length), .ref xO, .int (nI K.length), .ref xK, .int md, .ref xR, .int wr, .ref xW, .int at_, .long nu, .long vl, .long pc_, .int bs, .int (nI 0), .int (nI 0)])), (xI, .inl (cA, 120, .inl gI)), (xL, .inl (cA, 120, .inl gL)), (xO, .inl (cA, 400, .inl gO)), (xK, .inl (cA, 120, .inl gK)), (xR, .inl (cA, 121, .inl gR)), (xW, .inl (cA, 1000, .inl gW))]) (va_runS (As := [.int (un I p0), .int (nI 56320), .int (nI 57343)]) (rest := []) Xf (k_Mo_isIn l D cA _ (un I p0) 56320 57343 (by omega) (by omega)) ⟨cb_of 3 hw w_455 w_7 w_453 (by decide +kernel) (by rw [hR]; exact ⟨Nat.le_of_ble_eq_true rfl, Nat.le_of_ble_eq_true rfl⟩), hw _ w_454⟩ (pre_S hP hD hK hn [] rfl (by decide)) rfl rfl hl.1 rfl (lv_room (Nat.le_of_ble_eq_true rfl)) dMo_readSixteens_31 ⟨Nat.zero_le _, Nat.zero_le _⟩) hP hD hS hA [] [0, 1, 2, 3, 4, 5, 6] rfl rfl (by decide) (by decide) (fun r31 u_ H locs hq_ hP hD hS => ?_)
      rcases hq_ with ⟨hk31_2, rfl⟩ | ⟨hk31_2, rfl⟩
      · skip
        replace hP : va_P D vwCl [(mo, .inr (5, [.int (nI I.length), .ref xI, .int (nI L.length), .ref xL, .int (nI O.length), .ref xO, .int (nI K.length), .ref xK, .int md, .ref xR, .int wr, .ref xW, .int at_, .long nu, .long vl, .long pc_, .int bs, .int (nI 0), .int (nI 0)])), (xI, .inl (cA, 120, .inl gI)), (xL, .inl (cA, 120, .inl gL)), (xO, .inl (cA, 400, .inl gO)), (xK, .inl (cA, 120, .inl gK)), (xR, .inl (cA, 121, .inl gR)), (xW, .inl (cA, 1000, .inl gW))] H := hP.sub [0, 1, 2, 3, 4, 5, 6] rfl
        replace hD : va_D A [(mo, .inr (5, [.int (nI I.length), .ref xI, .int (nI L.length), .ref xL, .int (nI O.length), .ref xO, .int (nI K.length), .ref xK, .int md, .ref xR, .int wr, .ref xW, .int at_, .long nu, .long vl, .long pc_, .int bs, .int (nI 0), .int (nI 0)])), (xI, .inl (cA, 120, .inl gI)), (xL, .inl (cA, 120, .inl gL)), (xO, .inl (cA, 400, .inl gO)), (xK, .inl (cA, 120, .inl gK)), (xR, .inl (cA, 121, .inl gR)), (xW, .inl (cA, 1000, .inl gW))] := hD.sub [0, 1, 2, 3, 4, 5, 6] (by decide) rfl
        refine lv_if_eq (tgt := 39) hx hb dMo_readSixteens_34 (by decide) (fun h34 => ?_) (fun h34 => ?_)
        · skip
          exact absurd h34 (by decide)
        · skip
          refine lv_iconst (v := (-1)) hx hb dMo_readSixteens_37 (by decide) ?_
          have er : rd16 (un I) p0 = (none, 0) := by unfold rd16; (repeat' split) <;> first | omega | rfl
          replace hP : va_P D vwCl [(mo, .inr (5, [.int (nI I.length), .ref xI, .int (nI L.length), .ref xL, .int (nI O.length), .ref xO, .int (nI K.length), .ref xK, .int md, .ref xR, .int wr, .ref xW, .int at_, .long nu, .long vl, .long pc_, .int bs, .int (tkv (rd16 (un I) p0)), .int (nI ((rd16 (un I) p0).2))])), (xI, .inl (cA, 120, .inl gI)), (xL, .inl (cA, 120, .inl gL)), (xO, .inl (cA, 400, .inl gO)), (xK, .inl (cA, 120, .inl gK)), (xR, .inl (cA, 121, .inl gR)), (xW, .inl (cA, 1000, .inl gW))] H := by rw [er]; exact hP
          replace hD : va_D A [(mo, .inr (5, [.int (nI I.length), .ref xI, .int (nI L.length), .ref xL, .int (nI O.length), .ref xO, .int (nI K.length), .ref xK, .int md, .ref xR, .int wr, .ref xW, .int at_, .long nu, .long vl, .long pc_, .int bs, .int (tkv (rd16 (un I) p0)), .int (nI ((rd16 (un I) p0).2))])), (xI, .inl (cA, 120, .inl gI)), (xL, .inl (cA, 120, .inl gL)), (xO, .inl (cA, 400, .inl gO)), (xK, .inl (cA, 120, .inl gK)), (xR, .inl (cA, 121, .inl gR)), (xW, .inl (cA, 1000, .inl gW))] := by rw [er]; exact hD
          exact ret () dMo_readSixteens_38 rfl (by rw [er]; rfl) hP hD hS
      · skip
        replace hP : va_P D vwCl [(mo, .inr (5, [.int (nI I.length), .ref xI, .int (nI L.length), .ref xL, .int (nI O.length), .ref xO, .int (nI K.length), .ref xK, .int md, .ref xR, .int wr, .ref xW, .int at_, .long nu, .long vl, .long pc_, .int bs, .int (nI 0), .int (nI 0)])), (xI, .inl (cA, 120, .inl gI)), (xL, .inl (cA, 120, .inl gL)), (xO, .inl (cA, 400, .inl gO)), (xK, .inl (cA, 120, .inl gK)), (xR, .inl (cA, 121, .inl gR)), (xW, .inl (cA, 1000, .inl gW))] H := hP.sub [0, 1, 2, 3, 4, 5, 6] rfl
        replace hD : va_D A [(mo, .inr (5, [.int (nI I.length), .ref xI, .int (nI L.length), .ref xL, .int (nI O.length), .ref xO, .int (nI K.length), .ref xK, .int md, .ref xR, .int wr, .ref xW, .int at_, .long nu, .long vl, .long pc_, .int bs, .int (nI 0), .int (nI 0)])), (xI, .inl (cA, 120, .inl gI)), (xL, .inl (cA, 120, .inl gL)), (xO, .inl (cA, 400, .inl gO)), (xK, .inl (cA, 120, .inl gK)), (xR, .inl (cA, 121, .inl gR)), (xW, .inl (cA, 1000, .inl gW))] := hD.sub [0, 1, 2, 3, 4, 5, 6] (by decide) rfl
        refine lv_if_eq (tgt := 39) hx hb dMo_readSixteens_34 (by decide) (fun h34 => ?_) (fun h34 => ?_)
        · skip
          refine lv_aload_n hx hb dMo_readSixteens_39 rfl (lv_at hl 1 rfl) ?_
          refine lv_iconst (v := nI 1) hx hb dMo_readSixteens_40 (by decide) ?_
          refine va_put (D := D) (ci := 5) (v := .int (nI 1)) (ty := .int) (C := R_Mo) (T := T_Mo) (N := 19) hx hb hw in_Mo ty_Mo ty_Mo_ok nm_Mo hown hK hP hD hS 0 rfl rfl 18 (by decide) (hw _ w_382) (fun _ h9 => h9) rfl (by decide +kernel) rfl rfl (Nat.le_of_ble_eq_true rfl) dMo_readSixteens_41 (fun H locs hP hD hS => ?_)
          have hP : va_P D vwCl [(mo, .inr (5, [.int (nI I.length), .ref xI, .int (nI L.length), .ref xL, .int (nI O.length), .ref xO, .int (nI K.length), .ref xK, .int md, .ref xR, .int wr, .ref xW, .int at_, .long nu, .long vl, .long pc_, .int bs, .int (nI 0), .int (nI 1)])), (xI, .inl (cA, 120, .inl gI)), (xL, .inl (cA, 120, .inl gL)), (xO, .inl (cA, 400, .inl gO)), (xK, .inl (cA, 120, .inl gK)), (xR, .inl (cA, 121, .inl gR)), (xW, .inl (cA, 1000, .inl gW))] H := hP
          have hD : va_D A [(mo, .inr (5, [.int (nI I.length), .ref xI, .int (nI L.length), .ref xL, .int (nI O.length), .ref xO, .int (nI K.length), .ref xK, .int md, .ref xR, .int wr, .ref xW, .int at_, .long nu, .long vl, .long pc_, .int bs, .int (nI 0), .int (nI 1)])), (xI, .inl (cA, 120, .inl gI)), (xL, .inl (cA, 120, .inl gL)), (xO, .inl (cA, 400, .inl gO)), (xK, .inl (cA, 120, .inl gK)), (xR, .inl (cA, 121, .inl gR)), (xW, .inl (cA, 1000, .inl gW))] := hD
          refine lv_iload_n hx hb dMo_readSixteens_44 rfl (lv_at hl 0 rfl) ?_
          refine lv_ldc (v := nI 55296) hx hb hown (hw _ w_469) dMo_readSixteens_45 ?_
          refine lv_ldc (v := nI 56319) hx hb hown (hw _ w_470) dMo_readSixteens_47 ?_
          refine ca_i (wr := [(mo, .inr (5, [.int (nI I.length), .ref xI, .int (nI L.length), .ref xL, .int (nI O.length), .ref xO, .int (nI K.length), .ref xK, .int md, .ref xR, .int wr, .ref xW, .int at_, .long nu, .long vl, .long pc_, .int bs, .int (nI 0), .int (nI 1)])), (xI, .inl (cA, 120, .inl gI)), (xL, .inl (cA, 120, .inl gL)), (xO, .inl (cA, 400, .inl gO)), (xK, .inl (cA, 120, .inl gK)), (xR, .inl (cA, 121, .inl gR)), (xW, .inl (cA, 1000, .inl gW))]) (va_runS (As := [.int (un I p0), .int (nI 55296), .int (nI 56319)]) (rest := []) Xf (k_Mo_isIn l D cA _ (un I p0) 55296 56319 (by omega) (by omega)) ⟨cb_of 3 hw w_455 w_7 w_453 (by decide +kernel) (by rw [hR]; exact ⟨Nat.le_of_ble_eq_true rfl, Nat.le_of_ble_eq_true rfl⟩), hw _ w_454⟩ (pre_S hP hD hK hn [] rfl (by decide)) rfl rfl hl.1 rfl (lv_room (Nat.le_of_ble_eq_true rfl)) dMo_readSixteens_49 ⟨Nat.zero_le _, Nat.zero_le _⟩) hP hD hS hA [] [0, 1, 2, 3, 4, 5, 6] rfl rfl (by decide) (by decide) (fun r49 u_ H locs hq_ hP hD hS => ?_)
          rcases hq_ with ⟨hk49_3, rfl⟩ | ⟨hk49_3, rfl⟩
          · skip
            replace hP : va_P D vwCl [(mo, .inr (5, [.int (nI I.length), .ref xI, .int (nI L.length), .ref xL, .int (nI O.length), .ref xO, .int (nI K.length), .ref xK, .int md, .ref xR, .int wr, .ref xW, .int at_, .long nu, .long vl, .long pc_, .int bs, .int (nI 0), .int (nI 1)])), (xI, .inl (cA, 120, .inl gI)), (xL, .inl (cA, 120, .inl gL)), (xO, .inl (cA, 400, .inl gO)), (xK, .inl (cA, 120, .inl gK)), (xR, .inl (cA, 121, .inl gR)), (xW, .inl (cA, 1000, .inl gW))] H := hP.sub [0, 1, 2, 3, 4, 5, 6] rfl
            replace hD : va_D A [(mo, .inr (5, [.int (nI I.length), .ref xI, .int (nI L.length), .ref xL, .int (nI O.length), .ref xO, .int (nI K.length), .ref xK, .int md, .ref xR, .int wr, .ref xW, .int at_, .long nu, .long vl, .long pc_, .int bs, .int (nI 0), .int (nI 1)])), (xI, .inl (cA, 120, .inl gI)), (xL, .inl (cA, 120, .inl gL)), (xO, .inl (cA, 400, .inl gO)), (xK, .inl (cA, 120, .inl gK)), (xR, .inl (cA, 121, .inl gR)), (xW, .inl (cA, 1000, .inl gW))] := hD.sub [0, 1, 2, 3, 4, 5, 6] (by decide) rfl
            obtain ⟨ea, eb, ec⟩ := tn_of hk49_3.1 (by decide)
            refine lv_if_ne (tgt := 62) hx hb dMo_readSixteens_52 (by decide) (fun h52 => ?_) (fun h52 => ?_)
            · skip
              refine lv_aload_n hx hb dMo_readSixteens_62 rfl (lv_at hl 1 rfl) ?_
              refine lv_iload_n hx hb dMo_readSixteens_63 rfl (lv_at hl 2 rfl) ?_
              refine lv_iconst (v := nI 1) hx hb dMo_readSixteens_64 (by decide) ?_
              refine lv_iadd hx hb dMo_readSixteens_65 ?_
              refine lv_rei (y := nI (p0 + 1)) (nI_add _ _) ?_
              refine ca_i (wr := []) (va_runV (As := [.int (nI (p0 + 1))]) (rest := []) Xf (k_Mo_unit l D cA _ mo xI xL xO xK xR xW I L O K gI gL gO gK gR gW md wr at_ nu vl pc_ bs (nI 0) (nI 1) (p0 + 1) hfI hcI hfL hcL hfO hcO hfK hcK (by omega)) ⟨cb_of 1 hw w_449 w_7 w_446 (by decide +kernel) (by rw [hR]; exact ⟨Nat.le_of_ble_eq_true rfl, Nat.le_of_ble_eq_true rfl⟩), hw _ w_448, hw _ ws_17⟩ (pre_V (As := [.int (nI (p0 + 1))]) hP hD hK hn [0, 1, 2, 3, 4, 5, 6] rfl (by decide) 0 5 rfl rfl) rfl rfl hl.1 rfl (lv_room (Nat.le_of_ble_eq_true rfl)) dMo_readSixteens_66 ⟨Nat.zero_le _, Nat.zero_le _⟩) hP hD hS hA [0, 1, 2, 3, 4, 5, 6] [] rfl rfl (by decide) (by decide) (fun r66 u_ H locs hq_ hP hD hS => ?_)
              obtain rfl : r66 = un I (p0 + 1) := hq_
              replace hP : va_P D vwCl [(mo, .inr (5, [.int (nI I.length), .ref xI, .int (nI L.length), .ref xL, .int (nI O.length), .ref xO, .int (nI K.length), .ref xK, .int md, .ref xR, .int wr, .ref xW, .int at_, .long nu, .long vl, .long pc_, .int bs, .int (nI 0), .int (nI 1)])), (xI, .inl (cA, 120, .inl gI)), (xL, .inl (cA, 120, .inl gL)), (xO, .inl (cA, 400, .inl gO)), (xK, .inl (cA, 120, .inl gK)), (xR, .inl (cA, 121, .inl gR)), (xW, .inl (cA, 1000, .inl gW))] H := hP.sub [0, 1, 2, 3, 4, 5, 6] rfl
              replace hD : va_D A [(mo, .inr (5, [.int (nI I.length), .ref xI, .int (nI L.length), .ref xL, .int (nI O.length), .ref xO, .int (nI K.length), .ref xK, .int md, .ref xR, .int wr, .ref xW, .int at_, .long nu, .long vl, .long pc_, .int bs, .int (nI 0), .int (nI 1)])), (xI, .inl (cA, 120, .inl gI)), (xL, .inl (cA, 120, .inl gL)), (xO, .inl (cA, 400, .inl gO)), (xK, .inl (cA, 120, .inl gK)), (xR, .inl (cA, 121, .inl gR)), (xW, .inl (cA, 1000, .inl gW))] := hD.sub [0, 1, 2, 3, 4, 5, 6] (by decide) rfl
              refine lv_istore_n (lv' := [(3, .int (un I (p0 + 1))), (2, .int (un I p0)), (0, .ref mo), (1, .int (nI p0))]) hx hb dMo_readSixteens_69 rfl hl (by decide) rfl (fun ls hl => ?_)
              refine lv_iload_n hx hb dMo_readSixteens_70 rfl (lv_at hl 0 rfl) ?_
              refine lv_ldc (v := nI 56320) hx hb hown (hw _ w_467) dMo_readSixteens_71 ?_
              refine lv_ldc (v := nI 57343) hx hb hown (hw _ w_468) dMo_readSixteens_73 ?_
              refine ca_i (wr := [(mo, .inr (5, [.int (nI I.length), .ref xI, .int (nI L.length), .ref xL, .int (nI O.length), .ref xO, .int (nI K.length), .ref xK, .int md, .ref xR, .int wr, .ref xW, .int at_, .long nu, .long vl, .long pc_, .int bs, .int (nI 0), .int (nI 1)])), (xI, .inl (cA, 120, .inl gI)), (xL, .inl (cA, 120, .inl gL)), (xO, .inl (cA, 400, .inl gO)), (xK, .inl (cA, 120, .inl gK)), (xR, .inl (cA, 121, .inl gR)), (xW, .inl (cA, 1000, .inl gW))]) (va_runS (As := [.int (un I (p0 + 1)), .int (nI 56320), .int (nI 57343)]) (rest := []) Xf (k_Mo_isIn l D cA _ (un I (p0 + 1)) 56320 57343 (by omega) (by omega)) ⟨cb_of 3 hw w_455 w_7 w_453 (by decide +kernel) (by rw [hR]; exact ⟨Nat.le_of_ble_eq_true rfl, Nat.le_of_ble_eq_true rfl⟩), hw _ w_454⟩ (pre_S hP hD hK hn [] rfl (by decide)) rfl rfl hl.1 rfl (lv_room (Nat.le_of_ble_eq_true rfl)) dMo_readSixteens_75 ⟨Nat.zero_le _, Nat.zero_le _⟩) hP hD hS hA [] [0, 1, 2, 3, 4, 5, 6] rfl rfl (by decide) (by decide) (fun r75 u_ H locs hq_ hP hD hS => ?_)
              rcases hq_ with ⟨hk75_4, rfl⟩ | ⟨hk75_4, rfl⟩
              · skip
                replace hP : va_P D vwCl [(mo, .inr (5, [.int (nI I.length), .ref xI, .int (nI L.length), .ref xL, .int (nI O.length), .ref xO, .int (nI K.length), .ref xK, .int md, .ref xR, .int wr, .ref xW, .int at_, .long nu, .long vl, .long pc_, .int bs, .int (nI 0), .int (nI 1)])), (xI, .inl (cA, 120, .inl gI)), (xL, .inl (cA, 120, .inl gL)), (xO, .inl (cA, 400, .inl gO)), (xK, .inl (cA, 120, .inl gK)), (xR, .inl (cA, 121, .inl gR)), (xW, .inl (cA, 1000, .inl gW))] H := hP.sub [0, 1, 2, 3, 4, 5, 6] rfl
                replace hD : va_D A [(mo, .inr (5, [.int (nI I.length), .ref xI, .int (nI L.length), .ref xL, .int (nI O.length), .ref xO, .int (nI K.length), .ref xK, .int md, .ref xR, .int wr, .ref xW, .int at_, .long nu, .long vl, .long pc_, .int bs, .int (nI 0), .int (nI 1)])), (xI, .inl (cA, 120, .inl gI)), (xL, .inl (cA, 120, .inl gL)), (xO, .inl (cA, 400, .inl gO)), (xK, .inl (cA, 120, .inl gK)), (xR, .inl (cA, 121, .inl gR)), (xW, .inl (cA, 1000, .inl gW))] := hD.sub [0, 1, 2, 3, 4, 5, 6] (by decide) rfl
                obtain ⟨ea2, eb2, ec2⟩ := tn_of hk75_4.1 (by decide)
                refine lv_if_ne (tgt := 83) hx hb dMo_readSixteens_78 (by decide) (fun h78 => ?_) (fun h78 => ?_)
                · skip
                  refine lv_aload_n hx hb dMo_readSixteens_83 rfl (lv_at hl 2 rfl) ?_
                  refine lv_iconst (v := nI 2) hx hb dMo_readSixteens_84 (by decide) ?_
                  refine va_put (D := D) (ci := 5) (v := .int (nI 2)) (ty := .int) (C := R_Mo) (T := T_Mo) (N := 19) hx hb hw in_Mo ty_Mo ty_Mo_ok nm_Mo hown hK hP hD hS 0 rfl rfl 18 (by decide) (hw _ w_382) (fun _ h9 => h9) rfl (by decide +kernel) rfl rfl (Nat.le_of_ble_eq_true rfl) dMo_readSixteens_85 (fun H locs hP hD hS => ?_)
                  have hP : va_P D vwCl [(mo, .inr (5, [.int (nI I.length), .ref xI, .int (nI L.length), .ref xL, .int (nI O.length), .ref xO, .int (nI K.length), .ref xK, .int md, .ref xR, .int wr, .ref xW, .int at_, .long nu, .long vl, .long pc_, .int bs, .int (nI 0), .int (nI 2)])), (xI, .inl (cA, 120, .inl gI)), (xL, .inl (cA, 120, .inl gL)), (xO, .inl (cA, 400, .inl gO)), (xK, .inl (cA, 120, .inl gK)), (xR, .inl (cA, 121, .inl gR)), (xW, .inl (cA, 1000, .inl gW))] H := hP
                  have hD : va_D A [(mo, .inr (5, [.int (nI I.length), .ref xI, .int (nI L.length), .ref xL, .int (nI O.length), .ref xO, .int (nI K.length), .ref xK, .int md, .ref xR, .int wr, .ref xW, .int at_, .long nu, .long vl, .long pc_, .int bs, .int (nI 0), .int (nI 2)])), (xI, .inl (cA, 120, .inl gI)), (xL, .inl (cA, 120, .inl gL)), (xO, .inl (cA, 400, .inl gO)), (xK, .inl (cA, 120, .inl gK)), (xR, .inl (cA, 121, .inl gR)), (xW, .inl (cA, 1000, .inl gW))] := hD
                  refine lv_aload_n hx hb dMo_readSixteens_88 rfl (lv_at hl 2 rfl) ?_
                  refine lv_iconst (v := nI 2) hx hb dMo_readSixteens_89 (by decide) ?_
                  refine va_put (D := D) (ci := 5) (v := .int (nI 2)) (ty := .int) (C := R_Mo) (T := T_Mo) (N := 19) hx hb hw in_Mo ty_Mo ty_Mo_ok nm_Mo hown hK hP hD hS 0 rfl rfl 17 (by decide) (hw _ w_381) (fun _ h9 => h9) rfl (by decide +kernel) rfl rfl (Nat.le_of_ble_eq_true rfl) dMo_readSixteens_90 (fun H locs hP hD hS => ?_)
                  have hP : va_P D vwCl [(mo, .inr (5, [.int (nI I.length), .ref xI, .int (nI L.length), .ref xL, .int (nI O.length), .ref xO, .int (nI K.length), .ref xK, .int md, .ref xR, .int wr, .ref xW, .int at_, .long nu, .long vl, .long pc_, .int bs, .int (nI 2), .int (nI 2)])), (xI, .inl (cA, 120, .inl gI)), (xL, .inl (cA, 120, .inl gL)), (xO, .inl (cA, 400, .inl gO)), (xK, .inl (cA, 120, .inl gK)), (xR, .inl (cA, 121, .inl gR)), (xW, .inl (cA, 1000, .inl gW))] H := hP
                  have hD : va_D A [(mo, .inr (5, [.int (nI I.length), .ref xI, .int (nI L.length), .ref xL, .int (nI O.length), .ref xO, .int (nI K.length), .ref xK, .int md, .ref xR, .int wr, .ref xW, .int at_, .long nu, .long vl, .long pc_, .int bs, .int (nI 2), .int (nI 2)])), (xI, .inl (cA, 120, .inl gI)), (xL, .inl (cA, 120, .inl gL)), (xO, .inl (cA, 400, .inl gO)), (xK, .inl (cA, 120, .inl gK)), (xR, .inl (cA, 121, .inl gR)), (xW, .inl (cA, 1000, .inl gW))] := hD
                  refine lv_ldc (v := nI 65536) hx hb hown (hw _ w_471) dMo_readSixteens_93 ?_
                  refine lv_sipush (v := nI 1024) hx hb dMo_readSixteens_95 (by decide) ?_
                  refine lv_iload_n hx hb dMo_readSixteens_98 rfl (lv_at hl 1 rfl) ?_
                  refine lv_ldc (v := nI 55296) hx hb hown (hw _ w_469) dMo_readSixteens_99 ?_
                  refine lv_isub hx hb dMo_readSixteens_101 ?_
                  refine lv_rei (y := nI (tn (un I p0) - 55296)) (sub_r ea (by omega)) ?_
                  refine lv_imul hx hb dMo_readSixteens_102 ?_
                  refine lv_rei (y := nI ((tn (un I p0) - 55296) * 1024)) (by rw [pk_mul, Nat.mul_comm]) ?_
                  refine lv_iadd hx hb dMo_readSixteens_103 ?_
                  refine lv_rei (y := nI (65536 + ((tn (un I p0) - 55296) * 1024))) (nI_add _ _) ?_
                  refine lv_iload_n hx hb dMo_readSixteens_104 rfl (lv_at hl 0 rfl) ?_
                  refine lv_iadd hx hb dMo_readSixteens_105 ?_
                  refine lv_rei (y := nI (65536 + ((tn (un I p0) - 55296) * 1024) + tn (un I (p0 + 1)))) (add_r ea2) ?_
                  refine lv_ldc (v := nI 56320) hx hb hown (hw _ w_467) dMo_readSixteens_106 ?_
                  refine lv_isub hx hb dMo_readSixteens_108 ?_
                  refine lv_rei (y := nI (65536 + (tn (un I p0) - 55296) * 1024 + (tn (un I (p0 + 1)) - 56320))) ((pk_sub (by omega)).trans (congrArg nI (by omega))) ?_
                  have er : rd16 (un I) p0 = (some (65536 + (tn (un I p0) - 55296) * 1024 + (tn (un I (p0 + 1)) - 56320)), 2) := by unfold rd16; (repeat' split) <;> first | omega | rfl
                  replace hP : va_P D vwCl [(mo, .inr (5, [.int (nI I.length), .ref xI, .int (nI L.length), .ref xL, .int (nI O.length), .ref xO, .int (nI K.length), .ref xK, .int md, .ref xR, .int wr, .ref xW, .int at_, .long nu, .long vl, .long pc_, .int bs, .int (tkv (rd16 (un I) p0)), .int (nI ((rd16 (un I) p0).2))])), (xI, .inl (cA, 120, .inl gI)), (xL, .inl (cA, 120, .inl gL)), (xO, .inl (cA, 400, .inl gO)), (xK, .inl (cA, 120, .inl gK)), (xR, .inl (cA, 121, .inl gR)), (xW, .inl (cA, 1000, .inl gW))] H := by rw [er]; exact hP
                  replace hD : va_D A [(mo, .inr (5, [.int (nI I.length), .ref xI, .int (nI L.length), .ref xL, .int (nI O.length), .ref xO, .int (nI K.length), .ref xK, .int md, .ref xR, .int wr, .ref xW, .int at_, .long nu, .long vl, .long pc_, .int bs, .int (tkv (rd16 (un I) p0)), .int (nI ((rd16 (un I) p0).2))])), (xI, .inl (cA, 120, .inl gI)), (xL, .inl (cA, 120, .inl gL)), (xO, .inl (cA, 400, .inl gO)), (xK, .inl (cA, 120, .inl gK)), (xR, .inl (cA, 121, .inl gR)), (xW, .inl (cA, 1000, .inl gW))] := by rw [er]; exact hD
                  exact ret () dMo_readSixteens_109 rfl (by rw [er]; rfl) hP hD hS
                · skip
                  exact absurd h78 (by decide)
              · skip
                replace hP : va_P D vwCl [(mo, .inr (5, [.int (nI I.length), .ref xI, .int (nI L.length), .ref xL, .int (nI O.length), .ref xO, .int (nI K.length), .ref xK, .int md, .ref xR, .int wr, .ref xW, .int at_, .long nu, .long vl, .long pc_, .int bs, .int (nI 0), .int (nI 1)])), (xI, .inl (cA, 120, .inl gI)), (xL, .inl (cA, 120, .inl gL)), (xO, .inl (cA, 400, .inl gO)), (xK, .inl (cA, 120, .inl gK)), (xR, .inl (cA, 121, .inl gR)), (xW, .inl (cA, 1000, .inl gW))] H := hP.sub [0, 1, 2, 3, 4, 5, 6] rfl
                replace hD : va_D A [(mo, .inr (5, [.int (nI I.length), .ref xI, .int (nI L.length), .ref xL, .int (nI O.length), .ref xO, .int (nI K.length), .ref xK, .int md, .ref xR, .int wr, .ref xW, .int at_, .long nu, .long vl, .long pc_, .int bs, .int (nI 0), .int (nI 1)])), (xI, .inl (cA, 120, .inl gI)), (xL, .inl (cA, 120, .inl gL)), (xO, .inl (cA, 400, .inl gO)), (xK, .inl (cA, 120, .inl gK)), (xR, .inl (cA, 121, .inl gR)), (xW, .inl (cA, 1000, .inl gW))] := hD.sub [0, 1, 2, 3, 4, 5, 6] (by decide) rfl
                refine lv_if_ne (tgt := 83) hx hb dMo_readSixteens_78 (by decide) (fun h78 => ?_) (fun h78 => ?_)
                · skip
                  exact absurd h78 (by decide)
                · skip
                  refine lv_iconst (v := (-1)) hx hb dMo_readSixteens_81 (by decide) ?_
                  have er : rd16 (un I) p0 = (none, 1) := by unfold rd16; (repeat' split) <;> first | omega | rfl
                  replace hP : va_P D vwCl [(mo, .inr (5, [.int (nI I.length), .ref xI, .int (nI L.length), .ref xL, .int (nI O.length), .ref xO, .int (nI K.length), .ref xK, .int md, .ref xR, .int wr, .ref xW, .int at_, .long nu, .long vl, .long pc_, .int bs, .int (tkv (rd16 (un I) p0)), .int (nI ((rd16 (un I) p0).2))])), (xI, .inl (cA, 120, .inl gI)), (xL, .inl (cA, 120, .inl gL)), (xO, .inl (cA, 400, .inl gO)), (xK, .inl (cA, 120, .inl gK)), (xR, .inl (cA, 121, .inl gR)), (xW, .inl (cA, 1000, .inl gW))] H := by rw [er]; exact hP
                  replace hD : va_D A [(mo, .inr (5, [.int (nI I.length), .ref xI, .int (nI L.length), .ref xL, .int (nI O.length), .ref xO, .int (nI K.length), .ref xK, .int md, .ref xR, .int wr, .ref xW, .int at_, .long nu, .long vl, .long pc_, .int bs, .int (tkv (rd16 (un I) p0)), .int (nI ((rd16 (un I) p0).2))])), (xI, .inl (cA, 120, .inl gI)), (xL, .inl (cA, 120, .inl gL)), (xO, .inl (cA, 400, .inl gO)), (xK, .inl (cA, 120, .inl gK)), (xR, .inl (cA, 121, .inl gR)), (xW, .inl (cA, 1000, .inl gW))] := by rw [er]; exact hD
                  exact ret () dMo_readSixteens_82 rfl (by rw [er]; rfl) hP hD hS
            · skip
              exact absurd h52 (by decide)
          · skip
            replace hP : va_P D vwCl [(mo, .inr (5, [.int (nI I.length), .ref xI, .int (nI L.length), .ref xL, .int (nI O.length), .ref xO, .int (nI K.length), .ref xK, .int md, .ref xR, .int wr, .ref xW, .int at_, .long nu, .long vl, .long pc_, .int bs, .int (nI 0), .int (nI 1)])), (xI, .inl (cA, 120, .inl gI)), (xL, .inl (cA, 120, .inl gL)), (xO, .inl (cA, 400, .inl gO)), (xK, .inl (cA, 120, .inl gK)), (xR, .inl (cA, 121, .inl gR)), (xW, .inl (cA, 1000, .inl gW))] H := hP.sub [0, 1, 2, 3, 4, 5, 6] rfl
            replace hD : va_D A [(mo, .inr (5, [.int (nI I.length), .ref xI, .int (nI L.length), .ref xL, .int (nI O.length), .ref xO, .int (nI K.length), .ref xK, .int md, .ref xR, .int wr, .ref xW, .int at_, .long nu, .long vl, .long pc_, .int bs, .int (nI 0), .int (nI 1)])), (xI, .inl (cA, 120, .inl gI)), (xL, .inl (cA, 120, .inl gL)), (xO, .inl (cA, 400, .inl gO)), (xK, .inl (cA, 120, .inl gK)), (xR, .inl (cA, 121, .inl gR)), (xW, .inl (cA, 1000, .inl gW))] := hD.sub [0, 1, 2, 3, 4, 5, 6] (by decide) rfl
            obtain ⟨ea, eb, ec⟩ := tn_of (show (0 : Int) ≤ (un I p0).toInt by omega) (by decide)
            refine lv_if_ne (tgt := 62) hx hb dMo_readSixteens_52 (by decide) (fun h52 => ?_) (fun h52 => ?_)
            · skip
              exact absurd h52 (by decide)
            · skip
              refine lv_aload_n hx hb dMo_readSixteens_55 rfl (lv_at hl 1 rfl) ?_
              refine lv_iconst (v := nI 1) hx hb dMo_readSixteens_56 (by decide) ?_
              refine va_put (D := D) (ci := 5) (v := .int (nI 1)) (ty := .int) (C := R_Mo) (T := T_Mo) (N := 19) hx hb hw in_Mo ty_Mo ty_Mo_ok nm_Mo hown hK hP hD hS 0 rfl rfl 17 (by decide) (hw _ w_381) (fun _ h9 => h9) rfl (by decide +kernel) rfl rfl (Nat.le_of_ble_eq_true rfl) dMo_readSixteens_57 (fun H locs hP hD hS => ?_)
              have hP : va_P D vwCl [(mo, .inr (5, [.int (nI I.length), .ref xI, .int (nI L.length), .ref xL, .int (nI O.length), .ref xO, .int (nI K.length), .ref xK, .int md, .ref xR, .int wr, .ref xW, .int at_, .long nu, .long vl, .long pc_, .int bs, .int (nI 1), .int (nI 1)])), (xI, .inl (cA, 120, .inl gI)), (xL, .inl (cA, 120, .inl gL)), (xO, .inl (cA, 400, .inl gO)), (xK, .inl (cA, 120, .inl gK)), (xR, .inl (cA, 121, .inl gR)), (xW, .inl (cA, 1000, .inl gW))] H := hP
              have hD : va_D A [(mo, .inr (5, [.int (nI I.length), .ref xI, .int (nI L.length), .ref xL, .int (nI O.length), .ref xO, .int (nI K.length), .ref xK, .int md, .ref xR, .int wr, .ref xW, .int at_, .long nu, .long vl, .long pc_, .int bs, .int (nI 1), .int (nI 1)])), (xI, .inl (cA, 120, .inl gI)), (xL, .inl (cA, 120, .inl gL)), (xO, .inl (cA, 400, .inl gO)), (xK, .inl (cA, 120, .inl gK)), (xR, .inl (cA, 121, .inl gR)), (xW, .inl (cA, 1000, .inl gW))] := hD
              refine lv_iload_n hx hb dMo_readSixteens_60 rfl (lv_at hl 0 rfl) ?_
              refine lv_rei (y := nI (tn (un I p0))) ea ?_
              have er : rd16 (un I) p0 = (some (tn (un I p0)), 1) := by unfold rd16; (repeat' split) <;> first | omega | rfl
              replace hP : va_P D vwCl [(mo, .inr (5, [.int (nI I.length), .ref xI, .int (nI L.length), .ref xL, .int (nI O.length), .ref xO, .int (nI K.length), .ref xK, .int md, .ref xR, .int wr, .ref xW, .int at_, .long nu, .long vl, .long pc_, .int bs, .int (tkv (rd16 (un I) p0)), .int (nI ((rd16 (un I) p0).2))])), (xI, .inl (cA, 120, .inl gI)), (xL, .inl (cA, 120, .inl gL)), (xO, .inl (cA, 400, .inl gO)), (xK, .inl (cA, 120, .inl gK)), (xR, .inl (cA, 121, .inl gR)), (xW, .inl (cA, 1000, .inl gW))] H := by rw [er]; exact hP
              replace hD : va_D A [(mo, .inr (5, [.int (nI I.length), .ref xI, .int (nI L.length), .ref xL, .int (nI O.length), .ref xO, .int (nI K.length), .ref xK, .int md, .ref xR, .int wr, .ref xW, .int at_, .long nu, .long vl, .long pc_, .int bs, .int (tkv (rd16 (un I) p0)), .int (nI ((rd16 (un I) p0).2))])), (xI, .inl (cA, 120, .inl gI)), (xL, .inl (cA, 120, .inl gL)), (xO, .inl (cA, 400, .inl gO)), (xK, .inl (cA, 120, .inl gK)), (xR, .inl (cA, 121, .inl gR)), (xW, .inl (cA, 1000, .inl gW))] := by rw [er]; exact hD
              exact ret () dMo_readSixteens_61 rfl (by rw [er]; rfl) hP hD hS
        · skip
          exact absurd h34 (by decide)
  · skip
    replace hP : va_P D vwCl [(mo, .inr (5, [.int (nI I.length), .ref xI, .int (nI L.length), .ref xL, .int (nI O.length), .ref xO, .int (nI K.length), .ref xK, .int md, .ref xR, .int wr, .ref xW, .int at_, .long nu, .long vl, .long pc_, .int bs, .int (nI 0), .int (nI 0)])), (xI, .inl (cA, 120, .inl gI)), (xL, .inl (cA, 120, .inl gL)), (xO, .inl (cA, 400, .inl gO)), (xK, .inl (cA, 120, .inl gK)), (xR, .inl (cA, 121, .inl gR)), (xW, .inl (cA, 1000, .inl gW))] H := hP.sub [0, 1, 2, 3, 4, 5, 6] rfl
    replace hD : va_D A [(mo, .inr (5, [.int (nI I.length), .ref xI, .int (nI L.length), .ref xL, .int (nI O.length), .ref xO, .int (nI K.length), .ref xK, .int md, .ref xR, .int wr, .ref xW, .int at_, .long nu, .long vl, .long pc_, .int bs, .int (nI 0), .int (nI 0)])), (xI, .inl (cA, 120, .inl gI)), (xL, .inl (cA, 120, .inl gL)), (xO, .inl (cA, 400, .inl gO)), (xK, .inl (cA, 120, .inl gK)), (xR, .inl (cA, 121, .inl gR)), (xW, .inl (cA, 1000, .inl gW))] := hD.sub [0, 1, 2, 3, 4, 5, 6] (by decide) rfl
    refine lv_if_eq (tgt := 37) hx hb dMo_readSixteens_23 (by decide) (fun h23 => ?_) (fun h23 => ?_)
    · skip
      refine lv_iconst (v := (-1)) hx hb dMo_readSixteens_37 (by decide) ?_
      have er : rd16 (un I) p0 = (none, 0) := by unfold rd16; (repeat' split) <;> first | omega | rfl
      replace hP : va_P D vwCl [(mo, .inr (5, [.int (nI I.length), .ref xI, .int (nI L.length), .ref xL, .int (nI O.length), .ref xO, .int (nI K.length), .ref xK, .int md, .ref xR, .int wr, .ref xW, .int at_, .long nu, .long vl, .long pc_, .int bs, .int (tkv (rd16 (un I) p0)), .int (nI ((rd16 (un I) p0).2))])), (xI, .inl (cA, 120, .inl gI)), (xL, .inl (cA, 120, .inl gL)), (xO, .inl (cA, 400, .inl gO)), (xK, .inl (cA, 120, .inl gK)), (xR, .inl (cA, 121, .inl gR)), (xW, .inl (cA, 1000, .inl gW))] H := by rw [er]; exact hP
      replace hD : va_D A [(mo, .inr (5, [.int (nI I.length), .ref xI, .int (nI L.length), .ref xL, .int (nI O.length), .ref xO, .int (nI K.length), .ref xK, .int md, .ref xR, .int wr, .ref xW, .int at_, .long nu, .long vl, .long pc_, .int bs, .int (tkv (rd16 (un I) p0)), .int (nI ((rd16 (un I) p0).2))])), (xI, .inl (cA, 120, .inl gI)), (xL, .inl (cA, 120, .inl gL)), (xO, .inl (cA, 400, .inl gO)), (xK, .inl (cA, 120, .inl gK)), (xR, .inl (cA, 121, .inl gR)), (xW, .inl (cA, 1000, .inl gW))] := by rw [er]; exact hD
      exact ret () dMo_readSixteens_38 rfl (by rw [er]; rfl) hP hD hS
    · skip
      exact absurd h23 (by decide)
set_option maxHeartbeats 4000000 in
set_option maxRecDepth 100000 in
theorem k_Mo_read8 (l : Launch) (D : va_G) (cA : ClassId) (sz : Nat) (mo xI xL xO xK xR xW : Nat) (I L O K : List Int32) (gI gL gO gK gR gW : Nat → Int32) (md wr at_ : Int32) (nu vl pc_ : Int64) (bs tk gd : Int32) (p0 : Nat) (hfI : Hd gI I) (hcI : I.length ≤ 120) (hfL : Hd gL L) (hcL : L.length ≤ 120) (hfO : Hd gO O) (hcO : O.length ≤ 400) (hfK : Hd gK K) (hcK : K.length ≤ 120) (hp0 : p0 < 2 ^ 30) : KI l D cA y_Mo_read c_Mo_read 3 .int 3 68 [.ref mo, .int (nI p0), .int (nI 1)] sz [(mo, .inr (5, [.int (nI I.length), .ref xI, .int (nI L.length), .ref xL, .int (nI O.length), .ref xO, .int (nI K.length), .ref xK, .int md, .ref xR, .int wr, .ref xW, .int at_, .long nu, .long vl, .long pc_, .int bs, .int tk, .int gd])), (xI, .inl (cA, 120, .inl gI)), (xL, .inl (cA, 120, .inl gL)), (xO, .inl (cA, 400, .inl gO)), (xK, .inl (cA, 120, .inl gK)), (xR, .inl (cA, 121, .inl gR)), (xW, .inl (cA, 1000, .inl gW))] (S := Unit) (fun r _ => r = ov (rd8 (un I) p0).1) (fun _ => [(mo, .inr (5, [.int (nI I.length), .ref xI, .int (nI L.length), .ref xL, .int (nI O.length), .ref xO, .int (nI K.length), .ref xK, .int md, .ref xR, .int wr, .ref xW, .int at_, .long nu, .long vl, .long pc_, .int bs, .int (tkv (rd8 (un I) p0)), .int (nI ((rd8 (un I) p0).2))])), (xI, .inl (cA, 120, .inl gI)), (xL, .inl (cA, 120, .inl gL)), (xO, .inl (cA, 400, .inl gO)), (xK, .inl (cA, 120, .inl gK)), (xR, .inl (cA, 121, .inl gR)), (xW, .inl (cA, 1000, .inl gW))]) := by
  refine KI.of (by decide) (Nat.le_of_ble_eq_true rfl) ?_
  intro p e s m args below meth c Q R A ls Xf hR hA hS hP hD hK hn hl ret
  have hx := Xf.1
  have hb := Xf.2.1
  have hown : s.vm.findClass "ScalarScribeModel" = some m.cls := Xf.2.2.2.1
  have hw := Xf.2.2.2.2
  have hl : lv_has ls 3 [(0, .ref mo), (1, .int (nI p0)), (2, .int (nI 1))] := hl
  refine lv_iload_n hx hb dMo_read_0 rfl (lv_at hl 2 rfl) ?_
  refine lv_if_eq (tgt := 12) hx hb dMo_read_1 (by decide) (fun h1 => ?_) (fun h1 => ?_)
  · skip
    exact absurd h1 (by decide)
  · skip
    refine lv_aload_n hx hb dMo_read_4 rfl (lv_at hl 0 rfl) ?_
    refine lv_iload_n hx hb dMo_read_5 rfl (lv_at hl 1 rfl) ?_
    refine ca_i (wr := []) (va_runV (As := [.int (nI p0)]) (rest := []) Xf (k_Mo_readEights l D cA _ mo xI xL xO xK xR xW I L O K gI gL gO gK gR gW md wr at_ nu vl pc_ bs tk gd p0 hfI hcI hfL hcL hfO hcO hfK hcK (by omega)) ⟨cb_of 1 hw w_445 w_7 w_442 (by decide +kernel) (by rw [hR]; exact ⟨Nat.le_of_ble_eq_true rfl, Nat.le_of_ble_eq_true rfl⟩), hw _ w_444, hw _ ws_16⟩ (pre_V (As := [.int (nI p0)]) hP hD hK hn [0, 1, 2, 3, 4, 5, 6] rfl (by decide) 0 5 rfl rfl) rfl rfl hl.1 rfl (lv_room (Nat.le_of_ble_eq_true rfl)) dMo_read_6 ⟨Nat.zero_le _, Nat.zero_le _⟩) hP hD hS hA [0, 1, 2, 3, 4, 5, 6] [] rfl rfl (by decide) (by decide) (fun r6 u_ H locs hq_ hP hD hS => ?_)
    obtain rfl : r6 = ov (rd8 (un I) p0).1 := hq_
    replace hP : va_P D vwCl [(mo, .inr (5, [.int (nI I.length), .ref xI, .int (nI L.length), .ref xL, .int (nI O.length), .ref xO, .int (nI K.length), .ref xK, .int md, .ref xR, .int wr, .ref xW, .int at_, .long nu, .long vl, .long pc_, .int bs, .int (tkv (rd8 (un I) p0)), .int (nI ((rd8 (un I) p0).2))])), (xI, .inl (cA, 120, .inl gI)), (xL, .inl (cA, 120, .inl gL)), (xO, .inl (cA, 400, .inl gO)), (xK, .inl (cA, 120, .inl gK)), (xR, .inl (cA, 121, .inl gR)), (xW, .inl (cA, 1000, .inl gW))] H := hP.sub [0, 1, 2, 3, 4, 5, 6] rfl
    replace hD : va_D A [(mo, .inr (5, [.int (nI I.length), .ref xI, .int (nI L.length), .ref xL, .int (nI O.length), .ref xO, .int (nI K.length), .ref xK, .int md, .ref xR, .int wr, .ref xW, .int at_, .long nu, .long vl, .long pc_, .int bs, .int (tkv (rd8 (un I) p0)), .int (nI ((rd8 (un I) p0).2))])), (xI, .inl (cA, 120, .inl gI)), (xL, .inl (cA, 120, .inl gL)), (xO, .inl (cA, 400, .inl gO)), (xK, .inl (cA, 120, .inl gK)), (xR, .inl (cA, 121, .inl gR)), (xW, .inl (cA, 1000, .inl gW))] := hD.sub [0, 1, 2, 3, 4, 5, 6] (by decide) rfl
    refine lv_goto (tgt := 17) hx hb dMo_read_9 (by decide) ?_
    exact ret () dMo_read_17 rfl rfl hP hD hS
set_option maxHeartbeats 4000000 in
set_option maxRecDepth 100000 in
theorem k_Mo_read6 (l : Launch) (D : va_G) (cA : ClassId) (sz : Nat) (mo xI xL xO xK xR xW : Nat) (I L O K : List Int32) (gI gL gO gK gR gW : Nat → Int32) (md wr at_ : Int32) (nu vl pc_ : Int64) (bs tk gd : Int32) (p0 : Nat) (hfI : Hd gI I) (hcI : I.length ≤ 120) (hfL : Hd gL L) (hcL : L.length ≤ 120) (hfO : Hd gO O) (hcO : O.length ≤ 400) (hfK : Hd gK K) (hcK : K.length ≤ 120) (hp0 : p0 < 2 ^ 30) : KI l D cA y_Mo_read c_Mo_read 3 .int 3 68 [.ref mo, .int (nI p0), .int (nI 0)] sz [(mo, .inr (5, [.int (nI I.length), .ref xI, .int (nI L.length), .ref xL, .int (nI O.length), .ref xO, .int (nI K.length), .ref xK, .int md, .ref xR, .int wr, .ref xW, .int at_, .long nu, .long vl, .long pc_, .int bs, .int tk, .int gd])), (xI, .inl (cA, 120, .inl gI)), (xL, .inl (cA, 120, .inl gL)), (xO, .inl (cA, 400, .inl gO)), (xK, .inl (cA, 120, .inl gK)), (xR, .inl (cA, 121, .inl gR)), (xW, .inl (cA, 1000, .inl gW))] (S := Unit) (fun r _ => r = ov (rd16 (un I) p0).1) (fun _ => [(mo, .inr (5, [.int (nI I.length), .ref xI, .int (nI L.length), .ref xL, .int (nI O.length), .ref xO, .int (nI K.length), .ref xK, .int md, .ref xR, .int wr, .ref xW, .int at_, .long nu, .long vl, .long pc_, .int bs, .int (tkv (rd16 (un I) p0)), .int (nI ((rd16 (un I) p0).2))])), (xI, .inl (cA, 120, .inl gI)), (xL, .inl (cA, 120, .inl gL)), (xO, .inl (cA, 400, .inl gO)), (xK, .inl (cA, 120, .inl gK)), (xR, .inl (cA, 121, .inl gR)), (xW, .inl (cA, 1000, .inl gW))]) := by
  refine KI.of (by decide) (Nat.le_of_ble_eq_true rfl) ?_
  intro p e s m args below meth c Q R A ls Xf hR hA hS hP hD hK hn hl ret
  have hx := Xf.1
  have hb := Xf.2.1
  have hown : s.vm.findClass "ScalarScribeModel" = some m.cls := Xf.2.2.2.1
  have hw := Xf.2.2.2.2
  have hl : lv_has ls 3 [(0, .ref mo), (1, .int (nI p0)), (2, .int (nI 0))] := hl
  refine lv_iload_n hx hb dMo_read_0 rfl (lv_at hl 2 rfl) ?_
  refine lv_if_eq (tgt := 12) hx hb dMo_read_1 (by decide) (fun h1 => ?_) (fun h1 => ?_)
  · skip
    refine lv_aload_n hx hb dMo_read_12 rfl (lv_at hl 0 rfl) ?_
    refine lv_iload_n hx hb dMo_read_13 rfl (lv_at hl 1 rfl) ?_
    refine ca_i (wr := []) (va_runV (As := [.int (nI p0)]) (rest := []) Xf (k_Mo_readSixteens l D cA _ mo xI xL xO xK xR xW I L O K gI gL gO gK gR gW md wr at_ nu vl pc_ bs tk gd p0 hfI hcI hfL hcL hfO hcO hfK hcK (by omega)) ⟨cb_of 1 hw w_465 w_7 w_462 (by decide +kernel) (by rw [hR]; exact ⟨Nat.le_of_ble_eq_true rfl, Nat.le_of_ble_eq_true rfl⟩), hw _ w_464, hw _ ws_18⟩ (pre_V (As := [.int (nI p0)]) hP hD hK hn [0, 1, 2, 3, 4, 5, 6] rfl (by decide) 0 5 rfl rfl) rfl rfl hl.1 rfl (lv_room (Nat.le_of_ble_eq_true rfl)) dMo_read_14 ⟨Nat.zero_le _, Nat.zero_le _⟩) hP hD hS hA [0, 1, 2, 3, 4, 5, 6] [] rfl rfl (by decide) (by decide) (fun r14 u_ H locs hq_ hP hD hS => ?_)
    obtain rfl : r14 = ov (rd16 (un I) p0).1 := hq_
    replace hP : va_P D vwCl [(mo, .inr (5, [.int (nI I.length), .ref xI, .int (nI L.length), .ref xL, .int (nI O.length), .ref xO, .int (nI K.length), .ref xK, .int md, .ref xR, .int wr, .ref xW, .int at_, .long nu, .long vl, .long pc_, .int bs, .int (tkv (rd16 (un I) p0)), .int (nI ((rd16 (un I) p0).2))])), (xI, .inl (cA, 120, .inl gI)), (xL, .inl (cA, 120, .inl gL)), (xO, .inl (cA, 400, .inl gO)), (xK, .inl (cA, 120, .inl gK)), (xR, .inl (cA, 121, .inl gR)), (xW, .inl (cA, 1000, .inl gW))] H := hP.sub [0, 1, 2, 3, 4, 5, 6] rfl
    replace hD : va_D A [(mo, .inr (5, [.int (nI I.length), .ref xI, .int (nI L.length), .ref xL, .int (nI O.length), .ref xO, .int (nI K.length), .ref xK, .int md, .ref xR, .int wr, .ref xW, .int at_, .long nu, .long vl, .long pc_, .int bs, .int (tkv (rd16 (un I) p0)), .int (nI ((rd16 (un I) p0).2))])), (xI, .inl (cA, 120, .inl gI)), (xL, .inl (cA, 120, .inl gL)), (xO, .inl (cA, 400, .inl gO)), (xK, .inl (cA, 120, .inl gK)), (xR, .inl (cA, 121, .inl gR)), (xW, .inl (cA, 1000, .inl gW))] := hD.sub [0, 1, 2, 3, 4, 5, 6] (by decide) rfl
    exact ret () dMo_read_17 rfl rfl hP hD hS
  · skip
    exact absurd h1 (by decide)
