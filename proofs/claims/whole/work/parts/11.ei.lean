set_option maxHeartbeats 4000000 in
set_option maxRecDepth 100000 in
theorem k_Ei_sizeBehind (l : Launch) (D : va_G) (cA : ClassId) (sz : Nat) (a : Int32)  : KI l D cA y_Ei_sizeBehind c_Ei_sizeBehind 1 .int 0 0 [.int a] sz [] (S := Unit) (fun r _ => r = nI (sz8 a)) (fun _ => []) := by
  refine KI.of (by decide) (Nat.le_of_ble_eq_true rfl) ?_
  intro p e s m args below meth c Q R A ls Xf hR hA hS hP hD hK hn hl ret
  have hx := Xf.1
  have hb := Xf.2.1
  have hown : s.vm.findClass "ScalarScribe$Eights" = some m.cls := Xf.2.2.2.1
  have hw := Xf.2.2.2.2
  have hl : lv_has ls 1 [(0, .int a)] := hl
  refine lv_iload_n hx hb dEi_sizeBehind_0 rfl (lv_at hl 0 rfl) ?_
  refine lv_if_lt (tgt := 11) hx hb dEi_sizeBehind_1 (by decide) (fun h1 => ?_) (fun h1 => ?_)
  · skip
    rw [Int32.lt_iff_toInt_lt, Int32.toInt_zero] at h1
    refine lv_iconst (v := nI 0) hx hb dEi_sizeBehind_11 (by decide) ?_
    exact ret () dEi_sizeBehind_12 rfl (congrArg nI (show 0 = sz8 a from by unfold sz8; (repeat' split) <;> omega)) hP hD hS
  · skip
    rw [Int32.lt_iff_toInt_lt, Int32.toInt_zero] at h1
    refine lv_iload_n hx hb dEi_sizeBehind_4 rfl (lv_at hl 0 rfl) ?_
    refine lv_sipush (v := nI 244) hx hb dEi_sizeBehind_5 (by decide) ?_
    refine lv_icmp_le (tgt := 13) hx hb dEi_sizeBehind_8 (by decide) (fun h8 => ?_) (fun h8 => ?_)
    · skip
      rw [Int32.le_iff_toInt_le, nI_toInt (n := 244) (by omega)] at h8
      refine lv_iload_n hx hb dEi_sizeBehind_13 rfl (lv_at hl 0 rfl) ?_
      refine lv_sipush (v := nI 128) hx hb dEi_sizeBehind_14 (by decide) ?_
      refine lv_icmp_ge (tgt := 22) hx hb dEi_sizeBehind_17 (by decide) (fun h17 => ?_) (fun h17 => ?_)
      · skip
        rw [Int32.le_iff_toInt_le, nI_toInt (n := 128) (by omega)] at h17
        refine lv_iload_n hx hb dEi_sizeBehind_22 rfl (lv_at hl 0 rfl) ?_
        refine lv_sipush (v := nI 194) hx hb dEi_sizeBehind_23 (by decide) ?_
        refine lv_icmp_ge (tgt := 31) hx hb dEi_sizeBehind_26 (by decide) (fun h26 => ?_) (fun h26 => ?_)
        · skip
          rw [Int32.le_iff_toInt_le, nI_toInt (n := 194) (by omega)] at h26
          refine lv_iload_n hx hb dEi_sizeBehind_31 rfl (lv_at hl 0 rfl) ?_
          refine lv_sipush (v := nI 224) hx hb dEi_sizeBehind_32 (by decide) ?_
          refine lv_icmp_ge (tgt := 40) hx hb dEi_sizeBehind_35 (by decide) (fun h35 => ?_) (fun h35 => ?_)
          · skip
            rw [Int32.le_iff_toInt_le, nI_toInt (n := 224) (by omega)] at h35
            refine lv_iload_n hx hb dEi_sizeBehind_40 rfl (lv_at hl 0 rfl) ?_
            refine lv_sipush (v := nI 240) hx hb dEi_sizeBehind_41 (by decide) ?_
            refine lv_icmp_ge (tgt := 51) hx hb dEi_sizeBehind_44 (by decide) (fun h44 => ?_) (fun h44 => ?_)
            · skip
              rw [Int32.le_iff_toInt_le, nI_toInt (n := 240) (by omega)] at h44
              refine lv_iconst (v := nI 4) hx hb dEi_sizeBehind_51 (by decide) ?_
              exact ret () dEi_sizeBehind_52 rfl (congrArg nI (show 4 = sz8 a from by unfold sz8; (repeat' split) <;> omega)) hP hD hS
            · skip
              rw [Int32.le_iff_toInt_le, nI_toInt (n := 240) (by omega)] at h44
              refine lv_iconst (v := nI 3) hx hb dEi_sizeBehind_47 (by decide) ?_
              refine lv_goto (tgt := 52) hx hb dEi_sizeBehind_48 (by decide) ?_
              exact ret () dEi_sizeBehind_52 rfl (congrArg nI (show 3 = sz8 a from by unfold sz8; (repeat' split) <;> omega)) hP hD hS
          · skip
            rw [Int32.le_iff_toInt_le, nI_toInt (n := 224) (by omega)] at h35
            refine lv_iconst (v := nI 2) hx hb dEi_sizeBehind_38 (by decide) ?_
            exact ret () dEi_sizeBehind_39 rfl (congrArg nI (show 2 = sz8 a from by unfold sz8; (repeat' split) <;> omega)) hP hD hS
        · skip
          rw [Int32.le_iff_toInt_le, nI_toInt (n := 194) (by omega)] at h26
          refine lv_iconst (v := nI 0) hx hb dEi_sizeBehind_29 (by decide) ?_
          exact ret () dEi_sizeBehind_30 rfl (congrArg nI (show 0 = sz8 a from by unfold sz8; (repeat' split) <;> omega)) hP hD hS
      · skip
        rw [Int32.le_iff_toInt_le, nI_toInt (n := 128) (by omega)] at h17
        refine lv_iconst (v := nI 1) hx hb dEi_sizeBehind_20 (by decide) ?_
        exact ret () dEi_sizeBehind_21 rfl (congrArg nI (show 1 = sz8 a from by unfold sz8; (repeat' split) <;> omega)) hP hD hS
    · skip
      rw [Int32.le_iff_toInt_le, nI_toInt (n := 244) (by omega)] at h8
      refine lv_iconst (v := nI 0) hx hb dEi_sizeBehind_11 (by decide) ?_
      exact ret () dEi_sizeBehind_12 rfl (congrArg nI (show 0 = sz8 a from by unfold sz8; (repeat' split) <;> omega)) hP hD hS
set_option maxHeartbeats 4000000 in
set_option maxRecDepth 100000 in
theorem k_Ei_leadPart (l : Launch) (D : va_G) (cA : ClassId) (sz : Nat) (a : Int32) (n : Nat) (hn4 : n ≤ 4) : KI l D cA y_Ei_leadPart c_Ei_leadPart 2 .int 0 0 [.int a, .int (nI n)] sz [] (S := Unit) (fun r _ => r = lp a n) (fun _ => []) := by
  refine KI.of (by decide) (Nat.le_of_ble_eq_true rfl) ?_
  intro p e s m args below meth c Q R A ls Xf hR hA hS hP hD hK hn hl ret
  have hx := Xf.1
  have hb := Xf.2.1
  have hown : s.vm.findClass "ScalarScribe$Eights" = some m.cls := Xf.2.2.2.1
  have hw := Xf.2.2.2.2
  have hl : lv_has ls 2 [(0, .int a), (1, .int (nI n))] := hl
  refine lv_iload_n hx hb dEi_leadPart_0 rfl (lv_at hl 1 rfl) ?_
  rcases (show n = 0 ∨ n = 1 ∨ n = 2 ∨ n = 3 ∨ n = 4 by omega) with rfl | rfl | rfl | rfl | rfl
  · skip
    refine lv_tableOut (tgt := 46) hx hb dEi_leadPart_1 (by decide) (by decide) ?_
    refine lv_iload_n hx hb dEi_leadPart_46 rfl (lv_at hl 0 rfl) ?_
    exact ret () dEi_leadPart_47 rfl rfl hP hD hS
  · skip
    refine lv_tableOut (tgt := 46) hx hb dEi_leadPart_1 (by decide) (by decide) ?_
    refine lv_iload_n hx hb dEi_leadPart_46 rfl (lv_at hl 0 rfl) ?_
    exact ret () dEi_leadPart_47 rfl rfl hP hD hS
  · skip
    refine lv_tableIn (off := 27) (tgt := 28) hx hb dEi_leadPart_1 (by decide) (by decide) rfl (by decide) ?_
    refine lv_iload_n hx hb dEi_leadPart_28 rfl (lv_at hl 0 rfl) ?_
    refine lv_sipush (v := nI 192) hx hb dEi_leadPart_29 (by decide) ?_
    refine lv_isub hx hb dEi_leadPart_32 ?_
    exact ret () dEi_leadPart_33 rfl rfl hP hD hS
  · skip
    refine lv_tableIn (off := 33) (tgt := 34) hx hb dEi_leadPart_1 (by decide) (by decide) rfl (by decide) ?_
    refine lv_iload_n hx hb dEi_leadPart_34 rfl (lv_at hl 0 rfl) ?_
    refine lv_sipush (v := nI 224) hx hb dEi_leadPart_35 (by decide) ?_
    refine lv_isub hx hb dEi_leadPart_38 ?_
    exact ret () dEi_leadPart_39 rfl rfl hP hD hS
  · skip
    refine lv_tableIn (off := 39) (tgt := 40) hx hb dEi_leadPart_1 (by decide) (by decide) rfl (by decide) ?_
    refine lv_iload_n hx hb dEi_leadPart_40 rfl (lv_at hl 0 rfl) ?_
    refine lv_sipush (v := nI 240) hx hb dEi_leadPart_41 (by decide) ?_
    refine lv_isub hx hb dEi_leadPart_44 ?_
    exact ret () dEi_leadPart_45 rfl rfl hP hD hS
set_option maxHeartbeats 4000000 in
set_option maxRecDepth 100000 in
theorem k_Ei_fitsFurther (l : Launch) (D : va_G) (cA : ClassId) (sz : Nat) (b : Int32)  : KI l D cA y_Ei_fitsFurther c_Ei_fitsFurther 1 .boolean 0 0 [.int b] sz [] (S := Unit) (fun r _ => (ok3 b = true ∧ r = 1) ∨ (ok3 b = false ∧ r = 0)) (fun _ => []) := by
  refine KI.of (by decide) (Nat.le_of_ble_eq_true rfl) ?_
  intro p e s m args below meth c Q R A ls Xf hR hA hS hP hD hK hn hl ret
  have hx := Xf.1
  have hb := Xf.2.1
  have hown : s.vm.findClass "ScalarScribe$Eights" = some m.cls := Xf.2.2.2.1
  have hw := Xf.2.2.2.2
  have hl : lv_has ls 1 [(0, .int b)] := hl
  refine lv_iload_n hx hb dEi_fitsFurther_0 rfl (lv_at hl 0 rfl) ?_
  refine lv_sipush (v := nI 128) hx hb dEi_fitsFurther_1 (by decide) ?_
  refine lv_icmp_lt (tgt := 18) hx hb dEi_fitsFurther_4 (by decide) (fun h4 => ?_) (fun h4 => ?_)
  · skip
    rw [Int32.lt_iff_toInt_lt, nI_toInt (n := 128) (by omega)] at h4
    refine lv_iconst (v := nI 0) hx hb dEi_fitsFurther_18 (by decide) ?_
    exact ret () dEi_fitsFurther_19 rfl (Or.inr ⟨decide_eq_false (by omega), rfl⟩) hP hD hS
  · skip
    rw [Int32.lt_iff_toInt_lt, nI_toInt (n := 128) (by omega)] at h4
    refine lv_iload_n hx hb dEi_fitsFurther_7 rfl (lv_at hl 0 rfl) ?_
    refine lv_sipush (v := nI 191) hx hb dEi_fitsFurther_8 (by decide) ?_
    refine lv_icmp_gt (tgt := 18) hx hb dEi_fitsFurther_11 (by decide) (fun h11 => ?_) (fun h11 => ?_)
    · skip
      rw [Int32.lt_iff_toInt_lt, nI_toInt (n := 191) (by omega)] at h11
      refine lv_iconst (v := nI 0) hx hb dEi_fitsFurther_18 (by decide) ?_
      exact ret () dEi_fitsFurther_19 rfl (Or.inr ⟨decide_eq_false (by omega), rfl⟩) hP hD hS
    · skip
      rw [Int32.lt_iff_toInt_lt, nI_toInt (n := 191) (by omega)] at h11
      refine lv_iconst (v := nI 1) hx hb dEi_fitsFurther_14 (by decide) ?_
      refine lv_goto (tgt := 19) hx hb dEi_fitsFurther_15 (by decide) ?_
      exact ret () dEi_fitsFurther_19 rfl (Or.inl ⟨decide_eq_true ⟨by omega, by omega⟩, rfl⟩) hP hD hS
set_option maxHeartbeats 4000000 in
set_option maxRecDepth 100000 in
theorem k_Ei_fitsSecond (l : Launch) (D : va_G) (cA : ClassId) (sz : Nat) (a b : Int32)  : KI l D cA y_Ei_fitsSecond c_Ei_fitsSecond 2 .boolean 1 20 [.int a, .int b] sz [] (S := Unit) (fun r _ => (ok2 a b = true ∧ r = 1) ∨ (ok2 a b = false ∧ r = 0)) (fun _ => []) := by
  refine KI.of (by decide) (Nat.le_of_ble_eq_true rfl) ?_
  intro p e s m args below meth c Q R A ls Xf hR hA hS hP hD hK hn hl ret
  have hx := Xf.1
  have hb := Xf.2.1
  have hown : s.vm.findClass "ScalarScribe$Eights" = some m.cls := Xf.2.2.2.1
  have hw := Xf.2.2.2.2
  have hl : lv_has ls 2 [(0, .int a), (1, .int b)] := hl
  refine lv_iload_n hx hb dEi_fitsSecond_0 rfl (lv_at hl 0 rfl) ?_
  by_cases e1_224 : a = 224
  · skip
    refine lv_lookup (off := 43) (tgt := 44) hx hb dEi_fitsSecond_1 (by decide) (by rw [e1_224]; rfl) (by decide) ?_
    replace e1_224 : a.toInt = 224 := by rw [e1_224]; rfl
    refine lv_iload_n hx hb dEi_fitsSecond_44 rfl (lv_at hl 1 rfl) ?_
    refine lv_sipush (v := nI 160) hx hb dEi_fitsSecond_45 (by decide) ?_
    refine lv_icmp_lt (tgt := 62) hx hb dEi_fitsSecond_48 (by decide) (fun h48 => ?_) (fun h48 => ?_)
    · skip
      rw [Int32.lt_iff_toInt_lt, nI_toInt (n := 160) (by omega)] at h48
      refine lv_iconst (v := nI 0) hx hb dEi_fitsSecond_62 (by decide) ?_
      exact ret () dEi_fitsSecond_63 rfl (Or.inr ⟨decide_eq_false (by unfold lo2 hi2; (repeat' split) <;> omega), rfl⟩) hP hD hS
    · skip
      rw [Int32.lt_iff_toInt_lt, nI_toInt (n := 160) (by omega)] at h48
      refine lv_iload_n hx hb dEi_fitsSecond_51 rfl (lv_at hl 1 rfl) ?_
      refine lv_sipush (v := nI 191) hx hb dEi_fitsSecond_52 (by decide) ?_
      refine lv_icmp_gt (tgt := 62) hx hb dEi_fitsSecond_55 (by decide) (fun h55 => ?_) (fun h55 => ?_)
      · skip
        rw [Int32.lt_iff_toInt_lt, nI_toInt (n := 191) (by omega)] at h55
        refine lv_iconst (v := nI 0) hx hb dEi_fitsSecond_62 (by decide) ?_
        exact ret () dEi_fitsSecond_63 rfl (Or.inr ⟨decide_eq_false (by unfold lo2 hi2; (repeat' split) <;> omega), rfl⟩) hP hD hS
      · skip
        rw [Int32.lt_iff_toInt_lt, nI_toInt (n := 191) (by omega)] at h55
        refine lv_iconst (v := nI 1) hx hb dEi_fitsSecond_58 (by decide) ?_
        refine lv_goto (tgt := 63) hx hb dEi_fitsSecond_59 (by decide) ?_
        exact ret () dEi_fitsSecond_63 rfl (Or.inl ⟨decide_eq_true (by unfold lo2 hi2; (repeat' split) <;> omega), rfl⟩) hP hD hS
  by_cases e1_237 : a = 237
  · skip
    refine lv_lookup (off := 63) (tgt := 64) hx hb dEi_fitsSecond_1 (by decide) (by rw [e1_237]; rfl) (by decide) ?_
    replace e1_237 : a.toInt = 237 := by rw [e1_237]; rfl
    refine lv_iload_n hx hb dEi_fitsSecond_64 rfl (lv_at hl 1 rfl) ?_
    refine lv_sipush (v := nI 128) hx hb dEi_fitsSecond_65 (by decide) ?_
    refine lv_icmp_lt (tgt := 82) hx hb dEi_fitsSecond_68 (by decide) (fun h68 => ?_) (fun h68 => ?_)
    · skip
      rw [Int32.lt_iff_toInt_lt, nI_toInt (n := 128) (by omega)] at h68
      refine lv_iconst (v := nI 0) hx hb dEi_fitsSecond_82 (by decide) ?_
      exact ret () dEi_fitsSecond_83 rfl (Or.inr ⟨decide_eq_false (by unfold lo2 hi2; (repeat' split) <;> omega), rfl⟩) hP hD hS
    · skip
      rw [Int32.lt_iff_toInt_lt, nI_toInt (n := 128) (by omega)] at h68
      refine lv_iload_n hx hb dEi_fitsSecond_71 rfl (lv_at hl 1 rfl) ?_
      refine lv_sipush (v := nI 159) hx hb dEi_fitsSecond_72 (by decide) ?_
      refine lv_icmp_gt (tgt := 82) hx hb dEi_fitsSecond_75 (by decide) (fun h75 => ?_) (fun h75 => ?_)
      · skip
        rw [Int32.lt_iff_toInt_lt, nI_toInt (n := 159) (by omega)] at h75
        refine lv_iconst (v := nI 0) hx hb dEi_fitsSecond_82 (by decide) ?_
        exact ret () dEi_fitsSecond_83 rfl (Or.inr ⟨decide_eq_false (by unfold lo2 hi2; (repeat' split) <;> omega), rfl⟩) hP hD hS
      · skip
        rw [Int32.lt_iff_toInt_lt, nI_toInt (n := 159) (by omega)] at h75
        refine lv_iconst (v := nI 1) hx hb dEi_fitsSecond_78 (by decide) ?_
        refine lv_goto (tgt := 83) hx hb dEi_fitsSecond_79 (by decide) ?_
        exact ret () dEi_fitsSecond_83 rfl (Or.inl ⟨decide_eq_true (by unfold lo2 hi2; (repeat' split) <;> omega), rfl⟩) hP hD hS
  by_cases e1_240 : a = 240
  · skip
    refine lv_lookup (off := 83) (tgt := 84) hx hb dEi_fitsSecond_1 (by decide) (by rw [e1_240]; rfl) (by decide) ?_
    replace e1_240 : a.toInt = 240 := by rw [e1_240]; rfl
    refine lv_iload_n hx hb dEi_fitsSecond_84 rfl (lv_at hl 1 rfl) ?_
    refine lv_sipush (v := nI 144) hx hb dEi_fitsSecond_85 (by decide) ?_
    refine lv_icmp_lt (tgt := 102) hx hb dEi_fitsSecond_88 (by decide) (fun h88 => ?_) (fun h88 => ?_)
    · skip
      rw [Int32.lt_iff_toInt_lt, nI_toInt (n := 144) (by omega)] at h88
      refine lv_iconst (v := nI 0) hx hb dEi_fitsSecond_102 (by decide) ?_
      exact ret () dEi_fitsSecond_103 rfl (Or.inr ⟨decide_eq_false (by unfold lo2 hi2; (repeat' split) <;> omega), rfl⟩) hP hD hS
    · skip
      rw [Int32.lt_iff_toInt_lt, nI_toInt (n := 144) (by omega)] at h88
      refine lv_iload_n hx hb dEi_fitsSecond_91 rfl (lv_at hl 1 rfl) ?_
      refine lv_sipush (v := nI 191) hx hb dEi_fitsSecond_92 (by decide) ?_
      refine lv_icmp_gt (tgt := 102) hx hb dEi_fitsSecond_95 (by decide) (fun h95 => ?_) (fun h95 => ?_)
      · skip
        rw [Int32.lt_iff_toInt_lt, nI_toInt (n := 191) (by omega)] at h95
        refine lv_iconst (v := nI 0) hx hb dEi_fitsSecond_102 (by decide) ?_
        exact ret () dEi_fitsSecond_103 rfl (Or.inr ⟨decide_eq_false (by unfold lo2 hi2; (repeat' split) <;> omega), rfl⟩) hP hD hS
      · skip
        rw [Int32.lt_iff_toInt_lt, nI_toInt (n := 191) (by omega)] at h95
        refine lv_iconst (v := nI 1) hx hb dEi_fitsSecond_98 (by decide) ?_
        refine lv_goto (tgt := 103) hx hb dEi_fitsSecond_99 (by decide) ?_
        exact ret () dEi_fitsSecond_103 rfl (Or.inl ⟨decide_eq_true (by unfold lo2 hi2; (repeat' split) <;> omega), rfl⟩) hP hD hS
  by_cases e1_244 : a = 244
  · skip
    refine lv_lookup (off := 103) (tgt := 104) hx hb dEi_fitsSecond_1 (by decide) (by rw [e1_244]; rfl) (by decide) ?_
    replace e1_244 : a.toInt = 244 := by rw [e1_244]; rfl
    refine lv_iload_n hx hb dEi_fitsSecond_104 rfl (lv_at hl 1 rfl) ?_
    refine lv_sipush (v := nI 128) hx hb dEi_fitsSecond_105 (by decide) ?_
    refine lv_icmp_lt (tgt := 122) hx hb dEi_fitsSecond_108 (by decide) (fun h108 => ?_) (fun h108 => ?_)
    · skip
      rw [Int32.lt_iff_toInt_lt, nI_toInt (n := 128) (by omega)] at h108
      refine lv_iconst (v := nI 0) hx hb dEi_fitsSecond_122 (by decide) ?_
      exact ret () dEi_fitsSecond_123 rfl (Or.inr ⟨decide_eq_false (by unfold lo2 hi2; (repeat' split) <;> omega), rfl⟩) hP hD hS
    · skip
      rw [Int32.lt_iff_toInt_lt, nI_toInt (n := 128) (by omega)] at h108
      refine lv_iload_n hx hb dEi_fitsSecond_111 rfl (lv_at hl 1 rfl) ?_
      refine lv_sipush (v := nI 143) hx hb dEi_fitsSecond_112 (by decide) ?_
      refine lv_icmp_gt (tgt := 122) hx hb dEi_fitsSecond_115 (by decide) (fun h115 => ?_) (fun h115 => ?_)
      · skip
        rw [Int32.lt_iff_toInt_lt, nI_toInt (n := 143) (by omega)] at h115
        refine lv_iconst (v := nI 0) hx hb dEi_fitsSecond_122 (by decide) ?_
        exact ret () dEi_fitsSecond_123 rfl (Or.inr ⟨decide_eq_false (by unfold lo2 hi2; (repeat' split) <;> omega), rfl⟩) hP hD hS
      · skip
        rw [Int32.lt_iff_toInt_lt, nI_toInt (n := 143) (by omega)] at h115
        refine lv_iconst (v := nI 1) hx hb dEi_fitsSecond_118 (by decide) ?_
        refine lv_goto (tgt := 123) hx hb dEi_fitsSecond_119 (by decide) ?_
        exact ret () dEi_fitsSecond_123 rfl (Or.inl ⟨decide_eq_true (by unfold lo2 hi2; (repeat' split) <;> omega), rfl⟩) hP hD hS
  refine lv_lookup (off := 123) (tgt := 124) hx hb dEi_fitsSecond_1 (by decide) (by show Op.lookupswitch.offset [(224, 43), (237, 63), (240, 83), (244, 103)] 123 a.toInt = 123; rw [lv_osw e1_224 (by decide), lv_osw e1_237 (by decide), lv_osw e1_240 (by decide), lv_osw e1_244 (by decide)]; rfl) (by decide) ?_
  rw [← Int32.toInt_inj, show (224 : Int32).toInt = 224 from rfl] at e1_224
  rw [← Int32.toInt_inj, show (237 : Int32).toInt = 237 from rfl] at e1_237
  rw [← Int32.toInt_inj, show (240 : Int32).toInt = 240 from rfl] at e1_240
  rw [← Int32.toInt_inj, show (244 : Int32).toInt = 244 from rfl] at e1_244
  refine lv_iload_n hx hb dEi_fitsSecond_124 rfl (lv_at hl 1 rfl) ?_
  refine ca_i (wr := []) (va_runS (As := [.int b]) (rest := []) Xf (k_Ei_fitsFurther l D cA _ b) ⟨cb_of 1 hw w_169 w_4 w_167 (by decide +kernel) (by rw [hR]; exact ⟨Nat.le_of_ble_eq_true rfl, Nat.le_of_ble_eq_true rfl⟩), hw _ w_168⟩ (pre_S hP hD hK hn [] rfl (by decide)) rfl rfl hl.1 rfl (lv_room (Nat.le_of_ble_eq_true rfl)) dEi_fitsSecond_125 ⟨Nat.zero_le _, Nat.zero_le _⟩) hP hD hS hA [] [] rfl rfl (by decide) (by decide) (fun r125 u_ H locs hq_ hP hD hS => ?_)
  rcases hq_ with ⟨hk125_1, rfl⟩ | ⟨hk125_1, rfl⟩
  · skip
    replace hP : va_P D vwCl [] H := hP.sub [] rfl
    replace hD : va_D A [] := hD.sub [] (by decide) rfl
    have hk125_1 := of_decide_eq_true hk125_1
    exact ret () dEi_fitsSecond_128 rfl (Or.inl ⟨decide_eq_true (by unfold lo2 hi2; (repeat' split) <;> omega), rfl⟩) hP hD hS
  · skip
    replace hP : va_P D vwCl [] H := hP.sub [] rfl
    replace hD : va_D A [] := hD.sub [] (by decide) rfl
    have hk125_1 := of_decide_eq_false hk125_1
    exact ret () dEi_fitsSecond_128 rfl (Or.inr ⟨decide_eq_false (by unfold lo2 hi2; (repeat' split) <;> omega), rfl⟩) hP hD hS
set_option maxHeartbeats 4000000 in
set_option maxRecDepth 100000 in
theorem k_Ei_readOne (l : Launch) (D : va_G) (cA : ClassId) (sz : Nat) (h8 : Nat) (sc tk : Int32) (h a N : Nat) (L : List Int32) (f : Nat → Int32) (p0 : Nat) (hf : Hd f L) (hc : L.length ≤ N) (hN : N < 2 ^ 31) (hp0 : p0 < 2 ^ 30) : KV l D cA y_Ei_readOne c_Ei_readOne 9 2 41 [.ref h8, .ref h, .int (nI p0)] sz [(h8, .inr (1, [.int sc, .int tk])), (h, .inr (0, [.ref a, .int (nI L.length)])), (a, .inl (cA, N, .inl f))] (S := Unit) (fun _ => True) (fun _ => [(h8, .inr (1, [.int (ov (rd8 (un L) p0).1), .int (nI (rd8 (un L) p0).2)])), (h, .inr (0, [.ref a, .int (nI L.length)])), (a, .inl (cA, N, .inl f))]) := by
  refine KV.of (by decide) (Nat.le_of_ble_eq_true rfl) ?_
  intro p e s m args below meth c Q R A ls Xf hR hA hS hP hD hK hn hl ret
  have hx := Xf.1
  have hb := Xf.2.1
  have hown : s.vm.findClass "ScalarScribe$Eights" = some m.cls := Xf.2.2.2.1
  have hw := Xf.2.2.2.2
  have hl : lv_has ls 9 [(0, .ref h8), (1, .ref h), (2, .int (nI p0))] := hl
  refine lv_aload_n hx hb dEi_readOne_0 rfl (lv_at hl 1 rfl) ?_
  refine lv_iload_n hx hb dEi_readOne_1 rfl (lv_at hl 2 rfl) ?_
  refine ca_i (wr := [(h8, .inr (1, [.int sc, .int tk]))]) (va_runV (As := [.int (nI p0)]) (rest := []) Xf (k_Row_unitAt l D cA _ h a N L f (nI p0) hf hc hN) ⟨cb_of 1 hw w_154 w_2 w_151 (by decide +kernel) (by rw [hR]; exact ⟨Nat.le_of_ble_eq_true rfl, Nat.le_of_ble_eq_true rfl⟩), hw _ w_152, hw _ w_153⟩ (pre_V (As := [.int (nI p0)]) hP hD hK hn [1, 2] rfl (by decide) 1 0 rfl rfl) rfl rfl hl.1 rfl (lv_room (Nat.le_of_ble_eq_true rfl)) dEi_readOne_2 ⟨Nat.zero_le _, Nat.zero_le _⟩) hP hD hS hA [1, 2] [0] rfl rfl (by decide) (by decide) (fun r2 u_ H locs hq_ hP hD hS => ?_)
  obtain rfl : r2 = un L p0 := hq_.trans (gt_n (by omega) (by omega))
  replace hP : va_P D vwCl [(h8, .inr (1, [.int sc, .int tk])), (h, .inr (0, [.ref a, .int (nI L.length)])), (a, .inl (cA, N, .inl f))] H := hP.sub [0, 1, 2] rfl
  replace hD : va_D A [(h8, .inr (1, [.int sc, .int tk])), (h, .inr (0, [.ref a, .int (nI L.length)])), (a, .inl (cA, N, .inl f))] := hD.sub [0, 1, 2] (by decide) rfl
  refine lv_istore_n (lv' := [(3, .int (un L p0)), (0, .ref h8), (1, .ref h), (2, .int (nI p0))]) hx hb dEi_readOne_5 rfl hl (by decide) rfl (fun ls hl => ?_)
  refine lv_iload_n hx hb dEi_readOne_6 rfl (lv_at hl 0 rfl) ?_
  refine ca_i (wr := [(h8, .inr (1, [.int sc, .int tk])), (h, .inr (0, [.ref a, .int (nI L.length)])), (a, .inl (cA, N, .inl f))]) (va_runS (As := [.int (un L p0)]) (rest := []) Xf (k_Ei_sizeBehind l D cA _ (un L p0)) ⟨cb_of 1 hw w_157 w_4 w_155 (by decide +kernel) (by rw [hR]; exact ⟨Nat.le_of_ble_eq_true rfl, Nat.le_of_ble_eq_true rfl⟩), hw _ w_156⟩ (pre_S hP hD hK hn [] rfl (by decide)) rfl rfl hl.1 rfl (lv_room (Nat.le_of_ble_eq_true rfl)) dEi_readOne_7 ⟨Nat.zero_le _, Nat.zero_le _⟩) hP hD hS hA [] [0, 1, 2] rfl rfl (by decide) (by decide) (fun r7 u_ H locs hq_ hP hD hS => ?_)
  obtain rfl : r7 = nI (sz8 (un L p0)) := hq_
  replace hP : va_P D vwCl [(h8, .inr (1, [.int sc, .int tk])), (h, .inr (0, [.ref a, .int (nI L.length)])), (a, .inl (cA, N, .inl f))] H := hP.sub [0, 1, 2] rfl
  replace hD : va_D A [(h8, .inr (1, [.int sc, .int tk])), (h, .inr (0, [.ref a, .int (nI L.length)])), (a, .inl (cA, N, .inl f))] := hD.sub [0, 1, 2] (by decide) rfl
  rcases sz8_c (un L p0) with e8 | ⟨e8, b1, b2⟩ | ⟨e8, b1, b2⟩ | ⟨e8, b1, b2⟩ | ⟨e8, b1, b2⟩
  · skip
    rw [e8]
    refine lv_istore (lv' := [(4, .int (nI 0)), (3, .int (un L p0)), (0, .ref h8), (1, .ref h), (2, .int (nI p0))]) hx hb dEi_readOne_10 hl (by decide) rfl (fun ls hl => ?_)
    refine lv_aload_n hx hb dEi_readOne_12 rfl (lv_at hl 2 rfl) ?_
    refine lv_iconst (v := (-1)) hx hb dEi_readOne_13 (by decide) ?_
    refine va_put (D := D) (ci := 1) (v := .int (-1)) (ty := .int) (C := R_Ei) (T := T_Ei) (N := 2) hx hb hw in_Ei ty_Ei ty_Ei_ok nm_Ei hown hK hP hD hS 0 rfl rfl 0 (by decide) (hw _ w_45) (fun x9 h9 => u_same (hw _ w_46) x9 h9) rfl (by decide +kernel) rfl rfl (Nat.le_of_ble_eq_true rfl) dEi_readOne_14 (fun H locs hP hD hS => ?_)
    have hP : va_P D vwCl [(h8, .inr (1, [.int (-1), .int tk])), (h, .inr (0, [.ref a, .int (nI L.length)])), (a, .inl (cA, N, .inl f))] H := hP
    have hD : va_D A [(h8, .inr (1, [.int (-1), .int tk])), (h, .inr (0, [.ref a, .int (nI L.length)])), (a, .inl (cA, N, .inl f))] := hD
    refine lv_aload_n hx hb dEi_readOne_17 rfl (lv_at hl 2 rfl) ?_
    refine lv_iconst (v := nI 1) hx hb dEi_readOne_18 (by decide) ?_
    refine lv_iload hx hb dEi_readOne_19 (lv_at hl 0 rfl) ?_
    refine va_mmin hx hb (Xf.2.2.1.trans hl.1.symm) hown (hw _ w_158) (hw _ w_159) (hw _ w_8) (hw _ w_160) (by rw [hR]; exact Nat.le_of_ble_eq_true rfl) (by rw [hR]; exact Nat.le_of_ble_eq_true rfl) (Nat.zero_le _) (Nat.zero_le _) dEi_readOne_21 ?_
    refine lv_rei (y := nI 0) (by decide) ?_
    refine va_put (D := D) (ci := 1) (v := .int (nI 0)) (ty := .int) (C := R_Ei) (T := T_Ei) (N := 2) hx hb hw in_Ei ty_Ei ty_Ei_ok nm_Ei hown hK hP hD hS 0 rfl rfl 1 (by decide) (hw _ w_50) (fun x9 h9 => u_same (hw _ w_51) x9 h9) rfl (by decide +kernel) rfl rfl (Nat.le_of_ble_eq_true rfl) dEi_readOne_24 (fun H locs hP hD hS => ?_)
    have hP : va_P D vwCl [(h8, .inr (1, [.int (-1), .int (nI 0)])), (h, .inr (0, [.ref a, .int (nI L.length)])), (a, .inl (cA, N, .inl f))] H := hP
    have hD : va_D A [(h8, .inr (1, [.int (-1), .int (nI 0)])), (h, .inr (0, [.ref a, .int (nI L.length)])), (a, .inl (cA, N, .inl f))] := hD
    refine lv_iload_n hx hb dEi_readOne_27 rfl (lv_at hl 1 rfl) ?_
    refine lv_iload hx hb dEi_readOne_28 (lv_at hl 0 rfl) ?_
    refine ca_i (wr := [(h8, .inr (1, [.int (-1), .int (nI 0)])), (h, .inr (0, [.ref a, .int (nI L.length)])), (a, .inl (cA, N, .inl f))]) (va_runS (As := [.int (un L p0), .int (nI 0)]) (rest := []) Xf (k_Ei_leadPart l D cA _ (un L p0) 0 (by decide)) ⟨cb_of 2 hw w_163 w_4 w_161 (by decide +kernel) (by rw [hR]; exact ⟨Nat.le_of_ble_eq_true rfl, Nat.le_of_ble_eq_true rfl⟩), hw _ w_162⟩ (pre_S hP hD hK hn [] rfl (by decide)) rfl rfl hl.1 rfl (lv_room (Nat.le_of_ble_eq_true rfl)) dEi_readOne_30 ⟨Nat.zero_le _, Nat.zero_le _⟩) hP hD hS hA [] [0, 1, 2] rfl rfl (by decide) (by decide) (fun r30 u_ H locs hq_ hP hD hS => ?_)
    obtain rfl : r30 = lp (un L p0) 0 := hq_
    replace hP : va_P D vwCl [(h8, .inr (1, [.int (-1), .int (nI 0)])), (h, .inr (0, [.ref a, .int (nI L.length)])), (a, .inl (cA, N, .inl f))] H := hP.sub [0, 1, 2] rfl
    replace hD : va_D A [(h8, .inr (1, [.int (-1), .int (nI 0)])), (h, .inr (0, [.ref a, .int (nI L.length)])), (a, .inl (cA, N, .inl f))] := hD.sub [0, 1, 2] (by decide) rfl
    refine lv_topi (fun v0 ev0 => ?_)
    refine lv_istore (lv' := [(5, .int v0), (4, .int (nI 0)), (3, .int (un L p0)), (0, .ref h8), (1, .ref h), (2, .int (nI p0))]) hx hb dEi_readOne_33 hl (by decide) rfl (fun ls hl => ?_)
    refine lv_iconst (v := nI 1) hx hb dEi_readOne_35 (by decide) ?_
    refine lv_istore (lv' := [(6, .int (nI 1)), (5, .int v0), (4, .int (nI 0)), (3, .int (un L p0)), (0, .ref h8), (1, .ref h), (2, .int (nI p0))]) hx hb dEi_readOne_36 hl (by decide) rfl (fun ls hl => ?_)
    refine lv_iload hx hb dEi_readOne_38 (lv_at hl 0 rfl) ?_
    refine lv_iload hx hb dEi_readOne_40 (lv_at hl 2 rfl) ?_
    refine lv_icmp_ge (tgt := 113) hx hb dEi_readOne_42 (by decide) (fun h42 => ?_) (fun h42 => ?_)
    · skip
      refine lv_iload hx hb dEi_readOne_113 (lv_at hl 2 rfl) ?_
      refine lv_if_le (tgt := 124) hx hb dEi_readOne_115 (by decide) (fun h115 => ?_) (fun h115 => ?_)
      · skip
        have er : rd8 (un L) p0 = (none, 0) := by simp [rd8, e8]
        replace hP : va_P D vwCl [(h8, .inr (1, [.int (ov (rd8 (un L) p0).1), .int (nI (rd8 (un L) p0).2)])), (h, .inr (0, [.ref a, .int (nI L.length)])), (a, .inl (cA, N, .inl f))] H := by rw [er]; exact hP
        replace hD : va_D A [(h8, .inr (1, [.int (ov (rd8 (un L) p0).1), .int (nI (rd8 (un L) p0).2)])), (h, .inr (0, [.ref a, .int (nI L.length)])), (a, .inl (cA, N, .inl f))] := by rw [er]; exact hD
        exact ret () dEi_readOne_124 trivial hP hD hS
      · skip
        exact absurd h115 (by decide)
    · skip
      exact absurd h42 (by decide)
  · skip
    rw [e8]
    obtain ⟨ea, eb, ec⟩ := tn_of b1 (by decide)
    refine lv_istore (lv' := [(4, .int (nI 1)), (3, .int (un L p0)), (0, .ref h8), (1, .ref h), (2, .int (nI p0))]) hx hb dEi_readOne_10 hl (by decide) rfl (fun ls hl => ?_)
    refine lv_aload_n hx hb dEi_readOne_12 rfl (lv_at hl 2 rfl) ?_
    refine lv_iconst (v := (-1)) hx hb dEi_readOne_13 (by decide) ?_
    refine va_put (D := D) (ci := 1) (v := .int (-1)) (ty := .int) (C := R_Ei) (T := T_Ei) (N := 2) hx hb hw in_Ei ty_Ei ty_Ei_ok nm_Ei hown hK hP hD hS 0 rfl rfl 0 (by decide) (hw _ w_45) (fun x9 h9 => u_same (hw _ w_46) x9 h9) rfl (by decide +kernel) rfl rfl (Nat.le_of_ble_eq_true rfl) dEi_readOne_14 (fun H locs hP hD hS => ?_)
    have hP : va_P D vwCl [(h8, .inr (1, [.int (-1), .int tk])), (h, .inr (0, [.ref a, .int (nI L.length)])), (a, .inl (cA, N, .inl f))] H := hP
    have hD : va_D A [(h8, .inr (1, [.int (-1), .int tk])), (h, .inr (0, [.ref a, .int (nI L.length)])), (a, .inl (cA, N, .inl f))] := hD
    refine lv_aload_n hx hb dEi_readOne_17 rfl (lv_at hl 2 rfl) ?_
    refine lv_iconst (v := nI 1) hx hb dEi_readOne_18 (by decide) ?_
    refine lv_iload hx hb dEi_readOne_19 (lv_at hl 0 rfl) ?_
    refine va_mmin hx hb (Xf.2.2.1.trans hl.1.symm) hown (hw _ w_158) (hw _ w_159) (hw _ w_8) (hw _ w_160) (by rw [hR]; exact Nat.le_of_ble_eq_true rfl) (by rw [hR]; exact Nat.le_of_ble_eq_true rfl) (Nat.zero_le _) (Nat.zero_le _) dEi_readOne_21 ?_
    refine lv_rei (y := nI 1) (by decide) ?_
    refine va_put (D := D) (ci := 1) (v := .int (nI 1)) (ty := .int) (C := R_Ei) (T := T_Ei) (N := 2) hx hb hw in_Ei ty_Ei ty_Ei_ok nm_Ei hown hK hP hD hS 0 rfl rfl 1 (by decide) (hw _ w_50) (fun x9 h9 => u_same (hw _ w_51) x9 h9) rfl (by decide +kernel) rfl rfl (Nat.le_of_ble_eq_true rfl) dEi_readOne_24 (fun H locs hP hD hS => ?_)
    have hP : va_P D vwCl [(h8, .inr (1, [.int (-1), .int (nI 1)])), (h, .inr (0, [.ref a, .int (nI L.length)])), (a, .inl (cA, N, .inl f))] H := hP
    have hD : va_D A [(h8, .inr (1, [.int (-1), .int (nI 1)])), (h, .inr (0, [.ref a, .int (nI L.length)])), (a, .inl (cA, N, .inl f))] := hD
    refine lv_iload_n hx hb dEi_readOne_27 rfl (lv_at hl 1 rfl) ?_
    refine lv_iload hx hb dEi_readOne_28 (lv_at hl 0 rfl) ?_
    refine ca_i (wr := [(h8, .inr (1, [.int (-1), .int (nI 1)])), (h, .inr (0, [.ref a, .int (nI L.length)])), (a, .inl (cA, N, .inl f))]) (va_runS (As := [.int (un L p0), .int (nI 1)]) (rest := []) Xf (k_Ei_leadPart l D cA _ (un L p0) 1 (by decide)) ⟨cb_of 2 hw w_163 w_4 w_161 (by decide +kernel) (by rw [hR]; exact ⟨Nat.le_of_ble_eq_true rfl, Nat.le_of_ble_eq_true rfl⟩), hw _ w_162⟩ (pre_S hP hD hK hn [] rfl (by decide)) rfl rfl hl.1 rfl (lv_room (Nat.le_of_ble_eq_true rfl)) dEi_readOne_30 ⟨Nat.zero_le _, Nat.zero_le _⟩) hP hD hS hA [] [0, 1, 2] rfl rfl (by decide) (by decide) (fun r30 u_ H locs hq_ hP hD hS => ?_)
    obtain rfl : r30 = lp (un L p0) 1 := hq_
    replace hP : va_P D vwCl [(h8, .inr (1, [.int (-1), .int (nI 1)])), (h, .inr (0, [.ref a, .int (nI L.length)])), (a, .inl (cA, N, .inl f))] H := hP.sub [0, 1, 2] rfl
    replace hD : va_D A [(h8, .inr (1, [.int (-1), .int (nI 1)])), (h, .inr (0, [.ref a, .int (nI L.length)])), (a, .inl (cA, N, .inl f))] := hD.sub [0, 1, 2] (by decide) rfl
    refine lv_rei (y := nI (tn (un L p0))) ea ?_
    refine lv_istore (lv' := [(5, .int (nI (tn (un L p0)))), (4, .int (nI 1)), (3, .int (un L p0)), (0, .ref h8), (1, .ref h), (2, .int (nI p0))]) hx hb dEi_readOne_33 hl (by decide) rfl (fun ls hl => ?_)
    refine lv_iconst (v := nI 1) hx hb dEi_readOne_35 (by decide) ?_
    refine lv_istore (lv' := [(6, .int (nI 1)), (5, .int (nI (tn (un L p0)))), (4, .int (nI 1)), (3, .int (un L p0)), (0, .ref h8), (1, .ref h), (2, .int (nI p0))]) hx hb dEi_readOne_36 hl (by decide) rfl (fun ls hl => ?_)
    refine lv_iload hx hb dEi_readOne_38 (lv_at hl 0 rfl) ?_
    refine lv_iload hx hb dEi_readOne_40 (lv_at hl 2 rfl) ?_
    refine lv_icmp_ge (tgt := 113) hx hb dEi_readOne_42 (by decide) (fun h42 => ?_) (fun h42 => ?_)
    · skip
      refine lv_iload hx hb dEi_readOne_113 (lv_at hl 2 rfl) ?_
      refine lv_if_le (tgt := 124) hx hb dEi_readOne_115 (by decide) (fun h115 => ?_) (fun h115 => ?_)
      · skip
        exact absurd h115 (by decide)
      · skip
        refine lv_aload_n hx hb dEi_readOne_118 rfl (lv_at hl 4 rfl) ?_
        refine lv_iload hx hb dEi_readOne_119 (lv_at hl 1 rfl) ?_
        refine va_put (D := D) (ci := 1) (v := .int (nI (tn (un L p0)))) (ty := .int) (C := R_Ei) (T := T_Ei) (N := 2) hx hb hw in_Ei ty_Ei ty_Ei_ok nm_Ei hown hK hP hD hS 0 rfl rfl 0 (by decide) (hw _ w_45) (fun x9 h9 => u_same (hw _ w_46) x9 h9) rfl (by decide +kernel) rfl rfl (Nat.le_of_ble_eq_true rfl) dEi_readOne_121 (fun H locs hP hD hS => ?_)
        have hP : va_P D vwCl [(h8, .inr (1, [.int (nI (tn (un L p0))), .int (nI 1)])), (h, .inr (0, [.ref a, .int (nI L.length)])), (a, .inl (cA, N, .inl f))] H := hP
        have hD : va_D A [(h8, .inr (1, [.int (nI (tn (un L p0))), .int (nI 1)])), (h, .inr (0, [.ref a, .int (nI L.length)])), (a, .inl (cA, N, .inl f))] := hD
        have er : rd8 (un L) p0 = (some (tn (un L p0)), 1) := by simp [rd8, e8]
        replace hP : va_P D vwCl [(h8, .inr (1, [.int (ov (rd8 (un L) p0).1), .int (nI (rd8 (un L) p0).2)])), (h, .inr (0, [.ref a, .int (nI L.length)])), (a, .inl (cA, N, .inl f))] H := by rw [er]; exact hP
        replace hD : va_D A [(h8, .inr (1, [.int (ov (rd8 (un L) p0).1), .int (nI (rd8 (un L) p0).2)])), (h, .inr (0, [.ref a, .int (nI L.length)])), (a, .inl (cA, N, .inl f))] := by rw [er]; exact hD
        exact ret () dEi_readOne_124 trivial hP hD hS
    · skip
      exact absurd h42 (by decide)
  · skip
    rw [e8]
    obtain ⟨ea, eb, ec⟩ := tn_of b1 (by decide)
    refine lv_istore (lv' := [(4, .int (nI 2)), (3, .int (un L p0)), (0, .ref h8), (1, .ref h), (2, .int (nI p0))]) hx hb dEi_readOne_10 hl (by decide) rfl (fun ls hl => ?_)
    refine lv_aload_n hx hb dEi_readOne_12 rfl (lv_at hl 2 rfl) ?_
    refine lv_iconst (v := (-1)) hx hb dEi_readOne_13 (by decide) ?_
    refine va_put (D := D) (ci := 1) (v := .int (-1)) (ty := .int) (C := R_Ei) (T := T_Ei) (N := 2) hx hb hw in_Ei ty_Ei ty_Ei_ok nm_Ei hown hK hP hD hS 0 rfl rfl 0 (by decide) (hw _ w_45) (fun x9 h9 => u_same (hw _ w_46) x9 h9) rfl (by decide +kernel) rfl rfl (Nat.le_of_ble_eq_true rfl) dEi_readOne_14 (fun H locs hP hD hS => ?_)
    have hP : va_P D vwCl [(h8, .inr (1, [.int (-1), .int tk])), (h, .inr (0, [.ref a, .int (nI L.length)])), (a, .inl (cA, N, .inl f))] H := hP
    have hD : va_D A [(h8, .inr (1, [.int (-1), .int tk])), (h, .inr (0, [.ref a, .int (nI L.length)])), (a, .inl (cA, N, .inl f))] := hD
    refine lv_aload_n hx hb dEi_readOne_17 rfl (lv_at hl 2 rfl) ?_
    refine lv_iconst (v := nI 1) hx hb dEi_readOne_18 (by decide) ?_
    refine lv_iload hx hb dEi_readOne_19 (lv_at hl 0 rfl) ?_
    refine va_mmin hx hb (Xf.2.2.1.trans hl.1.symm) hown (hw _ w_158) (hw _ w_159) (hw _ w_8) (hw _ w_160) (by rw [hR]; exact Nat.le_of_ble_eq_true rfl) (by rw [hR]; exact Nat.le_of_ble_eq_true rfl) (Nat.zero_le _) (Nat.zero_le _) dEi_readOne_21 ?_
    refine lv_rei (y := nI 1) (by decide) ?_
    refine va_put (D := D) (ci := 1) (v := .int (nI 1)) (ty := .int) (C := R_Ei) (T := T_Ei) (N := 2) hx hb hw in_Ei ty_Ei ty_Ei_ok nm_Ei hown hK hP hD hS 0 rfl rfl 1 (by decide) (hw _ w_50) (fun x9 h9 => u_same (hw _ w_51) x9 h9) rfl (by decide +kernel) rfl rfl (Nat.le_of_ble_eq_true rfl) dEi_readOne_24 (fun H locs hP hD hS => ?_)
    have hP : va_P D vwCl [(h8, .inr (1, [.int (-1), .int (nI 1)])), (h, .inr (0, [.ref a, .int (nI L.length)])), (a, .inl (cA, N, .inl f))] H := hP
    have hD : va_D A [(h8, .inr (1, [.int (-1), .int (nI 1)])), (h, .inr (0, [.ref a, .int (nI L.length)])), (a, .inl (cA, N, .inl f))] := hD
    refine lv_iload_n hx hb dEi_readOne_27 rfl (lv_at hl 1 rfl) ?_
    refine lv_iload hx hb dEi_readOne_28 (lv_at hl 0 rfl) ?_
    refine ca_i (wr := [(h8, .inr (1, [.int (-1), .int (nI 1)])), (h, .inr (0, [.ref a, .int (nI L.length)])), (a, .inl (cA, N, .inl f))]) (va_runS (As := [.int (un L p0), .int (nI 2)]) (rest := []) Xf (k_Ei_leadPart l D cA _ (un L p0) 2 (by decide)) ⟨cb_of 2 hw w_163 w_4 w_161 (by decide +kernel) (by rw [hR]; exact ⟨Nat.le_of_ble_eq_true rfl, Nat.le_of_ble_eq_true rfl⟩), hw _ w_162⟩ (pre_S hP hD hK hn [] rfl (by decide)) rfl rfl hl.1 rfl (lv_room (Nat.le_of_ble_eq_true rfl)) dEi_readOne_30 ⟨Nat.zero_le _, Nat.zero_le _⟩) hP hD hS hA [] [0, 1, 2] rfl rfl (by decide) (by decide) (fun r30 u_ H locs hq_ hP hD hS => ?_)
    obtain rfl : r30 = lp (un L p0) 2 := hq_
    replace hP : va_P D vwCl [(h8, .inr (1, [.int (-1), .int (nI 1)])), (h, .inr (0, [.ref a, .int (nI L.length)])), (a, .inl (cA, N, .inl f))] H := hP.sub [0, 1, 2] rfl
    replace hD : va_D A [(h8, .inr (1, [.int (-1), .int (nI 1)])), (h, .inr (0, [.ref a, .int (nI L.length)])), (a, .inl (cA, N, .inl f))] := hD.sub [0, 1, 2] (by decide) rfl
    refine lv_rei (y := nI (tn (un L p0) - 192)) (sub_r ea (by omega)) ?_
    refine lv_istore (lv' := [(5, .int (nI (tn (un L p0) - 192))), (4, .int (nI 2)), (3, .int (un L p0)), (0, .ref h8), (1, .ref h), (2, .int (nI p0))]) hx hb dEi_readOne_33 hl (by decide) rfl (fun ls hl => ?_)
    refine lv_iconst (v := nI 1) hx hb dEi_readOne_35 (by decide) ?_
    refine lv_istore (lv' := [(6, .int (nI 1)), (5, .int (nI (tn (un L p0) - 192))), (4, .int (nI 2)), (3, .int (un L p0)), (0, .ref h8), (1, .ref h), (2, .int (nI p0))]) hx hb dEi_readOne_36 hl (by decide) rfl (fun ls hl => ?_)
    refine lv_iload hx hb dEi_readOne_38 (lv_at hl 0 rfl) ?_
    refine lv_iload hx hb dEi_readOne_40 (lv_at hl 2 rfl) ?_
    refine lv_icmp_ge (tgt := 113) hx hb dEi_readOne_42 (by decide) (fun h42 => ?_) (fun h42 => ?_)
    · skip
      exact absurd h42 (by decide)
    · skip
      refine lv_aload_n hx hb dEi_readOne_45 rfl (lv_at hl 5 rfl) ?_
      refine lv_iload_n hx hb dEi_readOne_46 rfl (lv_at hl 6 rfl) ?_
      refine lv_iload hx hb dEi_readOne_47 (lv_at hl 0 rfl) ?_
      refine lv_iadd hx hb dEi_readOne_49 ?_
      refine lv_rei (y := nI (p0 + 1)) (nI_add _ _) ?_
      refine ca_i (wr := [(h8, .inr (1, [.int (-1), .int (nI 1)]))]) (va_runV (As := [.int (nI (p0 + 1))]) (rest := []) Xf (k_Row_unitAt l D cA _ h a N L f (nI (p0 + 1)) hf hc hN) ⟨cb_of 1 hw w_154 w_2 w_151 (by decide +kernel) (by rw [hR]; exact ⟨Nat.le_of_ble_eq_true rfl, Nat.le_of_ble_eq_true rfl⟩), hw _ w_152, hw _ w_153⟩ (pre_V (As := [.int (nI (p0 + 1))]) hP hD hK hn [1, 2] rfl (by decide) 1 0 rfl rfl) rfl rfl hl.1 rfl (lv_room (Nat.le_of_ble_eq_true rfl)) dEi_readOne_50 ⟨Nat.zero_le _, Nat.zero_le _⟩) hP hD hS hA [1, 2] [0] rfl rfl (by decide) (by decide) (fun r50 u_ H locs hq_ hP hD hS => ?_)
      obtain rfl : r50 = un L (p0 + 1) := hq_.trans (gt_n (by omega) (by omega))
      replace hP : va_P D vwCl [(h8, .inr (1, [.int (-1), .int (nI 1)])), (h, .inr (0, [.ref a, .int (nI L.length)])), (a, .inl (cA, N, .inl f))] H := hP.sub [0, 1, 2] rfl
      replace hD : va_D A [(h8, .inr (1, [.int (-1), .int (nI 1)])), (h, .inr (0, [.ref a, .int (nI L.length)])), (a, .inl (cA, N, .inl f))] := hD.sub [0, 1, 2] (by decide) rfl
      refine lv_istore (lv' := [(7, .int (un L (p0 + 1))), (6, .int (nI 1)), (5, .int (nI (tn (un L p0) - 192))), (4, .int (nI 2)), (3, .int (un L p0)), (0, .ref h8), (1, .ref h), (2, .int (nI p0))]) hx hb dEi_readOne_53 hl (by decide) rfl (fun ls hl => ?_)
      refine lv_iload hx hb dEi_readOne_55 (lv_at hl 1 rfl) ?_
      refine lv_iconst (v := nI 1) hx hb dEi_readOne_57 (by decide) ?_
      refine lv_icmp_ne (tgt := 70) hx hb dEi_readOne_58 (by decide) (fun h58 => ?_) (fun h58 => ?_)
      · skip
        exact absurd h58 (by decide)
      · skip
        refine lv_iload_n hx hb dEi_readOne_61 rfl (lv_at hl 4 rfl) ?_
        refine lv_iload hx hb dEi_readOne_62 (lv_at hl 0 rfl) ?_
        refine ca_i (wr := [(h8, .inr (1, [.int (-1), .int (nI 1)])), (h, .inr (0, [.ref a, .int (nI L.length)])), (a, .inl (cA, N, .inl f))]) (va_runS (As := [.int (un L p0), .int (un L (p0 + 1))]) (rest := []) Xf (k_Ei_fitsSecond l D cA _ (un L p0) (un L (p0 + 1))) ⟨cb_of 2 hw w_166 w_4 w_164 (by decide +kernel) (by rw [hR]; exact ⟨Nat.le_of_ble_eq_true rfl, Nat.le_of_ble_eq_true rfl⟩), hw _ w_165⟩ (pre_S hP hD hK hn [] rfl (by decide)) rfl rfl hl.1 rfl (lv_room (Nat.le_of_ble_eq_true rfl)) dEi_readOne_64 ⟨Nat.zero_le _, Nat.zero_le _⟩) hP hD hS hA [] [0, 1, 2] rfl rfl (by decide) (by decide) (fun r64 u_ H locs hq_ hP hD hS => ?_)
        rcases hq_ with ⟨hk64_1, rfl⟩ | ⟨hk64_1, rfl⟩
        · skip
          replace hP : va_P D vwCl [(h8, .inr (1, [.int (-1), .int (nI 1)])), (h, .inr (0, [.ref a, .int (nI L.length)])), (a, .inl (cA, N, .inl f))] H := hP.sub [0, 1, 2] rfl
          replace hD : va_D A [(h8, .inr (1, [.int (-1), .int (nI 1)])), (h, .inr (0, [.ref a, .int (nI L.length)])), (a, .inl (cA, N, .inl f))] := hD.sub [0, 1, 2] (by decide) rfl
          obtain ⟨g1_1, g2_1⟩ := ok2_r hk64_1
          obtain ⟨ea_1, eb_1, ec_1⟩ := tn_of g1_1 (by decide)
          refine lv_goto (tgt := 75) hx hb dEi_readOne_67 (by decide) ?_
          refine lv_istore (lv' := [(8, .int (nI 1)), (7, .int (un L (p0 + 1))), (6, .int (nI 1)), (5, .int (nI (tn (un L p0) - 192))), (4, .int (nI 2)), (3, .int (un L p0)), (0, .ref h8), (1, .ref h), (2, .int (nI p0))]) hx hb dEi_readOne_75 hl (by decide) rfl (fun ls hl => ?_)
          refine lv_iload hx hb dEi_readOne_77 (lv_at hl 0 rfl) ?_
          refine lv_if_ne (tgt := 83) hx hb dEi_readOne_79 (by decide) (fun h79 => ?_) (fun h79 => ?_)
          · skip
            refine lv_iload hx hb dEi_readOne_83 (lv_at hl 3 rfl) ?_
            refine lv_bipush (v := nI 64) hx hb dEi_readOne_85 (by decide) ?_
            refine lv_imul hx hb dEi_readOne_87 ?_
            refine lv_rei (y := nI ((tn (un L p0) - 192) * 64)) (pk_mul _ _) ?_
            refine lv_iload hx hb dEi_readOne_88 (lv_at hl 1 rfl) ?_
            refine lv_iadd hx hb dEi_readOne_90 ?_
            refine lv_rei (y := nI ((tn (un L p0) - 192) * 64 + tn (un L (p0 + 1)))) (add_r ea_1) ?_
            refine lv_sipush (v := nI 128) hx hb dEi_readOne_91 (by decide) ?_
            refine lv_isub hx hb dEi_readOne_94 ?_
            refine lv_rei (y := nI ((tn (un L p0) - 192) * 64 + tn (un L (p0 + 1)) - 128)) (pk_sub (by omega)) ?_
            refine lv_istore (lv' := [(5, .int (nI ((tn (un L p0) - 192) * 64 + tn (un L (p0 + 1)) - 128))), (8, .int (nI 1)), (7, .int (un L (p0 + 1))), (6, .int (nI 1)), (4, .int (nI 2)), (3, .int (un L p0)), (0, .ref h8), (1, .ref h), (2, .int (nI p0))]) hx hb dEi_readOne_95 hl (by decide) rfl (fun ls hl => ?_)
            refine lv_aload_n hx hb dEi_readOne_97 rfl (lv_at hl 6 rfl) ?_
            refine lv_dup hx hb dEi_readOne_98 rfl ?_
            refine va_get (D := D) (ci := 1) (v := .int (nI 1)) (C := R_Ei) (T := T_Ei) (N := 2) hx hb hw in_Ei hown hK hP 0 rfl rfl 1 (by decide) (hw _ w_50) (fun x9 h9 => u_same (hw _ w_51) x9 h9) rfl dEi_readOne_99 ?_
            refine lv_iconst (v := nI 1) hx hb dEi_readOne_102 (by decide) ?_
            refine lv_iadd hx hb dEi_readOne_103 ?_
            refine lv_rei (y := nI 2) (by decide) ?_
            refine va_put (D := D) (ci := 1) (v := .int (nI 2)) (ty := .int) (C := R_Ei) (T := T_Ei) (N := 2) hx hb hw in_Ei ty_Ei ty_Ei_ok nm_Ei hown hK hP hD hS 0 rfl rfl 1 (by decide) (hw _ w_50) (fun x9 h9 => u_same (hw _ w_51) x9 h9) rfl (by decide +kernel) rfl rfl (Nat.le_of_ble_eq_true rfl) dEi_readOne_104 (fun H locs hP hD hS => ?_)
            have hP : va_P D vwCl [(h8, .inr (1, [.int (-1), .int (nI 2)])), (h, .inr (0, [.ref a, .int (nI L.length)])), (a, .inl (cA, N, .inl f))] H := hP
            have hD : va_D A [(h8, .inr (1, [.int (-1), .int (nI 2)])), (h, .inr (0, [.ref a, .int (nI L.length)])), (a, .inl (cA, N, .inl f))] := hD
            refine lv_iinc (k := 3) (v := nI 2) (lv' := [(6, .int (nI 2)), (5, .int (nI ((tn (un L p0) - 192) * 64 + tn (un L (p0 + 1)) - 128))), (8, .int (nI 1)), (7, .int (un L (p0 + 1))), (4, .int (nI 2)), (3, .int (un L p0)), (0, .ref h8), (1, .ref h), (2, .int (nI p0))]) hx hb dEi_readOne_107 hl rfl (by decide) (by decide) rfl (fun ls hl => ?_)
            refine lv_goto (tgt := 38) hx hb dEi_readOne_110 (by decide) ?_
            refine lv_iload hx hb dEi_readOne_38 (lv_at hl 0 rfl) ?_
            refine lv_iload hx hb dEi_readOne_40 (lv_at hl 4 rfl) ?_
            refine lv_icmp_ge (tgt := 113) hx hb dEi_readOne_42 (by decide) (fun h42_2 => ?_) (fun h42_2 => ?_)
            · skip
              refine lv_iload hx hb dEi_readOne_113 (lv_at hl 4 rfl) ?_
              refine lv_if_le (tgt := 124) hx hb dEi_readOne_115 (by decide) (fun h115 => ?_) (fun h115 => ?_)
              · skip
                exact absurd h115 (by decide)
              · skip
                refine lv_aload_n hx hb dEi_readOne_118 rfl (lv_at hl 6 rfl) ?_
                refine lv_iload hx hb dEi_readOne_119 (lv_at hl 1 rfl) ?_
                refine va_put (D := D) (ci := 1) (v := .int (nI ((tn (un L p0) - 192) * 64 + tn (un L (p0 + 1)) - 128))) (ty := .int) (C := R_Ei) (T := T_Ei) (N := 2) hx hb hw in_Ei ty_Ei ty_Ei_ok nm_Ei hown hK hP hD hS 0 rfl rfl 0 (by decide) (hw _ w_45) (fun x9 h9 => u_same (hw _ w_46) x9 h9) rfl (by decide +kernel) rfl rfl (Nat.le_of_ble_eq_true rfl) dEi_readOne_121 (fun H locs hP hD hS => ?_)
                have hP : va_P D vwCl [(h8, .inr (1, [.int (nI ((tn (un L p0) - 192) * 64 + tn (un L (p0 + 1)) - 128)), .int (nI 2)])), (h, .inr (0, [.ref a, .int (nI L.length)])), (a, .inl (cA, N, .inl f))] H := hP
                have hD : va_D A [(h8, .inr (1, [.int (nI ((tn (un L p0) - 192) * 64 + tn (un L (p0 + 1)) - 128)), .int (nI 2)])), (h, .inr (0, [.ref a, .int (nI L.length)])), (a, .inl (cA, N, .inl f))] := hD
                have er : rd8 (un L) p0 = (some ((tn (un L p0) - 192) * 64 + tn (un L (p0 + 1)) - 128), 2) := by simp [rd8, e8, hk64_1]
                replace hP : va_P D vwCl [(h8, .inr (1, [.int (ov (rd8 (un L) p0).1), .int (nI (rd8 (un L) p0).2)])), (h, .inr (0, [.ref a, .int (nI L.length)])), (a, .inl (cA, N, .inl f))] H := by rw [er]; exact hP
                replace hD : va_D A [(h8, .inr (1, [.int (ov (rd8 (un L) p0).1), .int (nI (rd8 (un L) p0).2)])), (h, .inr (0, [.ref a, .int (nI L.length)])), (a, .inl (cA, N, .inl f))] := by rw [er]; exact hD
                exact ret () dEi_readOne_124 trivial hP hD hS
            · skip
              exact absurd h42_2 (by decide)
          · skip
            exact absurd h79 (by decide)
        · skip
          replace hP : va_P D vwCl [(h8, .inr (1, [.int (-1), .int (nI 1)])), (h, .inr (0, [.ref a, .int (nI L.length)])), (a, .inl (cA, N, .inl f))] H := hP.sub [0, 1, 2] rfl
          replace hD : va_D A [(h8, .inr (1, [.int (-1), .int (nI 1)])), (h, .inr (0, [.ref a, .int (nI L.length)])), (a, .inl (cA, N, .inl f))] := hD.sub [0, 1, 2] (by decide) rfl
          refine lv_goto (tgt := 75) hx hb dEi_readOne_67 (by decide) ?_
          refine lv_istore (lv' := [(8, .int (nI 0)), (7, .int (un L (p0 + 1))), (6, .int (nI 1)), (5, .int (nI (tn (un L p0) - 192))), (4, .int (nI 2)), (3, .int (un L p0)), (0, .ref h8), (1, .ref h), (2, .int (nI p0))]) hx hb dEi_readOne_75 hl (by decide) rfl (fun ls hl => ?_)
          refine lv_iload hx hb dEi_readOne_77 (lv_at hl 0 rfl) ?_
          refine lv_if_ne (tgt := 83) hx hb dEi_readOne_79 (by decide) (fun h79 => ?_) (fun h79 => ?_)
          · skip
            exact absurd h79 (by decide)
          · skip
            have er : rd8 (un L) p0 = (none, 1) := by simp [rd8, e8, hk64_1]
            replace hP : va_P D vwCl [(h8, .inr (1, [.int (ov (rd8 (un L) p0).1), .int (nI (rd8 (un L) p0).2)])), (h, .inr (0, [.ref a, .int (nI L.length)])), (a, .inl (cA, N, .inl f))] H := by rw [er]; exact hP
            replace hD : va_D A [(h8, .inr (1, [.int (ov (rd8 (un L) p0).1), .int (nI (rd8 (un L) p0).2)])), (h, .inr (0, [.ref a, .int (nI L.length)])), (a, .inl (cA, N, .inl f))] := by rw [er]; exact hD
            exact ret () dEi_readOne_82 trivial hP hD hS
  · skip
    rw [e8]
    obtain ⟨ea, eb, ec⟩ := tn_of b1 (by decide)
    refine lv_istore (lv' := [(4, .int (nI 3)), (3, .int (un L p0)), (0, .ref h8), (1, .ref h), (2, .int (nI p0))]) hx hb dEi_readOne_10 hl (by decide) rfl (fun ls hl => ?_)
    refine lv_aload_n hx hb dEi_readOne_12 rfl (lv_at hl 2 rfl) ?_
    refine lv_iconst (v := (-1)) hx hb dEi_readOne_13 (by decide) ?_
    refine va_put (D := D) (ci := 1) (v := .int (-1)) (ty := .int) (C := R_Ei) (T := T_Ei) (N := 2) hx hb hw in_Ei ty_Ei ty_Ei_ok nm_Ei hown hK hP hD hS 0 rfl rfl 0 (by decide) (hw _ w_45) (fun x9 h9 => u_same (hw _ w_46) x9 h9) rfl (by decide +kernel) rfl rfl (Nat.le_of_ble_eq_true rfl) dEi_readOne_14 (fun H locs hP hD hS => ?_)
    have hP : va_P D vwCl [(h8, .inr (1, [.int (-1), .int tk])), (h, .inr (0, [.ref a, .int (nI L.length)])), (a, .inl (cA, N, .inl f))] H := hP
    have hD : va_D A [(h8, .inr (1, [.int (-1), .int tk])), (h, .inr (0, [.ref a, .int (nI L.length)])), (a, .inl (cA, N, .inl f))] := hD
    refine lv_aload_n hx hb dEi_readOne_17 rfl (lv_at hl 2 rfl) ?_
    refine lv_iconst (v := nI 1) hx hb dEi_readOne_18 (by decide) ?_
    refine lv_iload hx hb dEi_readOne_19 (lv_at hl 0 rfl) ?_
    refine va_mmin hx hb (Xf.2.2.1.trans hl.1.symm) hown (hw _ w_158) (hw _ w_159) (hw _ w_8) (hw _ w_160) (by rw [hR]; exact Nat.le_of_ble_eq_true rfl) (by rw [hR]; exact Nat.le_of_ble_eq_true rfl) (Nat.zero_le _) (Nat.zero_le _) dEi_readOne_21 ?_
    refine lv_rei (y := nI 1) (by decide) ?_
    refine va_put (D := D) (ci := 1) (v := .int (nI 1)) (ty := .int) (C := R_Ei) (T := T_Ei) (N := 2) hx hb hw in_Ei ty_Ei ty_Ei_ok nm_Ei hown hK hP hD hS 0 rfl rfl 1 (by decide) (hw _ w_50) (fun x9 h9 => u_same (hw _ w_51) x9 h9) rfl (by decide +kernel) rfl rfl (Nat.le_of_ble_eq_true rfl) dEi_readOne_24 (fun H locs hP hD hS => ?_)
    have hP : va_P D vwCl [(h8, .inr (1, [.int (-1), .int (nI 1)])), (h, .inr (0, [.ref a, .int (nI L.length)])), (a, .inl (cA, N, .inl f))] H := hP
    have hD : va_D A [(h8, .inr (1, [.int (-1), .int (nI 1)])), (h, .inr (0, [.ref a, .int (nI L.length)])), (a, .inl (cA, N, .inl f))] := hD
    refine lv_iload_n hx hb dEi_readOne_27 rfl (lv_at hl 1 rfl) ?_
    refine lv_iload hx hb dEi_readOne_28 (lv_at hl 0 rfl) ?_
    refine ca_i (wr := [(h8, .inr (1, [.int (-1), .int (nI 1)])), (h, .inr (0, [.ref a, .int (nI L.length)])), (a, .inl (cA, N, .inl f))]) (va_runS (As := [.int (un L p0), .int (nI 3)]) (rest := []) Xf (k_Ei_leadPart l D cA _ (un L p0) 3 (by decide)) ⟨cb_of 2 hw w_163 w_4 w_161 (by decide +kernel) (by rw [hR]; exact ⟨Nat.le_of_ble_eq_true rfl, Nat.le_of_ble_eq_true rfl⟩), hw _ w_162⟩ (pre_S hP hD hK hn [] rfl (by decide)) rfl rfl hl.1 rfl (lv_room (Nat.le_of_ble_eq_true rfl)) dEi_readOne_30 ⟨Nat.zero_le _, Nat.zero_le _⟩) hP hD hS hA [] [0, 1, 2] rfl rfl (by decide) (by decide) (fun r30 u_ H locs hq_ hP hD hS => ?_)
    obtain rfl : r30 = lp (un L p0) 3 := hq_
    replace hP : va_P D vwCl [(h8, .inr (1, [.int (-1), .int (nI 1)])), (h, .inr (0, [.ref a, .int (nI L.length)])), (a, .inl (cA, N, .inl f))] H := hP.sub [0, 1, 2] rfl
    replace hD : va_D A [(h8, .inr (1, [.int (-1), .int (nI 1)])), (h, .inr (0, [.ref a, .int (nI L.length)])), (a, .inl (cA, N, .inl f))] := hD.sub [0, 1, 2] (by decide) rfl
    refine lv_rei (y := nI (tn (un L p0) - 224)) (sub_r ea (by omega)) ?_
    refine lv_istore (lv' := [(5, .int (nI (tn (un L p0) - 224))), (4, .int (nI 3)), (3, .int (un L p0)), (0, .ref h8), (1, .ref h), (2, .int (nI p0))]) hx hb dEi_readOne_33 hl (by decide) rfl (fun ls hl => ?_)
    refine lv_iconst (v := nI 1) hx hb dEi_readOne_35 (by decide) ?_
    refine lv_istore (lv' := [(6, .int (nI 1)), (5, .int (nI (tn (un L p0) - 224))), (4, .int (nI 3)), (3, .int (un L p0)), (0, .ref h8), (1, .ref h), (2, .int (nI p0))]) hx hb dEi_readOne_36 hl (by decide) rfl (fun ls hl => ?_)
    refine lv_iload hx hb dEi_readOne_38 (lv_at hl 0 rfl) ?_
    refine lv_iload hx hb dEi_readOne_40 (lv_at hl 2 rfl) ?_
    refine lv_icmp_ge (tgt := 113) hx hb dEi_readOne_42 (by decide) (fun h42 => ?_) (fun h42 => ?_)
    · skip
      exact absurd h42 (by decide)
    · skip
      refine lv_aload_n hx hb dEi_readOne_45 rfl (lv_at hl 5 rfl) ?_
      refine lv_iload_n hx hb dEi_readOne_46 rfl (lv_at hl 6 rfl) ?_
      refine lv_iload hx hb dEi_readOne_47 (lv_at hl 0 rfl) ?_
      refine lv_iadd hx hb dEi_readOne_49 ?_
      refine lv_rei (y := nI (p0 + 1)) (nI_add _ _) ?_
      refine ca_i (wr := [(h8, .inr (1, [.int (-1), .int (nI 1)]))]) (va_runV (As := [.int (nI (p0 + 1))]) (rest := []) Xf (k_Row_unitAt l D cA _ h a N L f (nI (p0 + 1)) hf hc hN) ⟨cb_of 1 hw w_154 w_2 w_151 (by decide +kernel) (by rw [hR]; exact ⟨Nat.le_of_ble_eq_true rfl, Nat.le_of_ble_eq_true rfl⟩), hw _ w_152, hw _ w_153⟩ (pre_V (As := [.int (nI (p0 + 1))]) hP hD hK hn [1, 2] rfl (by decide) 1 0 rfl rfl) rfl rfl hl.1 rfl (lv_room (Nat.le_of_ble_eq_true rfl)) dEi_readOne_50 ⟨Nat.zero_le _, Nat.zero_le _⟩) hP hD hS hA [1, 2] [0] rfl rfl (by decide) (by decide) (fun r50 u_ H locs hq_ hP hD hS => ?_)
      obtain rfl : r50 = un L (p0 + 1) := hq_.trans (gt_n (by omega) (by omega))
      replace hP : va_P D vwCl [(h8, .inr (1, [.int (-1), .int (nI 1)])), (h, .inr (0, [.ref a, .int (nI L.length)])), (a, .inl (cA, N, .inl f))] H := hP.sub [0, 1, 2] rfl
      replace hD : va_D A [(h8, .inr (1, [.int (-1), .int (nI 1)])), (h, .inr (0, [.ref a, .int (nI L.length)])), (a, .inl (cA, N, .inl f))] := hD.sub [0, 1, 2] (by decide) rfl
      refine lv_istore (lv' := [(7, .int (un L (p0 + 1))), (6, .int (nI 1)), (5, .int (nI (tn (un L p0) - 224))), (4, .int (nI 3)), (3, .int (un L p0)), (0, .ref h8), (1, .ref h), (2, .int (nI p0))]) hx hb dEi_readOne_53 hl (by decide) rfl (fun ls hl => ?_)
      refine lv_iload hx hb dEi_readOne_55 (lv_at hl 1 rfl) ?_
      refine lv_iconst (v := nI 1) hx hb dEi_readOne_57 (by decide) ?_
      refine lv_icmp_ne (tgt := 70) hx hb dEi_readOne_58 (by decide) (fun h58 => ?_) (fun h58 => ?_)
      · skip
        exact absurd h58 (by decide)
      · skip
        refine lv_iload_n hx hb dEi_readOne_61 rfl (lv_at hl 4 rfl) ?_
        refine lv_iload hx hb dEi_readOne_62 (lv_at hl 0 rfl) ?_
        refine ca_i (wr := [(h8, .inr (1, [.int (-1), .int (nI 1)])), (h, .inr (0, [.ref a, .int (nI L.length)])), (a, .inl (cA, N, .inl f))]) (va_runS (As := [.int (un L p0), .int (un L (p0 + 1))]) (rest := []) Xf (k_Ei_fitsSecond l D cA _ (un L p0) (un L (p0 + 1))) ⟨cb_of 2 hw w_166 w_4 w_164 (by decide +kernel) (by rw [hR]; exact ⟨Nat.le_of_ble_eq_true rfl, Nat.le_of_ble_eq_true rfl⟩), hw _ w_165⟩ (pre_S hP hD hK hn [] rfl (by decide)) rfl rfl hl.1 rfl (lv_room (Nat.le_of_ble_eq_true rfl)) dEi_readOne_64 ⟨Nat.zero_le _, Nat.zero_le _⟩) hP hD hS hA [] [0, 1, 2] rfl rfl (by decide) (by decide) (fun r64 u_ H locs hq_ hP hD hS => ?_)
        rcases hq_ with ⟨hk64_2, rfl⟩ | ⟨hk64_2, rfl⟩
        · skip
          replace hP : va_P D vwCl [(h8, .inr (1, [.int (-1), .int (nI 1)])), (h, .inr (0, [.ref a, .int (nI L.length)])), (a, .inl (cA, N, .inl f))] H := hP.sub [0, 1, 2] rfl
          replace hD : va_D A [(h8, .inr (1, [.int (-1), .int (nI 1)])), (h, .inr (0, [.ref a, .int (nI L.length)])), (a, .inl (cA, N, .inl f))] := hD.sub [0, 1, 2] (by decide) rfl
          obtain ⟨g1_1, g2_1⟩ := ok2_r hk64_2
          obtain ⟨ea_1, eb_1, ec_1⟩ := tn_of g1_1 (by decide)
          refine lv_goto (tgt := 75) hx hb dEi_readOne_67 (by decide) ?_
          refine lv_istore (lv' := [(8, .int (nI 1)), (7, .int (un L (p0 + 1))), (6, .int (nI 1)), (5, .int (nI (tn (un L p0) - 224))), (4, .int (nI 3)), (3, .int (un L p0)), (0, .ref h8), (1, .ref h), (2, .int (nI p0))]) hx hb dEi_readOne_75 hl (by decide) rfl (fun ls hl => ?_)
          refine lv_iload hx hb dEi_readOne_77 (lv_at hl 0 rfl) ?_
          refine lv_if_ne (tgt := 83) hx hb dEi_readOne_79 (by decide) (fun h79 => ?_) (fun h79 => ?_)
          · skip
            refine lv_iload hx hb dEi_readOne_83 (lv_at hl 3 rfl) ?_
            refine lv_bipush (v := nI 64) hx hb dEi_readOne_85 (by decide) ?_
            refine lv_imul hx hb dEi_readOne_87 ?_
            refine lv_rei (y := nI ((tn (un L p0) - 224) * 64)) (pk_mul _ _) ?_
            refine lv_iload hx hb dEi_readOne_88 (lv_at hl 1 rfl) ?_
            refine lv_iadd hx hb dEi_readOne_90 ?_
            refine lv_rei (y := nI ((tn (un L p0) - 224) * 64 + tn (un L (p0 + 1)))) (add_r ea_1) ?_
            refine lv_sipush (v := nI 128) hx hb dEi_readOne_91 (by decide) ?_
            refine lv_isub hx hb dEi_readOne_94 ?_
            refine lv_rei (y := nI ((tn (un L p0) - 224) * 64 + tn (un L (p0 + 1)) - 128)) (pk_sub (by omega)) ?_
            refine lv_istore (lv' := [(5, .int (nI ((tn (un L p0) - 224) * 64 + tn (un L (p0 + 1)) - 128))), (8, .int (nI 1)), (7, .int (un L (p0 + 1))), (6, .int (nI 1)), (4, .int (nI 3)), (3, .int (un L p0)), (0, .ref h8), (1, .ref h), (2, .int (nI p0))]) hx hb dEi_readOne_95 hl (by decide) rfl (fun ls hl => ?_)
            refine lv_aload_n hx hb dEi_readOne_97 rfl (lv_at hl 6 rfl) ?_
            refine lv_dup hx hb dEi_readOne_98 rfl ?_
            refine va_get (D := D) (ci := 1) (v := .int (nI 1)) (C := R_Ei) (T := T_Ei) (N := 2) hx hb hw in_Ei hown hK hP 0 rfl rfl 1 (by decide) (hw _ w_50) (fun x9 h9 => u_same (hw _ w_51) x9 h9) rfl dEi_readOne_99 ?_
            refine lv_iconst (v := nI 1) hx hb dEi_readOne_102 (by decide) ?_
            refine lv_iadd hx hb dEi_readOne_103 ?_
            refine lv_rei (y := nI 2) (by decide) ?_
            refine va_put (D := D) (ci := 1) (v := .int (nI 2)) (ty := .int) (C := R_Ei) (T := T_Ei) (N := 2) hx hb hw in_Ei ty_Ei ty_Ei_ok nm_Ei hown hK hP hD hS 0 rfl rfl 1 (by decide) (hw _ w_50) (fun x9 h9 => u_same (hw _ w_51) x9 h9) rfl (by decide +kernel) rfl rfl (Nat.le_of_ble_eq_true rfl) dEi_readOne_104 (fun H locs hP hD hS => ?_)
            have hP : va_P D vwCl [(h8, .inr (1, [.int (-1), .int (nI 2)])), (h, .inr (0, [.ref a, .int (nI L.length)])), (a, .inl (cA, N, .inl f))] H := hP
            have hD : va_D A [(h8, .inr (1, [.int (-1), .int (nI 2)])), (h, .inr (0, [.ref a, .int (nI L.length)])), (a, .inl (cA, N, .inl f))] := hD
            refine lv_iinc (k := 3) (v := nI 2) (lv' := [(6, .int (nI 2)), (5, .int (nI ((tn (un L p0) - 224) * 64 + tn (un L (p0 + 1)) - 128))), (8, .int (nI 1)), (7, .int (un L (p0 + 1))), (4, .int (nI 3)), (3, .int (un L p0)), (0, .ref h8), (1, .ref h), (2, .int (nI p0))]) hx hb dEi_readOne_107 hl rfl (by decide) (by decide) rfl (fun ls hl => ?_)
            refine lv_goto (tgt := 38) hx hb dEi_readOne_110 (by decide) ?_
            refine lv_iload hx hb dEi_readOne_38 (lv_at hl 0 rfl) ?_
            refine lv_iload hx hb dEi_readOne_40 (lv_at hl 4 rfl) ?_
            refine lv_icmp_ge (tgt := 113) hx hb dEi_readOne_42 (by decide) (fun h42_2 => ?_) (fun h42_2 => ?_)
            · skip
              exact absurd h42_2 (by decide)
            · skip
              refine lv_aload_n hx hb dEi_readOne_45 rfl (lv_at hl 7 rfl) ?_
              refine lv_iload_n hx hb dEi_readOne_46 rfl (lv_at hl 8 rfl) ?_
              refine lv_iload hx hb dEi_readOne_47 (lv_at hl 0 rfl) ?_
              refine lv_iadd hx hb dEi_readOne_49 ?_
              refine lv_rei (y := nI (p0 + 2)) (nI_add _ _) ?_
              refine ca_i (wr := [(h8, .inr (1, [.int (-1), .int (nI 2)]))]) (va_runV (As := [.int (nI (p0 + 2))]) (rest := []) Xf (k_Row_unitAt l D cA _ h a N L f (nI (p0 + 2)) hf hc hN) ⟨cb_of 1 hw w_154 w_2 w_151 (by decide +kernel) (by rw [hR]; exact ⟨Nat.le_of_ble_eq_true rfl, Nat.le_of_ble_eq_true rfl⟩), hw _ w_152, hw _ w_153⟩ (pre_V (As := [.int (nI (p0 + 2))]) hP hD hK hn [1, 2] rfl (by decide) 1 0 rfl rfl) rfl rfl hl.1 rfl (lv_room (Nat.le_of_ble_eq_true rfl)) dEi_readOne_50 ⟨Nat.zero_le _, Nat.zero_le _⟩) hP hD hS hA [1, 2] [0] rfl rfl (by decide) (by decide) (fun r50 u_ H locs hq_ hP hD hS => ?_)
              obtain rfl : r50 = un L (p0 + 2) := hq_.trans (gt_n (by omega) (by omega))
              replace hP : va_P D vwCl [(h8, .inr (1, [.int (-1), .int (nI 2)])), (h, .inr (0, [.ref a, .int (nI L.length)])), (a, .inl (cA, N, .inl f))] H := hP.sub [0, 1, 2] rfl
              replace hD : va_D A [(h8, .inr (1, [.int (-1), .int (nI 2)])), (h, .inr (0, [.ref a, .int (nI L.length)])), (a, .inl (cA, N, .inl f))] := hD.sub [0, 1, 2] (by decide) rfl
              refine lv_istore (lv' := [(7, .int (un L (p0 + 2))), (6, .int (nI 2)), (5, .int (nI ((tn (un L p0) - 224) * 64 + tn (un L (p0 + 1)) - 128))), (8, .int (nI 1)), (4, .int (nI 3)), (3, .int (un L p0)), (0, .ref h8), (1, .ref h), (2, .int (nI p0))]) hx hb dEi_readOne_53 hl (by decide) rfl (fun ls hl => ?_)
              refine lv_iload hx hb dEi_readOne_55 (lv_at hl 1 rfl) ?_
              refine lv_iconst (v := nI 1) hx hb dEi_readOne_57 (by decide) ?_
              refine lv_icmp_ne (tgt := 70) hx hb dEi_readOne_58 (by decide) (fun h58_2 => ?_) (fun h58_2 => ?_)
              · skip
                refine lv_iload hx hb dEi_readOne_70 (lv_at hl 0 rfl) ?_
                refine ca_i (wr := [(h8, .inr (1, [.int (-1), .int (nI 2)])), (h, .inr (0, [.ref a, .int (nI L.length)])), (a, .inl (cA, N, .inl f))]) (va_runS (As := [.int (un L (p0 + 2))]) (rest := []) Xf (k_Ei_fitsFurther l D cA _ (un L (p0 + 2))) ⟨cb_of 1 hw w_169 w_4 w_167 (by decide +kernel) (by rw [hR]; exact ⟨Nat.le_of_ble_eq_true rfl, Nat.le_of_ble_eq_true rfl⟩), hw _ w_168⟩ (pre_S hP hD hK hn [] rfl (by decide)) rfl rfl hl.1 rfl (lv_room (Nat.le_of_ble_eq_true rfl)) dEi_readOne_72 ⟨Nat.zero_le _, Nat.zero_le _⟩) hP hD hS hA [] [0, 1, 2] rfl rfl (by decide) (by decide) (fun r72 u_ H locs hq_ hP hD hS => ?_)
                rcases hq_ with ⟨hk72_3, rfl⟩ | ⟨hk72_3, rfl⟩
                · skip
                  replace hP : va_P D vwCl [(h8, .inr (1, [.int (-1), .int (nI 2)])), (h, .inr (0, [.ref a, .int (nI L.length)])), (a, .inl (cA, N, .inl f))] H := hP.sub [0, 1, 2] rfl
                  replace hD : va_D A [(h8, .inr (1, [.int (-1), .int (nI 2)])), (h, .inr (0, [.ref a, .int (nI L.length)])), (a, .inl (cA, N, .inl f))] := hD.sub [0, 1, 2] (by decide) rfl
                  obtain ⟨g1_2, g2_2⟩ := ok3_r hk72_3
                  obtain ⟨ea_2, eb_2, ec_2⟩ := tn_of g1_2 (by decide)
                  refine lv_istore (lv' := [(8, .int (nI 1)), (7, .int (un L (p0 + 2))), (6, .int (nI 2)), (5, .int (nI ((tn (un L p0) - 224) * 64 + tn (un L (p0 + 1)) - 128))), (4, .int (nI 3)), (3, .int (un L p0)), (0, .ref h8), (1, .ref h), (2, .int (nI p0))]) hx hb dEi_readOne_75 hl (by decide) rfl (fun ls hl => ?_)
                  refine lv_iload hx hb dEi_readOne_77 (lv_at hl 0 rfl) ?_
                  refine lv_if_ne (tgt := 83) hx hb dEi_readOne_79 (by decide) (fun h79_2 => ?_) (fun h79_2 => ?_)
                  · skip
                    refine lv_iload hx hb dEi_readOne_83 (lv_at hl 3 rfl) ?_
                    refine lv_bipush (v := nI 64) hx hb dEi_readOne_85 (by decide) ?_
                    refine lv_imul hx hb dEi_readOne_87 ?_
                    refine lv_rei (y := nI (((tn (un L p0) - 224) * 64 + tn (un L (p0 + 1)) - 128) * 64)) (pk_mul _ _) ?_
                    refine lv_iload hx hb dEi_readOne_88 (lv_at hl 1 rfl) ?_
                    refine lv_iadd hx hb dEi_readOne_90 ?_
                    refine lv_rei (y := nI (((tn (un L p0) - 224) * 64 + tn (un L (p0 + 1)) - 128) * 64 + tn (un L (p0 + 2)))) (add_r ea_2) ?_
                    refine lv_sipush (v := nI 128) hx hb dEi_readOne_91 (by decide) ?_
                    refine lv_isub hx hb dEi_readOne_94 ?_
                    refine lv_rei (y := nI (((tn (un L p0) - 224) * 64 + tn (un L (p0 + 1)) - 128) * 64 + tn (un L (p0 + 2)) - 128)) (pk_sub (by omega)) ?_
                    refine lv_istore (lv' := [(5, .int (nI (((tn (un L p0) - 224) * 64 + tn (un L (p0 + 1)) - 128) * 64 + tn (un L (p0 + 2)) - 128))), (8, .int (nI 1)), (7, .int (un L (p0 + 2))), (6, .int (nI 2)), (4, .int (nI 3)), (3, .int (un L p0)), (0, .ref h8), (1, .ref h), (2, .int (nI p0))]) hx hb dEi_readOne_95 hl (by decide) rfl (fun ls hl => ?_)
                    refine lv_aload_n hx hb dEi_readOne_97 rfl (lv_at hl 6 rfl) ?_
                    refine lv_dup hx hb dEi_readOne_98 rfl ?_
                    refine va_get (D := D) (ci := 1) (v := .int (nI 2)) (C := R_Ei) (T := T_Ei) (N := 2) hx hb hw in_Ei hown hK hP 0 rfl rfl 1 (by decide) (hw _ w_50) (fun x9 h9 => u_same (hw _ w_51) x9 h9) rfl dEi_readOne_99 ?_
                    refine lv_iconst (v := nI 1) hx hb dEi_readOne_102 (by decide) ?_
                    refine lv_iadd hx hb dEi_readOne_103 ?_
                    refine lv_rei (y := nI 3) (by decide) ?_
                    refine va_put (D := D) (ci := 1) (v := .int (nI 3)) (ty := .int) (C := R_Ei) (T := T_Ei) (N := 2) hx hb hw in_Ei ty_Ei ty_Ei_ok nm_Ei hown hK hP hD hS 0 rfl rfl 1 (by decide) (hw _ w_50) (fun x9 h9 => u_same (hw _ w_51) x9 h9) rfl (by decide +kernel) rfl rfl (Nat.le_of_ble_eq_true rfl) dEi_readOne_104 (fun H locs hP hD hS => ?_)
                    have hP : va_P D vwCl [(h8, .inr (1, [.int (-1), .int (nI 3)])), (h, .inr (0, [.ref a, .int (nI L.length)])), (a, .inl (cA, N, .inl f))] H := hP
                    have hD : va_D A [(h8, .inr (1, [.int (-1), .int (nI 3)])), (h, .inr (0, [.ref a, .int (nI L.length)])), (a, .inl (cA, N, .inl f))] := hD
                    refine lv_iinc (k := 3) (v := nI 3) (lv' := [(6, .int (nI 3)), (5, .int (nI (((tn (un L p0) - 224) * 64 + tn (un L (p0 + 1)) - 128) * 64 + tn (un L (p0 + 2)) - 128))), (8, .int (nI 1)), (7, .int (un L (p0 + 2))), (4, .int (nI 3)), (3, .int (un L p0)), (0, .ref h8), (1, .ref h), (2, .int (nI p0))]) hx hb dEi_readOne_107 hl rfl (by decide) (by decide) rfl (fun ls hl => ?_)
                    refine lv_goto (tgt := 38) hx hb dEi_readOne_110 (by decide) ?_
                    refine lv_iload hx hb dEi_readOne_38 (lv_at hl 0 rfl) ?_
                    refine lv_iload hx hb dEi_readOne_40 (lv_at hl 4 rfl) ?_
                    refine lv_icmp_ge (tgt := 113) hx hb dEi_readOne_42 (by decide) (fun h42_3 => ?_) (fun h42_3 => ?_)
                    · skip
                      refine lv_iload hx hb dEi_readOne_113 (lv_at hl 4 rfl) ?_
                      refine lv_if_le (tgt := 124) hx hb dEi_readOne_115 (by decide) (fun h115 => ?_) (fun h115 => ?_)
                      · skip
                        exact absurd h115 (by decide)
                      · skip
                        refine lv_aload_n hx hb dEi_readOne_118 rfl (lv_at hl 6 rfl) ?_
                        refine lv_iload hx hb dEi_readOne_119 (lv_at hl 1 rfl) ?_
                        refine va_put (D := D) (ci := 1) (v := .int (nI (((tn (un L p0) - 224) * 64 + tn (un L (p0 + 1)) - 128) * 64 + tn (un L (p0 + 2)) - 128))) (ty := .int) (C := R_Ei) (T := T_Ei) (N := 2) hx hb hw in_Ei ty_Ei ty_Ei_ok nm_Ei hown hK hP hD hS 0 rfl rfl 0 (by decide) (hw _ w_45) (fun x9 h9 => u_same (hw _ w_46) x9 h9) rfl (by decide +kernel) rfl rfl (Nat.le_of_ble_eq_true rfl) dEi_readOne_121 (fun H locs hP hD hS => ?_)
                        have hP : va_P D vwCl [(h8, .inr (1, [.int (nI (((tn (un L p0) - 224) * 64 + tn (un L (p0 + 1)) - 128) * 64 + tn (un L (p0 + 2)) - 128)), .int (nI 3)])), (h, .inr (0, [.ref a, .int (nI L.length)])), (a, .inl (cA, N, .inl f))] H := hP
                        have hD : va_D A [(h8, .inr (1, [.int (nI (((tn (un L p0) - 224) * 64 + tn (un L (p0 + 1)) - 128) * 64 + tn (un L (p0 + 2)) - 128)), .int (nI 3)])), (h, .inr (0, [.ref a, .int (nI L.length)])), (a, .inl (cA, N, .inl f))] := hD
                        have er : rd8 (un L) p0 = (some (((tn (un L p0) - 224) * 64 + tn (un L (p0 + 1)) - 128) * 64 + tn (un L (p0 + 2)) - 128), 3) := by simp [rd8, e8, hk64_2, hk72_3]
                        replace hP : va_P D vwCl [(h8, .inr (1, [.int (ov (rd8 (un L) p0).1), .int (nI (rd8 (un L) p0).2)])), (h, .inr (0, [.ref a, .int (nI L.length)])), (a, .inl (cA, N, .inl f))] H := by rw [er]; exact hP
                        replace hD : va_D A [(h8, .inr (1, [.int (ov (rd8 (un L) p0).1), .int (nI (rd8 (un L) p0).2)])), (h, .inr (0, [.ref a, .int (nI L.length)])), (a, .inl (cA, N, .inl f))] := by rw [er]; exact hD
                        exact ret () dEi_readOne_124 trivial hP hD hS
                    · skip
                      exact absurd h42_3 (by decide)
                  · skip
                    exact absurd h79_2 (by decide)
                · skip
                  replace hP : va_P D vwCl [(h8, .inr (1, [.int (-1), .int (nI 2)])), (h, .inr (0, [.ref a, .int (nI L.length)])), (a, .inl (cA, N, .inl f))] H := hP.sub [0, 1, 2] rfl
                  replace hD : va_D A [(h8, .inr (1, [.int (-1), .int (nI 2)])), (h, .inr (0, [.ref a, .int (nI L.length)])), (a, .inl (cA, N, .inl f))] := hD.sub [0, 1, 2] (by decide) rfl
                  refine lv_istore (lv' := [(8, .int (nI 0)), (7, .int (un L (p0 + 2))), (6, .int (nI 2)), (5, .int (nI ((tn (un L p0) - 224) * 64 + tn (un L (p0 + 1)) - 128))), (4, .int (nI 3)), (3, .int (un L p0)), (0, .ref h8), (1, .ref h), (2, .int (nI p0))]) hx hb dEi_readOne_75 hl (by decide) rfl (fun ls hl => ?_)
                  refine lv_iload hx hb dEi_readOne_77 (lv_at hl 0 rfl) ?_
                  refine lv_if_ne (tgt := 83) hx hb dEi_readOne_79 (by decide) (fun h79_2 => ?_) (fun h79_2 => ?_)
                  · skip
                    exact absurd h79_2 (by decide)
                  · skip
                    have er : rd8 (un L) p0 = (none, 2) := by simp [rd8, e8, hk64_2, hk72_3]
                    replace hP : va_P D vwCl [(h8, .inr (1, [.int (ov (rd8 (un L) p0).1), .int (nI (rd8 (un L) p0).2)])), (h, .inr (0, [.ref a, .int (nI L.length)])), (a, .inl (cA, N, .inl f))] H := by rw [er]; exact hP
                    replace hD : va_D A [(h8, .inr (1, [.int (ov (rd8 (un L) p0).1), .int (nI (rd8 (un L) p0).2)])), (h, .inr (0, [.ref a, .int (nI L.length)])), (a, .inl (cA, N, .inl f))] := by rw [er]; exact hD
                    exact ret () dEi_readOne_82 trivial hP hD hS
              · skip
                exact absurd h58_2 (by decide)
          · skip
            exact absurd h79 (by decide)
        · skip
          replace hP : va_P D vwCl [(h8, .inr (1, [.int (-1), .int (nI 1)])), (h, .inr (0, [.ref a, .int (nI L.length)])), (a, .inl (cA, N, .inl f))] H := hP.sub [0, 1, 2] rfl
          replace hD : va_D A [(h8, .inr (1, [.int (-1), .int (nI 1)])), (h, .inr (0, [.ref a, .int (nI L.length)])), (a, .inl (cA, N, .inl f))] := hD.sub [0, 1, 2] (by decide) rfl
          refine lv_goto (tgt := 75) hx hb dEi_readOne_67 (by decide) ?_
          refine lv_istore (lv' := [(8, .int (nI 0)), (7, .int (un L (p0 + 1))), (6, .int (nI 1)), (5, .int (nI (tn (un L p0) - 224))), (4, .int (nI 3)), (3, .int (un L p0)), (0, .ref h8), (1, .ref h), (2, .int (nI p0))]) hx hb dEi_readOne_75 hl (by decide) rfl (fun ls hl => ?_)
          refine lv_iload hx hb dEi_readOne_77 (lv_at hl 0 rfl) ?_
          refine lv_if_ne (tgt := 83) hx hb dEi_readOne_79 (by decide) (fun h79 => ?_) (fun h79 => ?_)
          · skip
            exact absurd h79 (by decide)
          · skip
            have er : rd8 (un L) p0 = (none, 1) := by simp [rd8, e8, hk64_2]
            replace hP : va_P D vwCl [(h8, .inr (1, [.int (ov (rd8 (un L) p0).1), .int (nI (rd8 (un L) p0).2)])), (h, .inr (0, [.ref a, .int (nI L.length)])), (a, .inl (cA, N, .inl f))] H := by rw [er]; exact hP
            replace hD : va_D A [(h8, .inr (1, [.int (ov (rd8 (un L) p0).1), .int (nI (rd8 (un L) p0).2)])), (h, .inr (0, [.ref a, .int (nI L.length)])), (a, .inl (cA, N, .inl f))] := by rw [er]; exact hD
            exact ret () dEi_readOne_82 trivial hP hD hS
  · skip
    rw [e8]
    obtain ⟨ea, eb, ec⟩ := tn_of b1 (by decide)
    refine lv_istore (lv' := [(4, .int (nI 4)), (3, .int (un L p0)), (0, .ref h8), (1, .ref h), (2, .int (nI p0))]) hx hb dEi_readOne_10 hl (by decide) rfl (fun ls hl => ?_)
    refine lv_aload_n hx hb dEi_readOne_12 rfl (lv_at hl 2 rfl) ?_
    refine lv_iconst (v := (-1)) hx hb dEi_readOne_13 (by decide) ?_
    refine va_put (D := D) (ci := 1) (v := .int (-1)) (ty := .int) (C := R_Ei) (T := T_Ei) (N := 2) hx hb hw in_Ei ty_Ei ty_Ei_ok nm_Ei hown hK hP hD hS 0 rfl rfl 0 (by decide) (hw _ w_45) (fun x9 h9 => u_same (hw _ w_46) x9 h9) rfl (by decide +kernel) rfl rfl (Nat.le_of_ble_eq_true rfl) dEi_readOne_14 (fun H locs hP hD hS => ?_)
    have hP : va_P D vwCl [(h8, .inr (1, [.int (-1), .int tk])), (h, .inr (0, [.ref a, .int (nI L.length)])), (a, .inl (cA, N, .inl f))] H := hP
    have hD : va_D A [(h8, .inr (1, [.int (-1), .int tk])), (h, .inr (0, [.ref a, .int (nI L.length)])), (a, .inl (cA, N, .inl f))] := hD
    refine lv_aload_n hx hb dEi_readOne_17 rfl (lv_at hl 2 rfl) ?_
    refine lv_iconst (v := nI 1) hx hb dEi_readOne_18 (by decide) ?_
    refine lv_iload hx hb dEi_readOne_19 (lv_at hl 0 rfl) ?_
    refine va_mmin hx hb (Xf.2.2.1.trans hl.1.symm) hown (hw _ w_158) (hw _ w_159) (hw _ w_8) (hw _ w_160) (by rw [hR]; exact Nat.le_of_ble_eq_true rfl) (by rw [hR]; exact Nat.le_of_ble_eq_true rfl) (Nat.zero_le _) (Nat.zero_le _) dEi_readOne_21 ?_
    refine lv_rei (y := nI 1) (by decide) ?_
    refine va_put (D := D) (ci := 1) (v := .int (nI 1)) (ty := .int) (C := R_Ei) (T := T_Ei) (N := 2) hx hb hw in_Ei ty_Ei ty_Ei_ok nm_Ei hown hK hP hD hS 0 rfl rfl 1 (by decide) (hw _ w_50) (fun x9 h9 => u_same (hw _ w_51) x9 h9) rfl (by decide +kernel) rfl rfl (Nat.le_of_ble_eq_true rfl) dEi_readOne_24 (fun H locs hP hD hS => ?_)
    have hP : va_P D vwCl [(h8, .inr (1, [.int (-1), .int (nI 1)])), (h, .inr (0, [.ref a, .int (nI L.length)])), (a, .inl (cA, N, .inl f))] H := hP
    have hD : va_D A [(h8, .inr (1, [.int (-1), .int (nI 1)])), (h, .inr (0, [.ref a, .int (nI L.length)])), (a, .inl (cA, N, .inl f))] := hD
    refine lv_iload_n hx hb dEi_readOne_27 rfl (lv_at hl 1 rfl) ?_
    refine lv_iload hx hb dEi_readOne_28 (lv_at hl 0 rfl) ?_
    refine ca_i (wr := [(h8, .inr (1, [.int (-1), .int (nI 1)])), (h, .inr (0, [.ref a, .int (nI L.length)])), (a, .inl (cA, N, .inl f))]) (va_runS (As := [.int (un L p0), .int (nI 4)]) (rest := []) Xf (k_Ei_leadPart l D cA _ (un L p0) 4 (by decide)) ⟨cb_of 2 hw w_163 w_4 w_161 (by decide +kernel) (by rw [hR]; exact ⟨Nat.le_of_ble_eq_true rfl, Nat.le_of_ble_eq_true rfl⟩), hw _ w_162⟩ (pre_S hP hD hK hn [] rfl (by decide)) rfl rfl hl.1 rfl (lv_room (Nat.le_of_ble_eq_true rfl)) dEi_readOne_30 ⟨Nat.zero_le _, Nat.zero_le _⟩) hP hD hS hA [] [0, 1, 2] rfl rfl (by decide) (by decide) (fun r30 u_ H locs hq_ hP hD hS => ?_)
    obtain rfl : r30 = lp (un L p0) 4 := hq_
    replace hP : va_P D vwCl [(h8, .inr (1, [.int (-1), .int (nI 1)])), (h, .inr (0, [.ref a, .int (nI L.length)])), (a, .inl (cA, N, .inl f))] H := hP.sub [0, 1, 2] rfl
    replace hD : va_D A [(h8, .inr (1, [.int (-1), .int (nI 1)])), (h, .inr (0, [.ref a, .int (nI L.length)])), (a, .inl (cA, N, .inl f))] := hD.sub [0, 1, 2] (by decide) rfl
    refine lv_rei (y := nI (tn (un L p0) - 240)) (sub_r ea (by omega)) ?_
    refine lv_istore (lv' := [(5, .int (nI (tn (un L p0) - 240))), (4, .int (nI 4)), (3, .int (un L p0)), (0, .ref h8), (1, .ref h), (2, .int (nI p0))]) hx hb dEi_readOne_33 hl (by decide) rfl (fun ls hl => ?_)
    refine lv_iconst (v := nI 1) hx hb dEi_readOne_35 (by decide) ?_
    refine lv_istore (lv' := [(6, .int (nI 1)), (5, .int (nI (tn (un L p0) - 240))), (4, .int (nI 4)), (3, .int (un L p0)), (0, .ref h8), (1, .ref h), (2, .int (nI p0))]) hx hb dEi_readOne_36 hl (by decide) rfl (fun ls hl => ?_)
    refine lv_iload hx hb dEi_readOne_38 (lv_at hl 0 rfl) ?_
    refine lv_iload hx hb dEi_readOne_40 (lv_at hl 2 rfl) ?_
    refine lv_icmp_ge (tgt := 113) hx hb dEi_readOne_42 (by decide) (fun h42 => ?_) (fun h42 => ?_)
    · skip
      exact absurd h42 (by decide)
    · skip
      refine lv_aload_n hx hb dEi_readOne_45 rfl (lv_at hl 5 rfl) ?_
      refine lv_iload_n hx hb dEi_readOne_46 rfl (lv_at hl 6 rfl) ?_
      refine lv_iload hx hb dEi_readOne_47 (lv_at hl 0 rfl) ?_
      refine lv_iadd hx hb dEi_readOne_49 ?_
      refine lv_rei (y := nI (p0 + 1)) (nI_add _ _) ?_
      refine ca_i (wr := [(h8, .inr (1, [.int (-1), .int (nI 1)]))]) (va_runV (As := [.int (nI (p0 + 1))]) (rest := []) Xf (k_Row_unitAt l D cA _ h a N L f (nI (p0 + 1)) hf hc hN) ⟨cb_of 1 hw w_154 w_2 w_151 (by decide +kernel) (by rw [hR]; exact ⟨Nat.le_of_ble_eq_true rfl, Nat.le_of_ble_eq_true rfl⟩), hw _ w_152, hw _ w_153⟩ (pre_V (As := [.int (nI (p0 + 1))]) hP hD hK hn [1, 2] rfl (by decide) 1 0 rfl rfl) rfl rfl hl.1 rfl (lv_room (Nat.le_of_ble_eq_true rfl)) dEi_readOne_50 ⟨Nat.zero_le _, Nat.zero_le _⟩) hP hD hS hA [1, 2] [0] rfl rfl (by decide) (by decide) (fun r50 u_ H locs hq_ hP hD hS => ?_)
      obtain rfl : r50 = un L (p0 + 1) := hq_.trans (gt_n (by omega) (by omega))
      replace hP : va_P D vwCl [(h8, .inr (1, [.int (-1), .int (nI 1)])), (h, .inr (0, [.ref a, .int (nI L.length)])), (a, .inl (cA, N, .inl f))] H := hP.sub [0, 1, 2] rfl
      replace hD : va_D A [(h8, .inr (1, [.int (-1), .int (nI 1)])), (h, .inr (0, [.ref a, .int (nI L.length)])), (a, .inl (cA, N, .inl f))] := hD.sub [0, 1, 2] (by decide) rfl
      refine lv_istore (lv' := [(7, .int (un L (p0 + 1))), (6, .int (nI 1)), (5, .int (nI (tn (un L p0) - 240))), (4, .int (nI 4)), (3, .int (un L p0)), (0, .ref h8), (1, .ref h), (2, .int (nI p0))]) hx hb dEi_readOne_53 hl (by decide) rfl (fun ls hl => ?_)
      refine lv_iload hx hb dEi_readOne_55 (lv_at hl 1 rfl) ?_
      refine lv_iconst (v := nI 1) hx hb dEi_readOne_57 (by decide) ?_
      refine lv_icmp_ne (tgt := 70) hx hb dEi_readOne_58 (by decide) (fun h58 => ?_) (fun h58 => ?_)
      · skip
        exact absurd h58 (by decide)
      · skip
        refine lv_iload_n hx hb dEi_readOne_61 rfl (lv_at hl 4 rfl) ?_
        refine lv_iload hx hb dEi_readOne_62 (lv_at hl 0 rfl) ?_
        refine ca_i (wr := [(h8, .inr (1, [.int (-1), .int (nI 1)])), (h, .inr (0, [.ref a, .int (nI L.length)])), (a, .inl (cA, N, .inl f))]) (va_runS (As := [.int (un L p0), .int (un L (p0 + 1))]) (rest := []) Xf (k_Ei_fitsSecond l D cA _ (un L p0) (un L (p0 + 1))) ⟨cb_of 2 hw w_166 w_4 w_164 (by decide +kernel) (by rw [hR]; exact ⟨Nat.le_of_ble_eq_true rfl, Nat.le_of_ble_eq_true rfl⟩), hw _ w_165⟩ (pre_S hP hD hK hn [] rfl (by decide)) rfl rfl hl.1 rfl (lv_room (Nat.le_of_ble_eq_true rfl)) dEi_readOne_64 ⟨Nat.zero_le _, Nat.zero_le _⟩) hP hD hS hA [] [0, 1, 2] rfl rfl (by decide) (by decide) (fun r64 u_ H locs hq_ hP hD hS => ?_)
        rcases hq_ with ⟨hk64_4, rfl⟩ | ⟨hk64_4, rfl⟩
        · skip
          replace hP : va_P D vwCl [(h8, .inr (1, [.int (-1), .int (nI 1)])), (h, .inr (0, [.ref a, .int (nI L.length)])), (a, .inl (cA, N, .inl f))] H := hP.sub [0, 1, 2] rfl
          replace hD : va_D A [(h8, .inr (1, [.int (-1), .int (nI 1)])), (h, .inr (0, [.ref a, .int (nI L.length)])), (a, .inl (cA, N, .inl f))] := hD.sub [0, 1, 2] (by decide) rfl
          obtain ⟨g1_1, g2_1⟩ := ok2_r hk64_4
          obtain ⟨ea_1, eb_1, ec_1⟩ := tn_of g1_1 (by decide)
          refine lv_goto (tgt := 75) hx hb dEi_readOne_67 (by decide) ?_
          refine lv_istore (lv' := [(8, .int (nI 1)), (7, .int (un L (p0 + 1))), (6, .int (nI 1)), (5, .int (nI (tn (un L p0) - 240))), (4, .int (nI 4)), (3, .int (un L p0)), (0, .ref h8), (1, .ref h), (2, .int (nI p0))]) hx hb dEi_readOne_75 hl (by decide) rfl (fun ls hl => ?_)
          refine lv_iload hx hb dEi_readOne_77 (lv_at hl 0 rfl) ?_
          refine lv_if_ne (tgt := 83) hx hb dEi_readOne_79 (by decide) (fun h79 => ?_) (fun h79 => ?_)
          · skip
            refine lv_iload hx hb dEi_readOne_83 (lv_at hl 3 rfl) ?_
            refine lv_bipush (v := nI 64) hx hb dEi_readOne_85 (by decide) ?_
            refine lv_imul hx hb dEi_readOne_87 ?_
            refine lv_rei (y := nI ((tn (un L p0) - 240) * 64)) (pk_mul _ _) ?_
            refine lv_iload hx hb dEi_readOne_88 (lv_at hl 1 rfl) ?_
            refine lv_iadd hx hb dEi_readOne_90 ?_
            refine lv_rei (y := nI ((tn (un L p0) - 240) * 64 + tn (un L (p0 + 1)))) (add_r ea_1) ?_
            refine lv_sipush (v := nI 128) hx hb dEi_readOne_91 (by decide) ?_
            refine lv_isub hx hb dEi_readOne_94 ?_
            refine lv_rei (y := nI ((tn (un L p0) - 240) * 64 + tn (un L (p0 + 1)) - 128)) (pk_sub (by omega)) ?_
            refine lv_istore (lv' := [(5, .int (nI ((tn (un L p0) - 240) * 64 + tn (un L (p0 + 1)) - 128))), (8, .int (nI 1)), (7, .int (un L (p0 + 1))), (6, .int (nI 1)), (4, .int (nI 4)), (3, .int (un L p0)), (0, .ref h8), (1, .ref h), (2, .int (nI p0))]) hx hb dEi_readOne_95 hl (by decide) rfl (fun ls hl => ?_)
            refine lv_aload_n hx hb dEi_readOne_97 rfl (lv_at hl 6 rfl) ?_
            refine lv_dup hx hb dEi_readOne_98 rfl ?_
            refine va_get (D := D) (ci := 1) (v := .int (nI 1)) (C := R_Ei) (T := T_Ei) (N := 2) hx hb hw in_Ei hown hK hP 0 rfl rfl 1 (by decide) (hw _ w_50) (fun x9 h9 => u_same (hw _ w_51) x9 h9) rfl dEi_readOne_99 ?_
            refine lv_iconst (v := nI 1) hx hb dEi_readOne_102 (by decide) ?_
            refine lv_iadd hx hb dEi_readOne_103 ?_
            refine lv_rei (y := nI 2) (by decide) ?_
            refine va_put (D := D) (ci := 1) (v := .int (nI 2)) (ty := .int) (C := R_Ei) (T := T_Ei) (N := 2) hx hb hw in_Ei ty_Ei ty_Ei_ok nm_Ei hown hK hP hD hS 0 rfl rfl 1 (by decide) (hw _ w_50) (fun x9 h9 => u_same (hw _ w_51) x9 h9) rfl (by decide +kernel) rfl rfl (Nat.le_of_ble_eq_true rfl) dEi_readOne_104 (fun H locs hP hD hS => ?_)
            have hP : va_P D vwCl [(h8, .inr (1, [.int (-1), .int (nI 2)])), (h, .inr (0, [.ref a, .int (nI L.length)])), (a, .inl (cA, N, .inl f))] H := hP
            have hD : va_D A [(h8, .inr (1, [.int (-1), .int (nI 2)])), (h, .inr (0, [.ref a, .int (nI L.length)])), (a, .inl (cA, N, .inl f))] := hD
            refine lv_iinc (k := 3) (v := nI 2) (lv' := [(6, .int (nI 2)), (5, .int (nI ((tn (un L p0) - 240) * 64 + tn (un L (p0 + 1)) - 128))), (8, .int (nI 1)), (7, .int (un L (p0 + 1))), (4, .int (nI 4)), (3, .int (un L p0)), (0, .ref h8), (1, .ref h), (2, .int (nI p0))]) hx hb dEi_readOne_107 hl rfl (by decide) (by decide) rfl (fun ls hl => ?_)
            refine lv_goto (tgt := 38) hx hb dEi_readOne_110 (by decide) ?_
            refine lv_iload hx hb dEi_readOne_38 (lv_at hl 0 rfl) ?_
            refine lv_iload hx hb dEi_readOne_40 (lv_at hl 4 rfl) ?_
            refine lv_icmp_ge (tgt := 113) hx hb dEi_readOne_42 (by decide) (fun h42_2 => ?_) (fun h42_2 => ?_)
            · skip
              exact absurd h42_2 (by decide)
            · skip
              refine lv_aload_n hx hb dEi_readOne_45 rfl (lv_at hl 7 rfl) ?_
              refine lv_iload_n hx hb dEi_readOne_46 rfl (lv_at hl 8 rfl) ?_
              refine lv_iload hx hb dEi_readOne_47 (lv_at hl 0 rfl) ?_
              refine lv_iadd hx hb dEi_readOne_49 ?_
              refine lv_rei (y := nI (p0 + 2)) (nI_add _ _) ?_
              refine ca_i (wr := [(h8, .inr (1, [.int (-1), .int (nI 2)]))]) (va_runV (As := [.int (nI (p0 + 2))]) (rest := []) Xf (k_Row_unitAt l D cA _ h a N L f (nI (p0 + 2)) hf hc hN) ⟨cb_of 1 hw w_154 w_2 w_151 (by decide +kernel) (by rw [hR]; exact ⟨Nat.le_of_ble_eq_true rfl, Nat.le_of_ble_eq_true rfl⟩), hw _ w_152, hw _ w_153⟩ (pre_V (As := [.int (nI (p0 + 2))]) hP hD hK hn [1, 2] rfl (by decide) 1 0 rfl rfl) rfl rfl hl.1 rfl (lv_room (Nat.le_of_ble_eq_true rfl)) dEi_readOne_50 ⟨Nat.zero_le _, Nat.zero_le _⟩) hP hD hS hA [1, 2] [0] rfl rfl (by decide) (by decide) (fun r50 u_ H locs hq_ hP hD hS => ?_)
              obtain rfl : r50 = un L (p0 + 2) := hq_.trans (gt_n (by omega) (by omega))
              replace hP : va_P D vwCl [(h8, .inr (1, [.int (-1), .int (nI 2)])), (h, .inr (0, [.ref a, .int (nI L.length)])), (a, .inl (cA, N, .inl f))] H := hP.sub [0, 1, 2] rfl
              replace hD : va_D A [(h8, .inr (1, [.int (-1), .int (nI 2)])), (h, .inr (0, [.ref a, .int (nI L.length)])), (a, .inl (cA, N, .inl f))] := hD.sub [0, 1, 2] (by decide) rfl
              refine lv_istore (lv' := [(7, .int (un L (p0 + 2))), (6, .int (nI 2)), (5, .int (nI ((tn (un L p0) - 240) * 64 + tn (un L (p0 + 1)) - 128))), (8, .int (nI 1)), (4, .int (nI 4)), (3, .int (un L p0)), (0, .ref h8), (1, .ref h), (2, .int (nI p0))]) hx hb dEi_readOne_53 hl (by decide) rfl (fun ls hl => ?_)
              refine lv_iload hx hb dEi_readOne_55 (lv_at hl 1 rfl) ?_
              refine lv_iconst (v := nI 1) hx hb dEi_readOne_57 (by decide) ?_
              refine lv_icmp_ne (tgt := 70) hx hb dEi_readOne_58 (by decide) (fun h58_2 => ?_) (fun h58_2 => ?_)
              · skip
                refine lv_iload hx hb dEi_readOne_70 (lv_at hl 0 rfl) ?_
                refine ca_i (wr := [(h8, .inr (1, [.int (-1), .int (nI 2)])), (h, .inr (0, [.ref a, .int (nI L.length)])), (a, .inl (cA, N, .inl f))]) (va_runS (As := [.int (un L (p0 + 2))]) (rest := []) Xf (k_Ei_fitsFurther l D cA _ (un L (p0 + 2))) ⟨cb_of 1 hw w_169 w_4 w_167 (by decide +kernel) (by rw [hR]; exact ⟨Nat.le_of_ble_eq_true rfl, Nat.le_of_ble_eq_true rfl⟩), hw _ w_168⟩ (pre_S hP hD hK hn [] rfl (by decide)) rfl rfl hl.1 rfl (lv_room (Nat.le_of_ble_eq_true rfl)) dEi_readOne_72 ⟨Nat.zero_le _, Nat.zero_le _⟩) hP hD hS hA [] [0, 1, 2] rfl rfl (by decide) (by decide) (fun r72 u_ H locs hq_ hP hD hS => ?_)
                rcases hq_ with ⟨hk72_5, rfl⟩ | ⟨hk72_5, rfl⟩
                · skip
                  replace hP : va_P D vwCl [(h8, .inr (1, [.int (-1), .int (nI 2)])), (h, .inr (0, [.ref a, .int (nI L.length)])), (a, .inl (cA, N, .inl f))] H := hP.sub [0, 1, 2] rfl
                  replace hD : va_D A [(h8, .inr (1, [.int (-1), .int (nI 2)])), (h, .inr (0, [.ref a, .int (nI L.length)])), (a, .inl (cA, N, .inl f))] := hD.sub [0, 1, 2] (by decide) rfl
                  obtain ⟨g1_2, g2_2⟩ := ok3_r hk72_5
                  obtain ⟨ea_2, eb_2, ec_2⟩ := tn_of g1_2 (by decide)
                  refine lv_istore (lv' := [(8, .int (nI 1)), (7, .int (un L (p0 + 2))), (6, .int (nI 2)), (5, .int (nI ((tn (un L p0) - 240) * 64 + tn (un L (p0 + 1)) - 128))), (4, .int (nI 4)), (3, .int (un L p0)), (0, .ref h8), (1, .ref h), (2, .int (nI p0))]) hx hb dEi_readOne_75 hl (by decide) rfl (fun ls hl => ?_)
                  refine lv_iload hx hb dEi_readOne_77 (lv_at hl 0 rfl) ?_
                  refine lv_if_ne (tgt := 83) hx hb dEi_readOne_79 (by decide) (fun h79_2 => ?_) (fun h79_2 => ?_)
                  · skip
                    refine lv_iload hx hb dEi_readOne_83 (lv_at hl 3 rfl) ?_
                    refine lv_bipush (v := nI 64) hx hb dEi_readOne_85 (by decide) ?_
                    refine lv_imul hx hb dEi_readOne_87 ?_
                    refine lv_rei (y := nI (((tn (un L p0) - 240) * 64 + tn (un L (p0 + 1)) - 128) * 64)) (pk_mul _ _) ?_
                    refine lv_iload hx hb dEi_readOne_88 (lv_at hl 1 rfl) ?_
                    refine lv_iadd hx hb dEi_readOne_90 ?_
                    refine lv_rei (y := nI (((tn (un L p0) - 240) * 64 + tn (un L (p0 + 1)) - 128) * 64 + tn (un L (p0 + 2)))) (add_r ea_2) ?_
                    refine lv_sipush (v := nI 128) hx hb dEi_readOne_91 (by decide) ?_
                    refine lv_isub hx hb dEi_readOne_94 ?_
                    refine lv_rei (y := nI (((tn (un L p0) - 240) * 64 + tn (un L (p0 + 1)) - 128) * 64 + tn (un L (p0 + 2)) - 128)) (pk_sub (by omega)) ?_
                    refine lv_istore (lv' := [(5, .int (nI (((tn (un L p0) - 240) * 64 + tn (un L (p0 + 1)) - 128) * 64 + tn (un L (p0 + 2)) - 128))), (8, .int (nI 1)), (7, .int (un L (p0 + 2))), (6, .int (nI 2)), (4, .int (nI 4)), (3, .int (un L p0)), (0, .ref h8), (1, .ref h), (2, .int (nI p0))]) hx hb dEi_readOne_95 hl (by decide) rfl (fun ls hl => ?_)
                    refine lv_aload_n hx hb dEi_readOne_97 rfl (lv_at hl 6 rfl) ?_
                    refine lv_dup hx hb dEi_readOne_98 rfl ?_
                    refine va_get (D := D) (ci := 1) (v := .int (nI 2)) (C := R_Ei) (T := T_Ei) (N := 2) hx hb hw in_Ei hown hK hP 0 rfl rfl 1 (by decide) (hw _ w_50) (fun x9 h9 => u_same (hw _ w_51) x9 h9) rfl dEi_readOne_99 ?_
                    refine lv_iconst (v := nI 1) hx hb dEi_readOne_102 (by decide) ?_
                    refine lv_iadd hx hb dEi_readOne_103 ?_
                    refine lv_rei (y := nI 3) (by decide) ?_
                    refine va_put (D := D) (ci := 1) (v := .int (nI 3)) (ty := .int) (C := R_Ei) (T := T_Ei) (N := 2) hx hb hw in_Ei ty_Ei ty_Ei_ok nm_Ei hown hK hP hD hS 0 rfl rfl 1 (by decide) (hw _ w_50) (fun x9 h9 => u_same (hw _ w_51) x9 h9) rfl (by decide +kernel) rfl rfl (Nat.le_of_ble_eq_true rfl) dEi_readOne_104 (fun H locs hP hD hS => ?_)
                    have hP : va_P D vwCl [(h8, .inr (1, [.int (-1), .int (nI 3)])), (h, .inr (0, [.ref a, .int (nI L.length)])), (a, .inl (cA, N, .inl f))] H := hP
                    have hD : va_D A [(h8, .inr (1, [.int (-1), .int (nI 3)])), (h, .inr (0, [.ref a, .int (nI L.length)])), (a, .inl (cA, N, .inl f))] := hD
                    refine lv_iinc (k := 3) (v := nI 3) (lv' := [(6, .int (nI 3)), (5, .int (nI (((tn (un L p0) - 240) * 64 + tn (un L (p0 + 1)) - 128) * 64 + tn (un L (p0 + 2)) - 128))), (8, .int (nI 1)), (7, .int (un L (p0 + 2))), (4, .int (nI 4)), (3, .int (un L p0)), (0, .ref h8), (1, .ref h), (2, .int (nI p0))]) hx hb dEi_readOne_107 hl rfl (by decide) (by decide) rfl (fun ls hl => ?_)
                    refine lv_goto (tgt := 38) hx hb dEi_readOne_110 (by decide) ?_
                    refine lv_iload hx hb dEi_readOne_38 (lv_at hl 0 rfl) ?_
                    refine lv_iload hx hb dEi_readOne_40 (lv_at hl 4 rfl) ?_
                    refine lv_icmp_ge (tgt := 113) hx hb dEi_readOne_42 (by decide) (fun h42_3 => ?_) (fun h42_3 => ?_)
                    · skip
                      exact absurd h42_3 (by decide)
                    · skip
                      refine lv_aload_n hx hb dEi_readOne_45 rfl (lv_at hl 7 rfl) ?_
                      refine lv_iload_n hx hb dEi_readOne_46 rfl (lv_at hl 8 rfl) ?_
                      refine lv_iload hx hb dEi_readOne_47 (lv_at hl 0 rfl) ?_
                      refine lv_iadd hx hb dEi_readOne_49 ?_
                      refine lv_rei (y := nI (p0 + 3)) (nI_add _ _) ?_
                      refine ca_i (wr := [(h8, .inr (1, [.int (-1), .int (nI 3)]))]) (va_runV (As := [.int (nI (p0 + 3))]) (rest := []) Xf (k_Row_unitAt l D cA _ h a N L f (nI (p0 + 3)) hf hc hN) ⟨cb_of 1 hw w_154 w_2 w_151 (by decide +kernel) (by rw [hR]; exact ⟨Nat.le_of_ble_eq_true rfl, Nat.le_of_ble_eq_true rfl⟩), hw _ w_152, hw _ w_153⟩ (pre_V (As := [.int (nI (p0 + 3))]) hP hD hK hn [1, 2] rfl (by decide) 1 0 rfl rfl) rfl rfl hl.1 rfl (lv_room (Nat.le_of_ble_eq_true rfl)) dEi_readOne_50 ⟨Nat.zero_le _, Nat.zero_le _⟩) hP hD hS hA [1, 2] [0] rfl rfl (by decide) (by decide) (fun r50 u_ H locs hq_ hP hD hS => ?_)
                      obtain rfl : r50 = un L (p0 + 3) := hq_.trans (gt_n (by omega) (by omega))
                      replace hP : va_P D vwCl [(h8, .inr (1, [.int (-1), .int (nI 3)])), (h, .inr (0, [.ref a, .int (nI L.length)])), (a, .inl (cA, N, .inl f))] H := hP.sub [0, 1, 2] rfl
                      replace hD : va_D A [(h8, .inr (1, [.int (-1), .int (nI 3)])), (h, .inr (0, [.ref a, .int (nI L.length)])), (a, .inl (cA, N, .inl f))] := hD.sub [0, 1, 2] (by decide) rfl
                      refine lv_istore (lv' := [(7, .int (un L (p0 + 3))), (6, .int (nI 3)), (5, .int (nI (((tn (un L p0) - 240) * 64 + tn (un L (p0 + 1)) - 128) * 64 + tn (un L (p0 + 2)) - 128))), (8, .int (nI 1)), (4, .int (nI 4)), (3, .int (un L p0)), (0, .ref h8), (1, .ref h), (2, .int (nI p0))]) hx hb dEi_readOne_53 hl (by decide) rfl (fun ls hl => ?_)
                      refine lv_iload hx hb dEi_readOne_55 (lv_at hl 1 rfl) ?_
                      refine lv_iconst (v := nI 1) hx hb dEi_readOne_57 (by decide) ?_
                      refine lv_icmp_ne (tgt := 70) hx hb dEi_readOne_58 (by decide) (fun h58_3 => ?_) (fun h58_3 => ?_)
                      · skip
                        refine lv_iload hx hb dEi_readOne_70 (lv_at hl 0 rfl) ?_
                        refine ca_i (wr := [(h8, .inr (1, [.int (-1), .int (nI 3)])), (h, .inr (0, [.ref a, .int (nI L.length)])), (a, .inl (cA, N, .inl f))]) (va_runS (As := [.int (un L (p0 + 3))]) (rest := []) Xf (k_Ei_fitsFurther l D cA _ (un L (p0 + 3))) ⟨cb_of 1 hw w_169 w_4 w_167 (by decide +kernel) (by rw [hR]; exact ⟨Nat.le_of_ble_eq_true rfl, Nat.le_of_ble_eq_true rfl⟩), hw _ w_168⟩ (pre_S hP hD hK hn [] rfl (by decide)) rfl rfl hl.1 rfl (lv_room (Nat.le_of_ble_eq_true rfl)) dEi_readOne_72 ⟨Nat.zero_le _, Nat.zero_le _⟩) hP hD hS hA [] [0, 1, 2] rfl rfl (by decide) (by decide) (fun r72 u_ H locs hq_ hP hD hS => ?_)
                        rcases hq_ with ⟨hk72_6, rfl⟩ | ⟨hk72_6, rfl⟩
                        · skip
                          replace hP : va_P D vwCl [(h8, .inr (1, [.int (-1), .int (nI 3)])), (h, .inr (0, [.ref a, .int (nI L.length)])), (a, .inl (cA, N, .inl f))] H := hP.sub [0, 1, 2] rfl
                          replace hD : va_D A [(h8, .inr (1, [.int (-1), .int (nI 3)])), (h, .inr (0, [.ref a, .int (nI L.length)])), (a, .inl (cA, N, .inl f))] := hD.sub [0, 1, 2] (by decide) rfl
                          obtain ⟨g1_3, g2_3⟩ := ok3_r hk72_6
                          obtain ⟨ea_3, eb_3, ec_3⟩ := tn_of g1_3 (by decide)
                          refine lv_istore (lv' := [(8, .int (nI 1)), (7, .int (un L (p0 + 3))), (6, .int (nI 3)), (5, .int (nI (((tn (un L p0) - 240) * 64 + tn (un L (p0 + 1)) - 128) * 64 + tn (un L (p0 + 2)) - 128))), (4, .int (nI 4)), (3, .int (un L p0)), (0, .ref h8), (1, .ref h), (2, .int (nI p0))]) hx hb dEi_readOne_75 hl (by decide) rfl (fun ls hl => ?_)
                          refine lv_iload hx hb dEi_readOne_77 (lv_at hl 0 rfl) ?_
                          refine lv_if_ne (tgt := 83) hx hb dEi_readOne_79 (by decide) (fun h79_3 => ?_) (fun h79_3 => ?_)
                          · skip
                            refine lv_iload hx hb dEi_readOne_83 (lv_at hl 3 rfl) ?_
                            refine lv_bipush (v := nI 64) hx hb dEi_readOne_85 (by decide) ?_
                            refine lv_imul hx hb dEi_readOne_87 ?_
                            refine lv_rei (y := nI ((((tn (un L p0) - 240) * 64 + tn (un L (p0 + 1)) - 128) * 64 + tn (un L (p0 + 2)) - 128) * 64)) (pk_mul _ _) ?_
                            refine lv_iload hx hb dEi_readOne_88 (lv_at hl 1 rfl) ?_
                            refine lv_iadd hx hb dEi_readOne_90 ?_
                            refine lv_rei (y := nI ((((tn (un L p0) - 240) * 64 + tn (un L (p0 + 1)) - 128) * 64 + tn (un L (p0 + 2)) - 128) * 64 + tn (un L (p0 + 3)))) (add_r ea_3) ?_
                            refine lv_sipush (v := nI 128) hx hb dEi_readOne_91 (by decide) ?_
                            refine lv_isub hx hb dEi_readOne_94 ?_
                            refine lv_rei (y := nI ((((tn (un L p0) - 240) * 64 + tn (un L (p0 + 1)) - 128) * 64 + tn (un L (p0 + 2)) - 128) * 64 + tn (un L (p0 + 3)) - 128)) (pk_sub (by omega)) ?_
                            refine lv_istore (lv' := [(5, .int (nI ((((tn (un L p0) - 240) * 64 + tn (un L (p0 + 1)) - 128) * 64 + tn (un L (p0 + 2)) - 128) * 64 + tn (un L (p0 + 3)) - 128))), (8, .int (nI 1)), (7, .int (un L (p0 + 3))), (6, .int (nI 3)), (4, .int (nI 4)), (3, .int (un L p0)), (0, .ref h8), (1, .ref h), (2, .int (nI p0))]) hx hb dEi_readOne_95 hl (by decide) rfl (fun ls hl => ?_)
                            refine lv_aload_n hx hb dEi_readOne_97 rfl (lv_at hl 6 rfl) ?_
                            refine lv_dup hx hb dEi_readOne_98 rfl ?_
                            refine va_get (D := D) (ci := 1) (v := .int (nI 3)) (C := R_Ei) (T := T_Ei) (N := 2) hx hb hw in_Ei hown hK hP 0 rfl rfl 1 (by decide) (hw _ w_50) (fun x9 h9 => u_same (hw _ w_51) x9 h9) rfl dEi_readOne_99 ?_
                            refine lv_iconst (v := nI 1) hx hb dEi_readOne_102 (by decide) ?_
                            refine lv_iadd hx hb dEi_readOne_103 ?_
                            refine lv_rei (y := nI 4) (by decide) ?_
                            refine va_put (D := D) (ci := 1) (v := .int (nI 4)) (ty := .int) (C := R_Ei) (T := T_Ei) (N := 2) hx hb hw in_Ei ty_Ei ty_Ei_ok nm_Ei hown hK hP hD hS 0 rfl rfl 1 (by decide) (hw _ w_50) (fun x9 h9 => u_same (hw _ w_51) x9 h9) rfl (by decide +kernel) rfl rfl (Nat.le_of_ble_eq_true rfl) dEi_readOne_104 (fun H locs hP hD hS => ?_)
                            have hP : va_P D vwCl [(h8, .inr (1, [.int (-1), .int (nI 4)])), (h, .inr (0, [.ref a, .int (nI L.length)])), (a, .inl (cA, N, .inl f))] H := hP
                            have hD : va_D A [(h8, .inr (1, [.int (-1), .int (nI 4)])), (h, .inr (0, [.ref a, .int (nI L.length)])), (a, .inl (cA, N, .inl f))] := hD
                            refine lv_iinc (k := 3) (v := nI 4) (lv' := [(6, .int (nI 4)), (5, .int (nI ((((tn (un L p0) - 240) * 64 + tn (un L (p0 + 1)) - 128) * 64 + tn (un L (p0 + 2)) - 128) * 64 + tn (un L (p0 + 3)) - 128))), (8, .int (nI 1)), (7, .int (un L (p0 + 3))), (4, .int (nI 4)), (3, .int (un L p0)), (0, .ref h8), (1, .ref h), (2, .int (nI p0))]) hx hb dEi_readOne_107 hl rfl (by decide) (by decide) rfl (fun ls hl => ?_)
                            refine lv_goto (tgt := 38) hx hb dEi_readOne_110 (by decide) ?_
                            refine lv_iload hx hb dEi_readOne_38 (lv_at hl 0 rfl) ?_
                            refine lv_iload hx hb dEi_readOne_40 (lv_at hl 4 rfl) ?_
                            refine lv_icmp_ge (tgt := 113) hx hb dEi_readOne_42 (by decide) (fun h42_4 => ?_) (fun h42_4 => ?_)
                            · skip
                              refine lv_iload hx hb dEi_readOne_113 (lv_at hl 4 rfl) ?_
                              refine lv_if_le (tgt := 124) hx hb dEi_readOne_115 (by decide) (fun h115 => ?_) (fun h115 => ?_)
                              · skip
                                exact absurd h115 (by decide)
                              · skip
                                refine lv_aload_n hx hb dEi_readOne_118 rfl (lv_at hl 6 rfl) ?_
                                refine lv_iload hx hb dEi_readOne_119 (lv_at hl 1 rfl) ?_
                                refine va_put (D := D) (ci := 1) (v := .int (nI ((((tn (un L p0) - 240) * 64 + tn (un L (p0 + 1)) - 128) * 64 + tn (un L (p0 + 2)) - 128) * 64 + tn (un L (p0 + 3)) - 128))) (ty := .int) (C := R_Ei) (T := T_Ei) (N := 2) hx hb hw in_Ei ty_Ei ty_Ei_ok nm_Ei hown hK hP hD hS 0 rfl rfl 0 (by decide) (hw _ w_45) (fun x9 h9 => u_same (hw _ w_46) x9 h9) rfl (by decide +kernel) rfl rfl (Nat.le_of_ble_eq_true rfl) dEi_readOne_121 (fun H locs hP hD hS => ?_)
                                have hP : va_P D vwCl [(h8, .inr (1, [.int (nI ((((tn (un L p0) - 240) * 64 + tn (un L (p0 + 1)) - 128) * 64 + tn (un L (p0 + 2)) - 128) * 64 + tn (un L (p0 + 3)) - 128)), .int (nI 4)])), (h, .inr (0, [.ref a, .int (nI L.length)])), (a, .inl (cA, N, .inl f))] H := hP
                                have hD : va_D A [(h8, .inr (1, [.int (nI ((((tn (un L p0) - 240) * 64 + tn (un L (p0 + 1)) - 128) * 64 + tn (un L (p0 + 2)) - 128) * 64 + tn (un L (p0 + 3)) - 128)), .int (nI 4)])), (h, .inr (0, [.ref a, .int (nI L.length)])), (a, .inl (cA, N, .inl f))] := hD
                                have er : rd8 (un L) p0 = (some ((((tn (un L p0) - 240) * 64 + tn (un L (p0 + 1)) - 128) * 64 + tn (un L (p0 + 2)) - 128) * 64 + tn (un L (p0 + 3)) - 128), 4) := by simp [rd8, e8, hk64_4, hk72_5, hk72_6]
                                replace hP : va_P D vwCl [(h8, .inr (1, [.int (ov (rd8 (un L) p0).1), .int (nI (rd8 (un L) p0).2)])), (h, .inr (0, [.ref a, .int (nI L.length)])), (a, .inl (cA, N, .inl f))] H := by rw [er]; exact hP
                                replace hD : va_D A [(h8, .inr (1, [.int (ov (rd8 (un L) p0).1), .int (nI (rd8 (un L) p0).2)])), (h, .inr (0, [.ref a, .int (nI L.length)])), (a, .inl (cA, N, .inl f))] := by rw [er]; exact hD
                                exact ret () dEi_readOne_124 trivial hP hD hS
                            · skip
                              exact absurd h42_4 (by decide)
                          · skip
                            exact absurd h79_3 (by decide)
                        · skip
                          replace hP : va_P D vwCl [(h8, .inr (1, [.int (-1), .int (nI 3)])), (h, .inr (0, [.ref a, .int (nI L.length)])), (a, .inl (cA, N, .inl f))] H := hP.sub [0, 1, 2] rfl
                          replace hD : va_D A [(h8, .inr (1, [.int (-1), .int (nI 3)])), (h, .inr (0, [.ref a, .int (nI L.length)])), (a, .inl (cA, N, .inl f))] := hD.sub [0, 1, 2] (by decide) rfl
                          refine lv_istore (lv' := [(8, .int (nI 0)), (7, .int (un L (p0 + 3))), (6, .int (nI 3)), (5, .int (nI (((tn (un L p0) - 240) * 64 + tn (un L (p0 + 1)) - 128) * 64 + tn (un L (p0 + 2)) - 128))), (4, .int (nI 4)), (3, .int (un L p0)), (0, .ref h8), (1, .ref h), (2, .int (nI p0))]) hx hb dEi_readOne_75 hl (by decide) rfl (fun ls hl => ?_)
                          refine lv_iload hx hb dEi_readOne_77 (lv_at hl 0 rfl) ?_
                          refine lv_if_ne (tgt := 83) hx hb dEi_readOne_79 (by decide) (fun h79_3 => ?_) (fun h79_3 => ?_)
                          · skip
                            exact absurd h79_3 (by decide)
                          · skip
                            have er : rd8 (un L) p0 = (none, 3) := by simp [rd8, e8, hk64_4, hk72_5, hk72_6]
                            replace hP : va_P D vwCl [(h8, .inr (1, [.int (ov (rd8 (un L) p0).1), .int (nI (rd8 (un L) p0).2)])), (h, .inr (0, [.ref a, .int (nI L.length)])), (a, .inl (cA, N, .inl f))] H := by rw [er]; exact hP
                            replace hD : va_D A [(h8, .inr (1, [.int (ov (rd8 (un L) p0).1), .int (nI (rd8 (un L) p0).2)])), (h, .inr (0, [.ref a, .int (nI L.length)])), (a, .inl (cA, N, .inl f))] := by rw [er]; exact hD
                            exact ret () dEi_readOne_82 trivial hP hD hS
                      · skip
                        exact absurd h58_3 (by decide)
                  · skip
                    exact absurd h79_2 (by decide)
                · skip
                  replace hP : va_P D vwCl [(h8, .inr (1, [.int (-1), .int (nI 2)])), (h, .inr (0, [.ref a, .int (nI L.length)])), (a, .inl (cA, N, .inl f))] H := hP.sub [0, 1, 2] rfl
                  replace hD : va_D A [(h8, .inr (1, [.int (-1), .int (nI 2)])), (h, .inr (0, [.ref a, .int (nI L.length)])), (a, .inl (cA, N, .inl f))] := hD.sub [0, 1, 2] (by decide) rfl
                  refine lv_istore (lv' := [(8, .int (nI 0)), (7, .int (un L (p0 + 2))), (6, .int (nI 2)), (5, .int (nI ((tn (un L p0) - 240) * 64 + tn (un L (p0 + 1)) - 128))), (4, .int (nI 4)), (3, .int (un L p0)), (0, .ref h8), (1, .ref h), (2, .int (nI p0))]) hx hb dEi_readOne_75 hl (by decide) rfl (fun ls hl => ?_)
                  refine lv_iload hx hb dEi_readOne_77 (lv_at hl 0 rfl) ?_
                  refine lv_if_ne (tgt := 83) hx hb dEi_readOne_79 (by decide) (fun h79_2 => ?_) (fun h79_2 => ?_)
                  · skip
                    exact absurd h79_2 (by decide)
                  · skip
                    have er : rd8 (un L) p0 = (none, 2) := by simp [rd8, e8, hk64_4, hk72_5]
                    replace hP : va_P D vwCl [(h8, .inr (1, [.int (ov (rd8 (un L) p0).1), .int (nI (rd8 (un L) p0).2)])), (h, .inr (0, [.ref a, .int (nI L.length)])), (a, .inl (cA, N, .inl f))] H := by rw [er]; exact hP
                    replace hD : va_D A [(h8, .inr (1, [.int (ov (rd8 (un L) p0).1), .int (nI (rd8 (un L) p0).2)])), (h, .inr (0, [.ref a, .int (nI L.length)])), (a, .inl (cA, N, .inl f))] := by rw [er]; exact hD
                    exact ret () dEi_readOne_82 trivial hP hD hS
              · skip
                exact absurd h58_2 (by decide)
          · skip
            exact absurd h79 (by decide)
        · skip
          replace hP : va_P D vwCl [(h8, .inr (1, [.int (-1), .int (nI 1)])), (h, .inr (0, [.ref a, .int (nI L.length)])), (a, .inl (cA, N, .inl f))] H := hP.sub [0, 1, 2] rfl
          replace hD : va_D A [(h8, .inr (1, [.int (-1), .int (nI 1)])), (h, .inr (0, [.ref a, .int (nI L.length)])), (a, .inl (cA, N, .inl f))] := hD.sub [0, 1, 2] (by decide) rfl
          refine lv_goto (tgt := 75) hx hb dEi_readOne_67 (by decide) ?_
          refine lv_istore (lv' := [(8, .int (nI 0)), (7, .int (un L (p0 + 1))), (6, .int (nI 1)), (5, .int (nI (tn (un L p0) - 240))), (4, .int (nI 4)), (3, .int (un L p0)), (0, .ref h8), (1, .ref h), (2, .int (nI p0))]) hx hb dEi_readOne_75 hl (by decide) rfl (fun ls hl => ?_)
          refine lv_iload hx hb dEi_readOne_77 (lv_at hl 0 rfl) ?_
          refine lv_if_ne (tgt := 83) hx hb dEi_readOne_79 (by decide) (fun h79 => ?_) (fun h79 => ?_)
          · skip
            exact absurd h79 (by decide)
          · skip
            have er : rd8 (un L) p0 = (none, 1) := by simp [rd8, e8, hk64_4]
            replace hP : va_P D vwCl [(h8, .inr (1, [.int (ov (rd8 (un L) p0).1), .int (nI (rd8 (un L) p0).2)])), (h, .inr (0, [.ref a, .int (nI L.length)])), (a, .inl (cA, N, .inl f))] H := by rw [er]; exact hP
            replace hD : va_D A [(h8, .inr (1, [.int (ov (rd8 (un L) p0).1), .int (nI (rd8 (un L) p0).2)])), (h, .inr (0, [.ref a, .int (nI L.length)])), (a, .inl (cA, N, .inl f))] := by rw [er]; exact hD
            exact ret () dEi_readOne_82 trivial hP hD hS
