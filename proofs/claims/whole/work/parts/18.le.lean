set_option maxHeartbeats 4000000 in
set_option maxRecDepth 100000 in
theorem k_Le_begin (l : Launch) (D : va_G) (cA : ClassId) (sz : Nat) (oT : Nat) (lat lva lpl lbi lfi : Int32)  : KV l D cA y_Le_begin c_Le_begin 1 0 0 [.ref oT] sz [(oT, .inr (3, [.int lat, .int lva, .int lpl, .int lbi, .int lfi]))] (S := Unit) (fun _ => True) (fun _ => [(oT, .inr (3, [.int lat, .int (nI 128), .int (nI 0), .int (nI 72), .int (bI true)]))]) := by
  refine KV.of (by decide) (Nat.le_of_ble_eq_true rfl) ?_
  intro p e s m args below meth c Q R A ls Xf hR hA hS hP hD hK hn hl ret
  have hx := Xf.1
  have hb := Xf.2.1
  have hown : s.vm.findClass "ScalarScribe$Letters" = some m.cls := Xf.2.2.2.1
  have hw := Xf.2.2.2.2
  have hl : lv_has ls 1 [(0, .ref oT)] := hl
  refine lv_aload_n hx hb dLe_begin_0 rfl (lv_at hl 0 rfl) ?_
  refine lv_sipush (v := nI 128) hx hb dLe_begin_1 (by decide) ?_
  refine va_put (D := D) (ci := 3) (v := .int (nI 128)) (ty := .int) (C := R_Le) (T := T_Le) (N := 5) hx hb hw in_Le ty_Le ty_Le_ok nm_Le hown hK hP hD hS 0 rfl rfl 1 (by decide) (hw _ w_74) (fun _ h9 => h9) rfl (by decide +kernel) rfl rfl (Nat.le_of_ble_eq_true rfl) dLe_begin_4 (fun H locs hP hD hS => ?_)
  have hP : va_P D vwCl [(oT, .inr (3, [.int lat, .int (nI 128), .int lpl, .int lbi, .int lfi]))] H := hP
  have hD : va_D A [(oT, .inr (3, [.int lat, .int (nI 128), .int lpl, .int lbi, .int lfi]))] := hD
  refine lv_aload_n hx hb dLe_begin_7 rfl (lv_at hl 0 rfl) ?_
  refine lv_iconst (v := nI 0) hx hb dLe_begin_8 (by decide) ?_
  refine va_put (D := D) (ci := 3) (v := .int (nI 0)) (ty := .int) (C := R_Le) (T := T_Le) (N := 5) hx hb hw in_Le ty_Le ty_Le_ok nm_Le hown hK hP hD hS 0 rfl rfl 2 (by decide) (hw _ w_75) (fun _ h9 => h9) rfl (by decide +kernel) rfl rfl (Nat.le_of_ble_eq_true rfl) dLe_begin_9 (fun H locs hP hD hS => ?_)
  have hP : va_P D vwCl [(oT, .inr (3, [.int lat, .int (nI 128), .int (nI 0), .int lbi, .int lfi]))] H := hP
  have hD : va_D A [(oT, .inr (3, [.int lat, .int (nI 128), .int (nI 0), .int lbi, .int lfi]))] := hD
  refine lv_aload_n hx hb dLe_begin_12 rfl (lv_at hl 0 rfl) ?_
  refine lv_bipush (v := nI 72) hx hb dLe_begin_13 (by decide) ?_
  refine va_put (D := D) (ci := 3) (v := .int (nI 72)) (ty := .int) (C := R_Le) (T := T_Le) (N := 5) hx hb hw in_Le ty_Le ty_Le_ok nm_Le hown hK hP hD hS 0 rfl rfl 3 (by decide) (hw _ w_76) (fun _ h9 => h9) rfl (by decide +kernel) rfl rfl (Nat.le_of_ble_eq_true rfl) dLe_begin_15 (fun H locs hP hD hS => ?_)
  have hP : va_P D vwCl [(oT, .inr (3, [.int lat, .int (nI 128), .int (nI 0), .int (nI 72), .int lfi]))] H := hP
  have hD : va_D A [(oT, .inr (3, [.int lat, .int (nI 128), .int (nI 0), .int (nI 72), .int lfi]))] := hD
  refine lv_aload_n hx hb dLe_begin_18 rfl (lv_at hl 0 rfl) ?_
  refine lv_iconst (v := nI 1) hx hb dLe_begin_19 (by decide) ?_
  refine va_put (D := D) (ci := 3) (v := .int (nI 1)) (ty := .boolean) (C := R_Le) (T := T_Le) (N := 5) hx hb hw in_Le ty_Le ty_Le_ok nm_Le hown hK hP hD hS 0 rfl rfl 4 (by decide) (hw _ w_77) (fun _ h9 => h9) rfl (by decide +kernel) rfl rfl (Nat.le_of_ble_eq_true rfl) dLe_begin_20 (fun H locs hP hD hS => ?_)
  have hP : va_P D vwCl [(oT, .inr (3, [.int lat, .int (nI 128), .int (nI 0), .int (nI 72), .int (nI 1)]))] H := hP
  have hD : va_D A [(oT, .inr (3, [.int lat, .int (nI 128), .int (nI 0), .int (nI 72), .int (nI 1)]))] := hD
  exact ret () dLe_begin_23 trivial hP hD hS
set_option maxHeartbeats 4000000 in
set_option maxRecDepth 100000 in
theorem k_Le_digitOf (l : Launch) (D : va_G) (cA : ClassId) (sz : Nat) (x : Int32)  : KI l D cA y_Le_digitOf c_Le_digitOf 1 .int 0 0 [.int x] sz [] (S := Unit) (fun r _ => (∃ n, dgo x = some n ∧ n ≤ 35 ∧ r = nI n) ∨ (dgo x = none ∧ r = -1)) (fun _ => []) := by
  refine KI.of (by decide) (Nat.le_of_ble_eq_true rfl) ?_
  intro p e s m args below meth c Q R A ls Xf hR hA hS hP hD hK hn hl ret
  have hx := Xf.1
  have hb := Xf.2.1
  have hown : s.vm.findClass "ScalarScribe$Letters" = some m.cls := Xf.2.2.2.1
  have hw := Xf.2.2.2.2
  have hl : lv_has ls 1 [(0, .int x)] := hl
  refine lv_iload_n hx hb dLe_digitOf_0 rfl (lv_at hl 0 rfl) ?_
  refine lv_bipush (v := nI 97) hx hb dLe_digitOf_1 (by decide) ?_
  refine lv_icmp_lt (tgt := 17) hx hb dLe_digitOf_3 (by decide) (fun h3 => ?_) (fun h3 => ?_)
  · skip
    rw [Int32.lt_iff_toInt_lt, nI_toInt (n := 97) (by omega)] at h3
    refine lv_iload_n hx hb dLe_digitOf_17 rfl (lv_at hl 0 rfl) ?_
    refine lv_bipush (v := nI 65) hx hb dLe_digitOf_18 (by decide) ?_
    refine lv_icmp_lt (tgt := 34) hx hb dLe_digitOf_20 (by decide) (fun h20 => ?_) (fun h20 => ?_)
    · skip
      rw [Int32.lt_iff_toInt_lt, nI_toInt (n := 65) (by omega)] at h20
      refine lv_iload_n hx hb dLe_digitOf_34 rfl (lv_at hl 0 rfl) ?_
      refine lv_bipush (v := nI 48) hx hb dLe_digitOf_35 (by decide) ?_
      refine lv_icmp_lt (tgt := 56) hx hb dLe_digitOf_37 (by decide) (fun h37 => ?_) (fun h37 => ?_)
      · skip
        rw [Int32.lt_iff_toInt_lt, nI_toInt (n := 48) (by omega)] at h37
        refine lv_iconst (v := (-1)) hx hb dLe_digitOf_56 (by decide) ?_
        exact ret () dLe_digitOf_57 rfl (Or.inr ⟨by unfold dgo; (repeat' split) <;> first | omega | rfl, rfl⟩) hP hD hS
      · skip
        rw [Int32.lt_iff_toInt_lt, nI_toInt (n := 48) (by omega)] at h37
        refine lv_iload_n hx hb dLe_digitOf_40 rfl (lv_at hl 0 rfl) ?_
        refine lv_bipush (v := nI 57) hx hb dLe_digitOf_41 (by decide) ?_
        refine lv_icmp_gt (tgt := 56) hx hb dLe_digitOf_43 (by decide) (fun h43 => ?_) (fun h43 => ?_)
        · skip
          rw [Int32.lt_iff_toInt_lt, nI_toInt (n := 57) (by omega)] at h43
          refine lv_iconst (v := (-1)) hx hb dLe_digitOf_56 (by decide) ?_
          exact ret () dLe_digitOf_57 rfl (Or.inr ⟨by unfold dgo; (repeat' split) <;> first | omega | rfl, rfl⟩) hP hD hS
        · skip
          rw [Int32.lt_iff_toInt_lt, nI_toInt (n := 57) (by omega)] at h43
          obtain ⟨ea, eb, ec⟩ := tn_of (show (0 : Int) ≤ x.toInt by omega) (by decide)
          refine lv_iload_n hx hb dLe_digitOf_46 rfl (lv_at hl 0 rfl) ?_
          refine lv_bipush (v := nI 48) hx hb dLe_digitOf_47 (by decide) ?_
          refine lv_isub hx hb dLe_digitOf_49 ?_
          refine lv_rei (y := nI (tn x - 48)) (sub_r ea (by omega)) ?_
          refine lv_bipush (v := nI 26) hx hb dLe_digitOf_50 (by decide) ?_
          refine lv_iadd hx hb dLe_digitOf_52 ?_
          refine lv_rei (y := nI (tn x - 22)) (by rw [nI_add]; congr 1; omega) ?_
          refine lv_goto (tgt := 57) hx hb dLe_digitOf_53 (by decide) ?_
          exact ret () dLe_digitOf_57 rfl (Or.inl ⟨tn x - 22, by unfold dgo; (repeat' split) <;> first | omega | rfl, by omega, rfl⟩) hP hD hS
    · skip
      rw [Int32.lt_iff_toInt_lt, nI_toInt (n := 65) (by omega)] at h20
      refine lv_iload_n hx hb dLe_digitOf_23 rfl (lv_at hl 0 rfl) ?_
      refine lv_bipush (v := nI 90) hx hb dLe_digitOf_24 (by decide) ?_
      refine lv_icmp_gt (tgt := 34) hx hb dLe_digitOf_26 (by decide) (fun h26 => ?_) (fun h26 => ?_)
      · skip
        rw [Int32.lt_iff_toInt_lt, nI_toInt (n := 90) (by omega)] at h26
        refine lv_iload_n hx hb dLe_digitOf_34 rfl (lv_at hl 0 rfl) ?_
        refine lv_bipush (v := nI 48) hx hb dLe_digitOf_35 (by decide) ?_
        refine lv_icmp_lt (tgt := 56) hx hb dLe_digitOf_37 (by decide) (fun h37 => ?_) (fun h37 => ?_)
        · skip
          rw [Int32.lt_iff_toInt_lt, nI_toInt (n := 48) (by omega)] at h37
          refine lv_iconst (v := (-1)) hx hb dLe_digitOf_56 (by decide) ?_
          exact ret () dLe_digitOf_57 rfl (Or.inr ⟨by unfold dgo; (repeat' split) <;> first | omega | rfl, rfl⟩) hP hD hS
        · skip
          rw [Int32.lt_iff_toInt_lt, nI_toInt (n := 48) (by omega)] at h37
          refine lv_iload_n hx hb dLe_digitOf_40 rfl (lv_at hl 0 rfl) ?_
          refine lv_bipush (v := nI 57) hx hb dLe_digitOf_41 (by decide) ?_
          refine lv_icmp_gt (tgt := 56) hx hb dLe_digitOf_43 (by decide) (fun h43 => ?_) (fun h43 => ?_)
          · skip
            rw [Int32.lt_iff_toInt_lt, nI_toInt (n := 57) (by omega)] at h43
            refine lv_iconst (v := (-1)) hx hb dLe_digitOf_56 (by decide) ?_
            exact ret () dLe_digitOf_57 rfl (Or.inr ⟨by unfold dgo; (repeat' split) <;> first | omega | rfl, rfl⟩) hP hD hS
          · skip
            rw [Int32.lt_iff_toInt_lt, nI_toInt (n := 57) (by omega)] at h43
            obtain ⟨ea, eb, ec⟩ := tn_of (show (0 : Int) ≤ x.toInt by omega) (by decide)
            refine lv_iload_n hx hb dLe_digitOf_46 rfl (lv_at hl 0 rfl) ?_
            refine lv_bipush (v := nI 48) hx hb dLe_digitOf_47 (by decide) ?_
            refine lv_isub hx hb dLe_digitOf_49 ?_
            refine lv_rei (y := nI (tn x - 48)) (sub_r ea (by omega)) ?_
            refine lv_bipush (v := nI 26) hx hb dLe_digitOf_50 (by decide) ?_
            refine lv_iadd hx hb dLe_digitOf_52 ?_
            refine lv_rei (y := nI (tn x - 22)) (by rw [nI_add]; congr 1; omega) ?_
            refine lv_goto (tgt := 57) hx hb dLe_digitOf_53 (by decide) ?_
            exact ret () dLe_digitOf_57 rfl (Or.inl ⟨tn x - 22, by unfold dgo; (repeat' split) <;> first | omega | rfl, by omega, rfl⟩) hP hD hS
      · skip
        rw [Int32.lt_iff_toInt_lt, nI_toInt (n := 90) (by omega)] at h26
        obtain ⟨ea, eb, ec⟩ := tn_of (show (0 : Int) ≤ x.toInt by omega) (by decide)
        refine lv_iload_n hx hb dLe_digitOf_29 rfl (lv_at hl 0 rfl) ?_
        refine lv_bipush (v := nI 65) hx hb dLe_digitOf_30 (by decide) ?_
        refine lv_isub hx hb dLe_digitOf_32 ?_
        refine lv_rei (y := nI (tn x - 65)) (sub_r ea (by omega)) ?_
        exact ret () dLe_digitOf_33 rfl (Or.inl ⟨tn x - 65, by unfold dgo; (repeat' split) <;> first | omega | rfl, by omega, rfl⟩) hP hD hS
  · skip
    rw [Int32.lt_iff_toInt_lt, nI_toInt (n := 97) (by omega)] at h3
    refine lv_iload_n hx hb dLe_digitOf_6 rfl (lv_at hl 0 rfl) ?_
    refine lv_bipush (v := nI 122) hx hb dLe_digitOf_7 (by decide) ?_
    refine lv_icmp_gt (tgt := 17) hx hb dLe_digitOf_9 (by decide) (fun h9 => ?_) (fun h9 => ?_)
    · skip
      rw [Int32.lt_iff_toInt_lt, nI_toInt (n := 122) (by omega)] at h9
      refine lv_iload_n hx hb dLe_digitOf_17 rfl (lv_at hl 0 rfl) ?_
      refine lv_bipush (v := nI 65) hx hb dLe_digitOf_18 (by decide) ?_
      refine lv_icmp_lt (tgt := 34) hx hb dLe_digitOf_20 (by decide) (fun h20 => ?_) (fun h20 => ?_)
      · skip
        rw [Int32.lt_iff_toInt_lt, nI_toInt (n := 65) (by omega)] at h20
        refine lv_iload_n hx hb dLe_digitOf_34 rfl (lv_at hl 0 rfl) ?_
        refine lv_bipush (v := nI 48) hx hb dLe_digitOf_35 (by decide) ?_
        refine lv_icmp_lt (tgt := 56) hx hb dLe_digitOf_37 (by decide) (fun h37 => ?_) (fun h37 => ?_)
        · skip
          rw [Int32.lt_iff_toInt_lt, nI_toInt (n := 48) (by omega)] at h37
          refine lv_iconst (v := (-1)) hx hb dLe_digitOf_56 (by decide) ?_
          exact ret () dLe_digitOf_57 rfl (Or.inr ⟨by unfold dgo; (repeat' split) <;> first | omega | rfl, rfl⟩) hP hD hS
        · skip
          rw [Int32.lt_iff_toInt_lt, nI_toInt (n := 48) (by omega)] at h37
          refine lv_iload_n hx hb dLe_digitOf_40 rfl (lv_at hl 0 rfl) ?_
          refine lv_bipush (v := nI 57) hx hb dLe_digitOf_41 (by decide) ?_
          refine lv_icmp_gt (tgt := 56) hx hb dLe_digitOf_43 (by decide) (fun h43 => ?_) (fun h43 => ?_)
          · skip
            rw [Int32.lt_iff_toInt_lt, nI_toInt (n := 57) (by omega)] at h43
            refine lv_iconst (v := (-1)) hx hb dLe_digitOf_56 (by decide) ?_
            exact ret () dLe_digitOf_57 rfl (Or.inr ⟨by unfold dgo; (repeat' split) <;> first | omega | rfl, rfl⟩) hP hD hS
          · skip
            rw [Int32.lt_iff_toInt_lt, nI_toInt (n := 57) (by omega)] at h43
            obtain ⟨ea, eb, ec⟩ := tn_of (show (0 : Int) ≤ x.toInt by omega) (by decide)
            refine lv_iload_n hx hb dLe_digitOf_46 rfl (lv_at hl 0 rfl) ?_
            refine lv_bipush (v := nI 48) hx hb dLe_digitOf_47 (by decide) ?_
            refine lv_isub hx hb dLe_digitOf_49 ?_
            refine lv_rei (y := nI (tn x - 48)) (sub_r ea (by omega)) ?_
            refine lv_bipush (v := nI 26) hx hb dLe_digitOf_50 (by decide) ?_
            refine lv_iadd hx hb dLe_digitOf_52 ?_
            refine lv_rei (y := nI (tn x - 22)) (by rw [nI_add]; congr 1; omega) ?_
            refine lv_goto (tgt := 57) hx hb dLe_digitOf_53 (by decide) ?_
            exact ret () dLe_digitOf_57 rfl (Or.inl ⟨tn x - 22, by unfold dgo; (repeat' split) <;> first | omega | rfl, by omega, rfl⟩) hP hD hS
      · skip
        rw [Int32.lt_iff_toInt_lt, nI_toInt (n := 65) (by omega)] at h20
        refine lv_iload_n hx hb dLe_digitOf_23 rfl (lv_at hl 0 rfl) ?_
        refine lv_bipush (v := nI 90) hx hb dLe_digitOf_24 (by decide) ?_
        refine lv_icmp_gt (tgt := 34) hx hb dLe_digitOf_26 (by decide) (fun h26 => ?_) (fun h26 => ?_)
        · skip
          rw [Int32.lt_iff_toInt_lt, nI_toInt (n := 90) (by omega)] at h26
          refine lv_iload_n hx hb dLe_digitOf_34 rfl (lv_at hl 0 rfl) ?_
          refine lv_bipush (v := nI 48) hx hb dLe_digitOf_35 (by decide) ?_
          refine lv_icmp_lt (tgt := 56) hx hb dLe_digitOf_37 (by decide) (fun h37 => ?_) (fun h37 => ?_)
          · skip
            rw [Int32.lt_iff_toInt_lt, nI_toInt (n := 48) (by omega)] at h37
            refine lv_iconst (v := (-1)) hx hb dLe_digitOf_56 (by decide) ?_
            exact ret () dLe_digitOf_57 rfl (Or.inr ⟨by unfold dgo; (repeat' split) <;> first | omega | rfl, rfl⟩) hP hD hS
          · skip
            rw [Int32.lt_iff_toInt_lt, nI_toInt (n := 48) (by omega)] at h37
            refine lv_iload_n hx hb dLe_digitOf_40 rfl (lv_at hl 0 rfl) ?_
            refine lv_bipush (v := nI 57) hx hb dLe_digitOf_41 (by decide) ?_
            refine lv_icmp_gt (tgt := 56) hx hb dLe_digitOf_43 (by decide) (fun h43 => ?_) (fun h43 => ?_)
            · skip
              rw [Int32.lt_iff_toInt_lt, nI_toInt (n := 57) (by omega)] at h43
              refine lv_iconst (v := (-1)) hx hb dLe_digitOf_56 (by decide) ?_
              exact ret () dLe_digitOf_57 rfl (Or.inr ⟨by unfold dgo; (repeat' split) <;> first | omega | rfl, rfl⟩) hP hD hS
            · skip
              rw [Int32.lt_iff_toInt_lt, nI_toInt (n := 57) (by omega)] at h43
              obtain ⟨ea, eb, ec⟩ := tn_of (show (0 : Int) ≤ x.toInt by omega) (by decide)
              refine lv_iload_n hx hb dLe_digitOf_46 rfl (lv_at hl 0 rfl) ?_
              refine lv_bipush (v := nI 48) hx hb dLe_digitOf_47 (by decide) ?_
              refine lv_isub hx hb dLe_digitOf_49 ?_
              refine lv_rei (y := nI (tn x - 48)) (sub_r ea (by omega)) ?_
              refine lv_bipush (v := nI 26) hx hb dLe_digitOf_50 (by decide) ?_
              refine lv_iadd hx hb dLe_digitOf_52 ?_
              refine lv_rei (y := nI (tn x - 22)) (by rw [nI_add]; congr 1; omega) ?_
              refine lv_goto (tgt := 57) hx hb dLe_digitOf_53 (by decide) ?_
              exact ret () dLe_digitOf_57 rfl (Or.inl ⟨tn x - 22, by unfold dgo; (repeat' split) <;> first | omega | rfl, by omega, rfl⟩) hP hD hS
        · skip
          rw [Int32.lt_iff_toInt_lt, nI_toInt (n := 90) (by omega)] at h26
          obtain ⟨ea, eb, ec⟩ := tn_of (show (0 : Int) ≤ x.toInt by omega) (by decide)
          refine lv_iload_n hx hb dLe_digitOf_29 rfl (lv_at hl 0 rfl) ?_
          refine lv_bipush (v := nI 65) hx hb dLe_digitOf_30 (by decide) ?_
          refine lv_isub hx hb dLe_digitOf_32 ?_
          refine lv_rei (y := nI (tn x - 65)) (sub_r ea (by omega)) ?_
          exact ret () dLe_digitOf_33 rfl (Or.inl ⟨tn x - 65, by unfold dgo; (repeat' split) <;> first | omega | rfl, by omega, rfl⟩) hP hD hS
    · skip
      rw [Int32.lt_iff_toInt_lt, nI_toInt (n := 122) (by omega)] at h9
      obtain ⟨ea, eb, ec⟩ := tn_of (show (0 : Int) ≤ x.toInt by omega) (by decide)
      refine lv_iload_n hx hb dLe_digitOf_12 rfl (lv_at hl 0 rfl) ?_
      refine lv_bipush (v := nI 97) hx hb dLe_digitOf_13 (by decide) ?_
      refine lv_isub hx hb dLe_digitOf_15 ?_
      refine lv_rei (y := nI (tn x - 97)) (sub_r ea (by omega)) ?_
      exact ret () dLe_digitOf_16 rfl (Or.inl ⟨tn x - 97, by unfold dgo; (repeat' split) <;> first | omega | rfl, by omega, rfl⟩) hP hD hS
set_option maxHeartbeats 4000000 in
set_option maxRecDepth 100000 in
theorem k_Le_thresholdOf (l : Launch) (D : va_G) (cA : ClassId) (sz : Nat) (oT : Nat) (lat lva lpl : Int32) (bi : Nat) (lfi : Int32) (k : Nat) (hbi : bi < 2 ^ 20) (hk : k < 2 ^ 20) : KI l D cA y_Le_thresholdOf c_Le_thresholdOf 2 .int 1 21 [.ref oT, .int (nI k)] sz [(oT, .inr (3, [.int lat, .int lva, .int lpl, .int (nI bi), .int lfi]))] (S := Unit) (fun r _ => r = nI (thN bi k)) (fun _ => [(oT, .inr (3, [.int lat, .int lva, .int lpl, .int (nI bi), .int lfi]))]) := by
  refine KI.of (by decide) (Nat.le_of_ble_eq_true rfl) ?_
  intro p e s m args below meth c Q R A ls Xf hR hA hS hP hD hK hn hl ret
  have hx := Xf.1
  have hb := Xf.2.1
  have hown : s.vm.findClass "ScalarScribe$Letters" = some m.cls := Xf.2.2.2.1
  have hw := Xf.2.2.2.2
  have hl : lv_has ls 2 [(0, .ref oT), (1, .int (nI k))] := hl
  refine lv_iconst (v := nI 1) hx hb dLe_thresholdOf_0 (by decide) ?_
  refine lv_bipush (v := nI 26) hx hb dLe_thresholdOf_1 (by decide) ?_
  refine lv_bipush (v := nI 36) hx hb dLe_thresholdOf_3 (by decide) ?_
  refine lv_iload_n hx hb dLe_thresholdOf_5 rfl (lv_at hl 1 rfl) ?_
  refine lv_imul hx hb dLe_thresholdOf_6 ?_
  refine lv_rei (y := nI (36 * k)) (pk_mul _ _) ?_
  refine lv_aload_n hx hb dLe_thresholdOf_7 rfl (lv_at hl 0 rfl) ?_
  refine va_get (D := D) (ci := 3) (v := .int (nI bi)) (C := R_Le) (T := T_Le) (N := 5) hx hb hw in_Le hown hK hP 0 rfl rfl 3 (by decide) (hw _ w_76) (fun _ h9 => h9) rfl dLe_thresholdOf_8 ?_
  refine lv_isub hx hb dLe_thresholdOf_11 ?_
  refine va_mmin hx hb (Xf.2.2.1.trans hl.1.symm) hown (hw _ w_232) (hw _ w_159) (hw _ w_8) (hw _ w_160) (by rw [hR]; exact Nat.le_of_ble_eq_true rfl) (by rw [hR]; exact Nat.le_of_ble_eq_true rfl) (Nat.zero_le _) (Nat.zero_le _) dLe_thresholdOf_12 ?_
  refine va_mmax hx hb (Xf.2.2.1.trans hl.1.symm) hown (hw _ w_233) (hw _ w_189) (hw _ w_8) (hw _ w_190) (by rw [hR]; exact Nat.le_of_ble_eq_true rfl) (by rw [hR]; exact Nat.le_of_ble_eq_true rfl) (Nat.zero_le _) (Nat.zero_le _) dLe_thresholdOf_15 ?_
  refine lv_rei (y := nI (thN bi k)) (th_c hbi hk) ?_
  exact ret () dLe_thresholdOf_18 rfl rfl hP hD hS
set_option maxHeartbeats 4000000 in
set_option maxRecDepth 100000 in
theorem k_Le_biasBehind (l : Launch) (D : va_G) (cA : ClassId) (sz : Nat) (oT : Nat) (lat lva lpl lbi : Int32) (fb : Bool) (d n : Nat) (hd : d < 2 ^ 31) (hn1 : 1 ≤ n) (hn2 : n < 2 ^ 31) : KI l D cA y_Le_biasBehind c_Le_biasBehind 5 .int 0 0 [.ref oT, .int (nI d), .int (nI n)] sz [(oT, .inr (3, [.int lat, .int lva, .int lpl, .int lbi, .int (bI fb)]))] (S := Unit) (fun r _ => r = nI (adN d n fb)) (fun _ => [(oT, .inr (3, [.int lat, .int lva, .int lpl, .int lbi, .int (bI fb)]))]) := by
  refine KI.of (by decide) (Nat.le_of_ble_eq_true rfl) ?_
  intro p e s m args below meth c Q R A ls Xf hR hA hS hP hD hK hn hl ret
  have hx := Xf.1
  have hb := Xf.2.1
  have hown : s.vm.findClass "ScalarScribe$Letters" = some m.cls := Xf.2.2.2.1
  have hw := Xf.2.2.2.2
  have hl : lv_has ls 5 [(0, .ref oT), (1, .int (nI d)), (2, .int (nI n))] := hl
  refine lv_aload_n hx hb dLe_biasBehind_0 rfl (lv_at hl 0 rfl) ?_
  refine va_get (D := D) (ci := 3) (v := .int (bI fb)) (C := R_Le) (T := T_Le) (N := 5) hx hb hw in_Le hown hK hP 0 rfl rfl 4 (by decide) (hw _ w_77) (fun _ h9 => h9) rfl dLe_biasBehind_1 ?_
  cases fb
  · skip
    refine lv_rei (y := nI 0) rfl ?_
    refine lv_if_eq (tgt := 15) hx hb dLe_biasBehind_4 (by decide) (fun h4 => ?_) (fun h4 => ?_)
    · skip
      refine lv_iload_n hx hb dLe_biasBehind_15 rfl (lv_at hl 1 rfl) ?_
      refine lv_iconst (v := nI 2) hx hb dLe_biasBehind_16 (by decide) ?_
      refine lv_idiv hx hb dLe_biasBehind_17 (by decide) ?_
      refine lv_rei (y := nI (d / 2)) (pk_div (by omega) (by omega) (by omega)) ?_
      refine lv_istore_n (lv' := [(3, .int (nI (d / 2))), (0, .ref oT), (1, .int (nI d)), (2, .int (nI n))]) hx hb dLe_biasBehind_18 rfl hl (by decide) rfl (fun ls hl => ?_)
      have hdv := Nat.div_le_self (d / 2) n
      refine lv_iload_n hx hb dLe_biasBehind_19 rfl (lv_at hl 0 rfl) ?_
      refine lv_iload_n hx hb dLe_biasBehind_20 rfl (lv_at hl 0 rfl) ?_
      refine lv_iload_n hx hb dLe_biasBehind_21 rfl (lv_at hl 3 rfl) ?_
      refine lv_idiv hx hb dLe_biasBehind_22 (nI_ne0 (by omega) (by omega)) ?_
      refine lv_rei (y := nI ((d / 2) / n)) (pk_div (by omega) (by omega) (by omega)) ?_
      refine lv_iadd hx hb dLe_biasBehind_23 ?_
      refine lv_rei (y := nI (d / 2 + ((d / 2) / n))) (nI_add _ _) ?_
      refine lv_istore_n (lv' := [(3, .int (nI (d / 2 + ((d / 2) / n)))), (0, .ref oT), (1, .int (nI d)), (2, .int (nI n))]) hx hb dLe_biasBehind_24 rfl hl (by decide) rfl (fun ls hl => ?_)
      refine lv_iconst (v := nI 0) hx hb dLe_biasBehind_25 (by decide) ?_
      refine lv_istore (lv' := [(4, .int (nI 0)), (3, .int (nI (d / 2 + ((d / 2) / n)))), (0, .ref oT), (1, .int (nI d)), (2, .int (nI n))]) hx hb dLe_biasBehind_26 hl (by decide) rfl (fun ls hl => ?_)
      have loop1 : ∀ (n_ : Nat) (ev : Nat) (rc : Nat) (kf : Nat) (ls : Array Slot) (H : Heap) (locs : List Loc), ev < n_ → ev < 2 ^ 31 → ev ≤ kf → adL kf ev rc = adN d n false → lv_has ls 5 [(3, .int (nI ev)), (4, .int (nI rc)), (0, .ref oT), (1, .int (nI d)), (2, .int (nI n))] → va_P D vwCl [(oT, .inr (3, [.int lat, .int lva, .int lpl, .int lbi, .int (bI false)]))] H → va_D A [(oT, .inr (3, [.int lat, .int lva, .int lpl, .int lbi, .int (bI false)]))] → va_S A s.heap H locs → W p l e R s m args below meth c H locs 0 0 Q (F0 m 28 ls []) := by
        intro n_
        induction n_ with
        | zero => intro ev rc kf ls H locs hm_; exact absurd hm_ (Nat.not_lt_zero _)
        | succ n_ ih_loop1 =>
          intro ev rc kf ls H locs hm_ hev hkf hF hl hP hD hS
          refine lv_iload_n hx hb dLe_biasBehind_28 rfl (lv_at hl 0 rfl) ?_
          refine lv_sipush (v := nI 455) hx hb dLe_biasBehind_29 (by decide) ?_
          refine lv_icmp_le (tgt := 46) hx hb dLe_biasBehind_32 (by decide) (fun h32 => ?_) (fun h32 => ?_)
          · skip
            replace h32 := nt_le (a := ev) (b := 455) (by omega) (by omega) h32
            refine lv_bipush (v := nI 36) hx hb dLe_biasBehind_46 (by decide) ?_
            refine lv_iload hx hb dLe_biasBehind_48 (lv_at hl 1 rfl) ?_
            refine lv_imul hx hb dLe_biasBehind_50 ?_
            refine lv_rei (y := nI (36 * rc)) (pk_mul _ _) ?_
            refine lv_bipush (v := nI 36) hx hb dLe_biasBehind_51 (by decide) ?_
            refine lv_iload_n hx hb dLe_biasBehind_53 rfl (lv_at hl 0 rfl) ?_
            refine lv_imul hx hb dLe_biasBehind_54 ?_
            refine lv_rei (y := nI (36 * ev)) (pk_mul _ _) ?_
            refine lv_iload_n hx hb dLe_biasBehind_55 rfl (lv_at hl 0 rfl) ?_
            refine lv_bipush (v := nI 38) hx hb dLe_biasBehind_56 (by decide) ?_
            refine lv_iadd hx hb dLe_biasBehind_58 ?_
            refine lv_rei (y := nI (ev + 38)) (nI_add _ _) ?_
            refine lv_idiv hx hb dLe_biasBehind_59 (nI_ne0 (by omega) (by omega)) ?_
            refine lv_rei (y := nI ((36 * ev) / (ev + 38))) (pk_div (by omega) (by omega) (by omega)) ?_
            refine lv_iadd hx hb dLe_biasBehind_60 ?_
            refine lv_rei (y := nI (36 * rc + ((36 * ev) / (ev + 38)))) (nI_add _ _) ?_
            exact ret () dLe_biasBehind_61 rfl (congrArg nI (by rw [← hF, adL_end h32])) hP hD hS
          · skip
            replace h32 := nt_nle (a := ev) (b := 455) (by omega) (by omega) h32
            refine lv_iload_n hx hb dLe_biasBehind_35 rfl (lv_at hl 0 rfl) ?_
            refine lv_bipush (v := nI 35) hx hb dLe_biasBehind_36 (by decide) ?_
            refine lv_idiv hx hb dLe_biasBehind_38 (by decide) ?_
            refine lv_rei (y := nI (ev / 35)) (pk_div (by omega) (by omega) (by omega)) ?_
            refine lv_istore_n (lv' := [(3, .int (nI (ev / 35))), (4, .int (nI rc)), (0, .ref oT), (1, .int (nI d)), (2, .int (nI n))]) hx hb dLe_biasBehind_39 rfl hl (by decide) rfl (fun ls hl => ?_)
            refine lv_iinc (k := 1) (v := nI (rc + 1)) (lv' := [(4, .int (nI (rc + 1))), (3, .int (nI (ev / 35))), (0, .ref oT), (1, .int (nI d)), (2, .int (nI n))]) hx hb dLe_biasBehind_40 hl rfl (nI_1 _) (by decide) rfl (fun ls hl => ?_)
            refine lv_goto (tgt := 28) hx hb dLe_biasBehind_43 (by decide) ?_
            obtain ⟨k2, rfl⟩ : ∃ k2, kf = k2 + 1 := ⟨kf - 1, by omega⟩
            rw [adL_step h32] at hF
            exact ih_loop1 (ev / 35) (rc + 1) k2 _ _ _ (by omega) (by omega) (by omega) hF (lv_sub hl [1, 0, 2, 3, 4] rfl) hP hD hS
      exact loop1 _ (d / 2 + ((d / 2) / n)) 0 (d / 2 + ((d / 2) / n)) _ _ _ (Nat.lt_succ_self _) (by omega) (Nat.le_refl _) rfl (lv_sub hl [1, 0, 2, 3, 4] rfl) hP hD hS
    · skip
      exact absurd h4 (by decide)
  · skip
    refine lv_rei (y := nI 1) rfl ?_
    refine lv_if_eq (tgt := 15) hx hb dLe_biasBehind_4 (by decide) (fun h4 => ?_) (fun h4 => ?_)
    · skip
      exact absurd h4 (by decide)
    · skip
      refine lv_iload_n hx hb dLe_biasBehind_7 rfl (lv_at hl 1 rfl) ?_
      refine lv_sipush (v := nI 700) hx hb dLe_biasBehind_8 (by decide) ?_
      refine lv_idiv hx hb dLe_biasBehind_11 (by decide) ?_
      refine lv_rei (y := nI (d / 700)) (pk_div (by omega) (by omega) (by omega)) ?_
      refine lv_goto (tgt := 18) hx hb dLe_biasBehind_12 (by decide) ?_
      refine lv_istore_n (lv' := [(3, .int (nI (d / 700))), (0, .ref oT), (1, .int (nI d)), (2, .int (nI n))]) hx hb dLe_biasBehind_18 rfl hl (by decide) rfl (fun ls hl => ?_)
      have hdv := Nat.div_le_self (d / 700) n
      refine lv_iload_n hx hb dLe_biasBehind_19 rfl (lv_at hl 0 rfl) ?_
      refine lv_iload_n hx hb dLe_biasBehind_20 rfl (lv_at hl 0 rfl) ?_
      refine lv_iload_n hx hb dLe_biasBehind_21 rfl (lv_at hl 3 rfl) ?_
      refine lv_idiv hx hb dLe_biasBehind_22 (nI_ne0 (by omega) (by omega)) ?_
      refine lv_rei (y := nI ((d / 700) / n)) (pk_div (by omega) (by omega) (by omega)) ?_
      refine lv_iadd hx hb dLe_biasBehind_23 ?_
      refine lv_rei (y := nI (d / 700 + ((d / 700) / n))) (nI_add _ _) ?_
      refine lv_istore_n (lv' := [(3, .int (nI (d / 700 + ((d / 700) / n)))), (0, .ref oT), (1, .int (nI d)), (2, .int (nI n))]) hx hb dLe_biasBehind_24 rfl hl (by decide) rfl (fun ls hl => ?_)
      refine lv_iconst (v := nI 0) hx hb dLe_biasBehind_25 (by decide) ?_
      refine lv_istore (lv' := [(4, .int (nI 0)), (3, .int (nI (d / 700 + ((d / 700) / n)))), (0, .ref oT), (1, .int (nI d)), (2, .int (nI n))]) hx hb dLe_biasBehind_26 hl (by decide) rfl (fun ls hl => ?_)
      have loop1 : ∀ (n_ : Nat) (ev : Nat) (rc : Nat) (kf : Nat) (ls : Array Slot) (H : Heap) (locs : List Loc), ev < n_ → ev < 2 ^ 31 → ev ≤ kf → adL kf ev rc = adN d n true → lv_has ls 5 [(3, .int (nI ev)), (4, .int (nI rc)), (0, .ref oT), (1, .int (nI d)), (2, .int (nI n))] → va_P D vwCl [(oT, .inr (3, [.int lat, .int lva, .int lpl, .int lbi, .int (bI true)]))] H → va_D A [(oT, .inr (3, [.int lat, .int lva, .int lpl, .int lbi, .int (bI true)]))] → va_S A s.heap H locs → W p l e R s m args below meth c H locs 0 0 Q (F0 m 28 ls []) := by
        intro n_
        induction n_ with
        | zero => intro ev rc kf ls H locs hm_; exact absurd hm_ (Nat.not_lt_zero _)
        | succ n_ ih_loop1 =>
          intro ev rc kf ls H locs hm_ hev hkf hF hl hP hD hS
          refine lv_iload_n hx hb dLe_biasBehind_28 rfl (lv_at hl 0 rfl) ?_
          refine lv_sipush (v := nI 455) hx hb dLe_biasBehind_29 (by decide) ?_
          refine lv_icmp_le (tgt := 46) hx hb dLe_biasBehind_32 (by decide) (fun h32 => ?_) (fun h32 => ?_)
          · skip
            replace h32 := nt_le (a := ev) (b := 455) (by omega) (by omega) h32
            refine lv_bipush (v := nI 36) hx hb dLe_biasBehind_46 (by decide) ?_
            refine lv_iload hx hb dLe_biasBehind_48 (lv_at hl 1 rfl) ?_
            refine lv_imul hx hb dLe_biasBehind_50 ?_
            refine lv_rei (y := nI (36 * rc)) (pk_mul _ _) ?_
            refine lv_bipush (v := nI 36) hx hb dLe_biasBehind_51 (by decide) ?_
            refine lv_iload_n hx hb dLe_biasBehind_53 rfl (lv_at hl 0 rfl) ?_
            refine lv_imul hx hb dLe_biasBehind_54 ?_
            refine lv_rei (y := nI (36 * ev)) (pk_mul _ _) ?_
            refine lv_iload_n hx hb dLe_biasBehind_55 rfl (lv_at hl 0 rfl) ?_
            refine lv_bipush (v := nI 38) hx hb dLe_biasBehind_56 (by decide) ?_
            refine lv_iadd hx hb dLe_biasBehind_58 ?_
            refine lv_rei (y := nI (ev + 38)) (nI_add _ _) ?_
            refine lv_idiv hx hb dLe_biasBehind_59 (nI_ne0 (by omega) (by omega)) ?_
            refine lv_rei (y := nI ((36 * ev) / (ev + 38))) (pk_div (by omega) (by omega) (by omega)) ?_
            refine lv_iadd hx hb dLe_biasBehind_60 ?_
            refine lv_rei (y := nI (36 * rc + ((36 * ev) / (ev + 38)))) (nI_add _ _) ?_
            exact ret () dLe_biasBehind_61 rfl (congrArg nI (by rw [← hF, adL_end h32])) hP hD hS
          · skip
            replace h32 := nt_nle (a := ev) (b := 455) (by omega) (by omega) h32
            refine lv_iload_n hx hb dLe_biasBehind_35 rfl (lv_at hl 0 rfl) ?_
            refine lv_bipush (v := nI 35) hx hb dLe_biasBehind_36 (by decide) ?_
            refine lv_idiv hx hb dLe_biasBehind_38 (by decide) ?_
            refine lv_rei (y := nI (ev / 35)) (pk_div (by omega) (by omega) (by omega)) ?_
            refine lv_istore_n (lv' := [(3, .int (nI (ev / 35))), (4, .int (nI rc)), (0, .ref oT), (1, .int (nI d)), (2, .int (nI n))]) hx hb dLe_biasBehind_39 rfl hl (by decide) rfl (fun ls hl => ?_)
            refine lv_iinc (k := 1) (v := nI (rc + 1)) (lv' := [(4, .int (nI (rc + 1))), (3, .int (nI (ev / 35))), (0, .ref oT), (1, .int (nI d)), (2, .int (nI n))]) hx hb dLe_biasBehind_40 hl rfl (nI_1 _) (by decide) rfl (fun ls hl => ?_)
            refine lv_goto (tgt := 28) hx hb dLe_biasBehind_43 (by decide) ?_
            obtain ⟨k2, rfl⟩ : ∃ k2, kf = k2 + 1 := ⟨kf - 1, by omega⟩
            rw [adL_step h32] at hF
            exact ih_loop1 (ev / 35) (rc + 1) k2 _ _ _ (by omega) (by omega) (by omega) hF (lv_sub hl [1, 0, 2, 3, 4] rfl) hP hD hS
      exact loop1 _ (d / 700 + ((d / 700) / n)) 0 (d / 700 + ((d / 700) / n)) _ _ _ (Nat.lt_succ_self _) (by omega) (Nat.le_refl _) rfl (lv_sub hl [1, 0, 2, 3, 4] rfl) hP hD hS
set_option maxHeartbeats 4000000 in
set_option maxRecDepth 100000 in
theorem k_Le_goBehind (l : Launch) (D : va_G) (cA : ClassId) (sz : Nat) (oT : Nat) (lat lva lpl lbi : Int32) (fb : Bool) (nv np d n : Nat) (hd : d < 2 ^ 31) (hn1 : 1 ≤ n) (hn2 : n < 2 ^ 31) : KV l D cA y_Le_goBehind c_Le_goBehind 5 1 24 [.ref oT, .int (nI nv), .int (nI np), .int (nI d), .int (nI n)] sz [(oT, .inr (3, [.int lat, .int lva, .int lpl, .int lbi, .int (bI fb)]))] (S := Unit) (fun _ => True) (fun _ => [(oT, .inr (3, [.int lat, .int (nI nv), .int (nI (np + 1)), .int (nI (adN d n fb)), .int (bI false)]))]) := by
  refine KV.of (by decide) (Nat.le_of_ble_eq_true rfl) ?_
  intro p e s m args below meth c Q R A ls Xf hR hA hS hP hD hK hn hl ret
  have hx := Xf.1
  have hb := Xf.2.1
  have hown : s.vm.findClass "ScalarScribe$Letters" = some m.cls := Xf.2.2.2.1
  have hw := Xf.2.2.2.2
  have hl : lv_has ls 5 [(0, .ref oT), (1, .int (nI nv)), (2, .int (nI np)), (3, .int (nI d)), (4, .int (nI n))] := hl
  refine lv_aload_n hx hb dLe_goBehind_0 rfl (lv_at hl 0 rfl) ?_
  refine lv_iload_n hx hb dLe_goBehind_1 rfl (lv_at hl 1 rfl) ?_
  refine va_put (D := D) (ci := 3) (v := .int (nI nv)) (ty := .int) (C := R_Le) (T := T_Le) (N := 5) hx hb hw in_Le ty_Le ty_Le_ok nm_Le hown hK hP hD hS 0 rfl rfl 1 (by decide) (hw _ w_74) (fun _ h9 => h9) rfl (by decide +kernel) rfl rfl (Nat.le_of_ble_eq_true rfl) dLe_goBehind_2 (fun H locs hP hD hS => ?_)
  have hP : va_P D vwCl [(oT, .inr (3, [.int lat, .int (nI nv), .int lpl, .int lbi, .int (bI fb)]))] H := hP
  have hD : va_D A [(oT, .inr (3, [.int lat, .int (nI nv), .int lpl, .int lbi, .int (bI fb)]))] := hD
  refine lv_aload_n hx hb dLe_goBehind_5 rfl (lv_at hl 0 rfl) ?_
  refine lv_iload_n hx hb dLe_goBehind_6 rfl (lv_at hl 2 rfl) ?_
  refine lv_iconst (v := nI 1) hx hb dLe_goBehind_7 (by decide) ?_
  refine lv_iadd hx hb dLe_goBehind_8 ?_
  refine lv_rei (y := nI (np + 1)) (nI_add _ _) ?_
  refine va_put (D := D) (ci := 3) (v := .int (nI (np + 1))) (ty := .int) (C := R_Le) (T := T_Le) (N := 5) hx hb hw in_Le ty_Le ty_Le_ok nm_Le hown hK hP hD hS 0 rfl rfl 2 (by decide) (hw _ w_75) (fun _ h9 => h9) rfl (by decide +kernel) rfl rfl (Nat.le_of_ble_eq_true rfl) dLe_goBehind_9 (fun H locs hP hD hS => ?_)
  have hP : va_P D vwCl [(oT, .inr (3, [.int lat, .int (nI nv), .int (nI (np + 1)), .int lbi, .int (bI fb)]))] H := hP
  have hD : va_D A [(oT, .inr (3, [.int lat, .int (nI nv), .int (nI (np + 1)), .int lbi, .int (bI fb)]))] := hD
  refine lv_aload_n hx hb dLe_goBehind_12 rfl (lv_at hl 0 rfl) ?_
  refine lv_aload_n hx hb dLe_goBehind_13 rfl (lv_at hl 0 rfl) ?_
  refine lv_iload_n hx hb dLe_goBehind_14 rfl (lv_at hl 3 rfl) ?_
  refine lv_iload hx hb dLe_goBehind_15 (lv_at hl 4 rfl) ?_
  refine ca_i (wr := []) (va_runV (As := [.int (nI d), .int (nI n)]) (rest := [.ref oT]) Xf (k_Le_biasBehind l D cA _ oT lat (nI nv) (nI (np + 1)) lbi fb d n (by omega) (by omega) (by omega)) ⟨cb_of 2 hw w_247 w_6 w_244 (by decide +kernel) (by rw [hR]; exact ⟨Nat.le_of_ble_eq_true rfl, Nat.le_of_ble_eq_true rfl⟩), hw _ w_246, hw _ ws_7⟩ (pre_V (As := [.int (nI d), .int (nI n)]) hP hD hK hn [0] rfl (by decide) 0 3 rfl rfl) rfl rfl hl.1 rfl (lv_room (Nat.le_of_ble_eq_true rfl)) dLe_goBehind_17 ⟨Nat.zero_le _, Nat.zero_le _⟩) hP hD hS hA [0] [] rfl rfl (by decide) (by decide) (fun r17 u_ H locs hq_ hP hD hS => ?_)
  obtain rfl : r17 = nI (adN d n fb) := hq_
  replace hP : va_P D vwCl [(oT, .inr (3, [.int lat, .int (nI nv), .int (nI (np + 1)), .int lbi, .int (bI fb)]))] H := hP.sub [0] rfl
  replace hD : va_D A [(oT, .inr (3, [.int lat, .int (nI nv), .int (nI (np + 1)), .int lbi, .int (bI fb)]))] := hD.sub [0] (by decide) rfl
  refine va_put (D := D) (ci := 3) (v := .int (nI (adN d n fb))) (ty := .int) (C := R_Le) (T := T_Le) (N := 5) hx hb hw in_Le ty_Le ty_Le_ok nm_Le hown hK hP hD hS 0 rfl rfl 3 (by decide) (hw _ w_76) (fun _ h9 => h9) rfl (by decide +kernel) rfl rfl (Nat.le_of_ble_eq_true rfl) dLe_goBehind_20 (fun H locs hP hD hS => ?_)
  have hP : va_P D vwCl [(oT, .inr (3, [.int lat, .int (nI nv), .int (nI (np + 1)), .int (nI (adN d n fb)), .int (bI fb)]))] H := hP
  have hD : va_D A [(oT, .inr (3, [.int lat, .int (nI nv), .int (nI (np + 1)), .int (nI (adN d n fb)), .int (bI fb)]))] := hD
  refine lv_aload_n hx hb dLe_goBehind_23 rfl (lv_at hl 0 rfl) ?_
  refine lv_iconst (v := nI 0) hx hb dLe_goBehind_24 (by decide) ?_
  refine va_put (D := D) (ci := 3) (v := .int (nI 0)) (ty := .boolean) (C := R_Le) (T := T_Le) (N := 5) hx hb hw in_Le ty_Le ty_Le_ok nm_Le hown hK hP hD hS 0 rfl rfl 4 (by decide) (hw _ w_77) (fun _ h9 => h9) rfl (by decide +kernel) rfl rfl (Nat.le_of_ble_eq_true rfl) dLe_goBehind_25 (fun H locs hP hD hS => ?_)
  have hP : va_P D vwCl [(oT, .inr (3, [.int lat, .int (nI nv), .int (nI (np + 1)), .int (nI (adN d n fb)), .int (nI 0)]))] H := hP
  have hD : va_D A [(oT, .inr (3, [.int lat, .int (nI nv), .int (nI (np + 1)), .int (nI (adN d n fb)), .int (nI 0)]))] := hD
  exact ret () dLe_goBehind_28 trivial hP hD hS
set_option maxHeartbeats 4000000 in
set_option maxRecDepth 100000 in
theorem k_Le_lastHyphen (l : Launch) (D : va_G) (cA : ClassId) (sz : Nat) (h a N : Nat) (I : List Int32) (f : Nat → Int32) (hf : Hd f I) (hc : I.length ≤ N) (hN : N < 2 ^ 31) : KI l D cA y_Le_lastHyphen c_Le_lastHyphen 2 .int 1 21 [.ref h] sz [(h, .inr (0, [.ref a, .int (nI I.length)])), (a, .inl (cA, N, .inl f))] (S := Unit) (fun r _ => r = nI (lhG I I.length)) (fun _ => [(h, .inr (0, [.ref a, .int (nI I.length)])), (a, .inl (cA, N, .inl f))]) := by
  refine KI.of (by decide) (Nat.le_of_ble_eq_true rfl) ?_
  intro p e s m args below meth c Q R A ls Xf hR hA hS hP hD hK hn hl ret
  have hx := Xf.1
  have hb := Xf.2.1
  have hown : s.vm.findClass "ScalarScribe$Letters" = some m.cls := Xf.2.2.2.1
  have hw := Xf.2.2.2.2
  have hl : lv_has ls 2 [(0, .ref h)] := hl
  refine lv_aload_n hx hb dLe_lastHyphen_0 rfl (lv_at hl 0 rfl) ?_
  refine va_getN (D := D) (ci := 0) (v := .int (nI I.length)) (C := R_Row) (T := T_Row) (N := 2) hx hb hw in_Row hown hK hP 0 rfl rfl 1 (by decide) (va_Nw.use rfl (hn _ w_27)) (fun _ h9 => h9) rfl dLe_lastHyphen_1 ?_
  refine lv_iconst (v := nI 1) hx hb dLe_lastHyphen_4 (by decide) ?_
  rcases Nat.eq_zero_or_pos I.length with h0 | h0
  · skip
    refine lv_isub hx hb dLe_lastHyphen_5 ?_
    refine lv_rei (y := (-1)) (by rw [h0]; decide) ?_
    refine lv_istore_n (lv' := [(1, .int (-1)), (0, .ref h)]) hx hb dLe_lastHyphen_6 rfl hl (by decide) rfl (fun ls hl => ?_)
    refine lv_iload_n hx hb dLe_lastHyphen_7 rfl (lv_at hl 0 rfl) ?_
    refine lv_if_le (tgt := 29) hx hb dLe_lastHyphen_8 (by decide) (fun h8 => ?_) (fun h8 => ?_)
    · skip
      refine lv_iconst (v := nI 0) hx hb dLe_lastHyphen_29 (by decide) ?_
      exact ret () dLe_lastHyphen_30 rfl (congrArg nI (by rw [h0]; rfl)) hP hD hS
    · skip
      exact absurd h8 (by decide)
  · skip
    refine lv_isub hx hb dLe_lastHyphen_5 ?_
    refine lv_rei (y := nI (I.length - 1)) (pk_sub (by omega)) ?_
    refine lv_istore_n (lv' := [(1, .int (nI (I.length - 1))), (0, .ref h)]) hx hb dLe_lastHyphen_6 rfl hl (by decide) rfl (fun ls hl => ?_)
    have loop1 : ∀ (n_ : Nat) (i : Nat) (ls : Array Slot) (H : Heap) (locs : List Loc), i < n_ → i < I.length → lhG I (i + 1) = lhG I I.length → lv_has ls 2 [(1, .int (nI i)), (0, .ref h)] → va_P D vwCl [(h, .inr (0, [.ref a, .int (nI I.length)])), (a, .inl (cA, N, .inl f))] H → va_D A [(h, .inr (0, [.ref a, .int (nI I.length)])), (a, .inl (cA, N, .inl f))] → va_S A s.heap H locs → W p l e R s m args below meth c H locs 0 0 Q (F0 m 7 ls []) := by
      intro n_
      induction n_ with
      | zero => intro i ls H locs hm_; exact absurd hm_ (Nat.not_lt_zero _)
      | succ n_ ih_loop1 =>
        intro i ls H locs hm_ hi hF hl hP hD hS
        refine lv_iload_n hx hb dLe_lastHyphen_7 rfl (lv_at hl 0 rfl) ?_
        refine lv_if_le (tgt := 29) hx hb dLe_lastHyphen_8 (by decide) (fun h8 => ?_) (fun h8 => ?_)
        · skip
          replace h8 := nt_le (a := i) (b := 0) (by omega) (by omega) h8
          refine lv_iconst (v := nI 0) hx hb dLe_lastHyphen_29 (by decide) ?_
          exact ret () dLe_lastHyphen_30 rfl (congrArg nI (by rw [← hF, show i = 0 by omega]; rfl)) hP hD hS
        · skip
          replace h8 := nt_nle (a := i) (b := 0) (by omega) (by omega) h8
          obtain ⟨j, rfl⟩ : ∃ k, i = k + 1 := ⟨i - 1, by omega⟩
          refine lv_aload_n hx hb dLe_lastHyphen_11 rfl (lv_at hl 1 rfl) ?_
          refine lv_iload_n hx hb dLe_lastHyphen_12 rfl (lv_at hl 0 rfl) ?_
          refine ca_i (wr := []) (va_runV (As := [.int (nI (j + 1))]) (rest := []) Xf (k_Row_unitAt l D cA _ h a N I f (nI (j + 1)) hf hc hN) ⟨cb_of 1 hw w_154 w_2 w_218 (by decide +kernel) (by rw [hR]; exact ⟨Nat.le_of_ble_eq_true rfl, Nat.le_of_ble_eq_true rfl⟩), hw _ w_152, hw _ w_153⟩ (pre_V (As := [.int (nI (j + 1))]) hP hD hK hn [0, 1] rfl (by decide) 0 0 rfl rfl) rfl rfl hl.1 rfl (lv_room (Nat.le_of_ble_eq_true rfl)) dLe_lastHyphen_13 ⟨Nat.zero_le _, Nat.zero_le _⟩) hP hD hS hA [0, 1] [] rfl rfl (by decide) (by decide) (fun r13 u_ H locs hq_ hP hD hS => ?_)
          obtain rfl : r13 = un I (j + 1) := hq_.trans (gt_n (by omega) (by omega))
          replace hP : va_P D vwCl [(h, .inr (0, [.ref a, .int (nI I.length)])), (a, .inl (cA, N, .inl f))] H := hP.sub [0, 1] rfl
          replace hD : va_D A [(h, .inr (0, [.ref a, .int (nI I.length)])), (a, .inl (cA, N, .inl f))] := hD.sub [0, 1] (by decide) rfl
          refine lv_bipush (v := nI 45) hx hb dLe_lastHyphen_16 (by decide) ?_
          refine lv_icmp_ne (tgt := 23) hx hb dLe_lastHyphen_18 (by decide) (fun h18 => ?_) (fun h18 => ?_)
          · skip
            refine lv_iinc (k := 0) (v := nI j) (lv' := [(1, .int (nI j)), (0, .ref h)]) hx hb dLe_lastHyphen_23 hl rfl (pk_m1 _) (by decide) rfl (fun ls hl => ?_)
            refine lv_goto (tgt := 7) hx hb dLe_lastHyphen_26 (by decide) ?_
            exact ih_loop1 j _ _ _ (by omega) (by omega) (by rw [lhG, if_neg (fun q => h18 q.2)] at hF; exact hF) (lv_sub hl [0, 1] rfl) hP hD hS
          · skip
            refine lv_iload_n hx hb dLe_lastHyphen_21 rfl (lv_at hl 0 rfl) ?_
            exact ret () dLe_lastHyphen_22 rfl (congrArg nI (by rw [← hF, lhG, if_pos ⟨by omega, h18⟩])) hP hD hS
    exact loop1 _ (I.length - 1) _ _ _ (Nat.lt_succ_self _) (by omega) (by rw [show I.length - 1 + 1 = I.length by omega]) (lv_sub hl [0, 1] rfl) hP hD hS
