/-! units by eights and by sixteens -/
abbrev tn (x : Int32) : Nat := x.toNatClampNeg
theorem tn_of {x : Int32} {lo : Int} (h : lo ≤ x.toInt) (h0 : 0 ≤ lo) : x = nI (tn x) ∧ (tn x : Int) = x.toInt ∧ tn x < 2 ^ 31 := by
  have hx : ¬ x < 0 := by
    rw [Int32.lt_iff_toInt_lt, Int32.toInt_zero]
    omega
  obtain ⟨j, hj, rfl⟩ := nI_of hx
  show nI j = nI (nI j).toNatClampNeg ∧ ((nI j).toNatClampNeg : Int) = (nI j).toInt ∧ (nI j).toNatClampNeg < 2 ^ 31
  rw [nI_clamp hj, nI_toInt hj]
  exact ⟨rfl, rfl, hj⟩
def sz8 (a : Int32) : Nat := if a.toInt < 0 ∨ 244 < a.toInt then 0 else if a.toInt < 128 then 1 else if a.toInt < 194 then 0 else if a.toInt < 224 then 2 else if a.toInt < 240 then 3 else 4
theorem sz8_c (a : Int32) : sz8 a = 0 ∨ (sz8 a = 1 ∧ 0 ≤ a.toInt ∧ a.toInt < 128) ∨ (sz8 a = 2 ∧ 194 ≤ a.toInt ∧ a.toInt < 224) ∨ (sz8 a = 3 ∧ 224 ≤ a.toInt ∧ a.toInt < 240) ∨ (sz8 a = 4 ∧ 240 ≤ a.toInt ∧ a.toInt ≤ 244) := by
  unfold sz8
  split
  · exact Or.inl rfl
  · split
    · exact Or.inr (Or.inl ⟨rfl, by omega, by omega⟩)
    · split
      · exact Or.inl rfl
      · split
        · exact Or.inr (Or.inr (Or.inl ⟨rfl, by omega, by omega⟩))
        · split
          · exact Or.inr (Or.inr (Or.inr (Or.inl ⟨rfl, by omega, by omega⟩)))
          · exact Or.inr (Or.inr (Or.inr (Or.inr ⟨rfl, by omega, by omega⟩)))
def ok3 (b : Int32) : Bool := decide (128 ≤ b.toInt ∧ b.toInt ≤ 191)
def lo2 (a : Int32) : Int := if a.toInt = 224 then 160 else if a.toInt = 240 then 144 else 128
def hi2 (a : Int32) : Int := if a.toInt = 237 then 159 else if a.toInt = 244 then 143 else 191
def ok2 (a b : Int32) : Bool := decide (lo2 a ≤ b.toInt ∧ b.toInt ≤ hi2 a)
def rd8 (u : Nat → Int32) (p : Nat) : Option Nat × Nat :=
  match sz8 (u p) with
  | 0 => (none, 0)
  | 1 => (some (tn (u p)), 1)
  | 2 => if ok2 (u p) (u (p + 1)) then (some ((tn (u p) - 192) * 64 + tn (u (p + 1)) - 128), 2) else (none, 1)
  | 3 => if ok2 (u p) (u (p + 1)) then (if ok3 (u (p + 2)) then (some (((tn (u p) - 224) * 64 + tn (u (p + 1)) - 128) * 64 + tn (u (p + 2)) - 128), 3) else (none, 2)) else (none, 1)
  | _ => if ok2 (u p) (u (p + 1)) then (if ok3 (u (p + 2)) then (if ok3 (u (p + 3)) then (some ((((tn (u p) - 240) * 64 + tn (u (p + 1)) - 128) * 64 + tn (u (p + 2)) - 128) * 64 + tn (u (p + 3)) - 128), 4) else (none, 3)) else (none, 2)) else (none, 1)
def rd16 (u : Nat → Int32) (p : Nat) : Option Nat × Nat :=
  if 55296 ≤ (u p).toInt ∧ (u p).toInt < 56320 then
    (if 56320 ≤ (u (p + 1)).toInt ∧ (u (p + 1)).toInt ≤ 57343 then (some (65536 + (tn (u p) - 55296) * 1024 + (tn (u (p + 1)) - 56320)), 2) else (none, 1))
  else if (0 ≤ (u p).toInt ∧ (u p).toInt < 65536) ∧ ¬ (55296 ≤ (u p).toInt ∧ (u p).toInt ≤ 57343) then (some (tn (u p)), 1) else (none, 0)
/-- what a field holds of a reading -/
def ov (o : Option Nat) : Int32 := match o with
  | some v => nI v
  | none => -1
def sca (v : Nat) : Prop := v ≤ 1114111 ∧ ¬ (55296 ≤ v ∧ v ≤ 57343)
def lp (a : Int32) (n : Nat) : Int32 := if n = 2 then a - nI 192 else if n = 3 then a - nI 224 else if n = 4 then a - nI 240 else a
theorem sub_r {x : Int32} {k : Nat} (h : x = nI (tn x)) (hk : k ≤ tn x) : x - nI k = nI (tn x - k) := by
  conv => lhs; rw [h]
  exact pk_sub hk
theorem add_r {x : Int32} {k : Nat} (h : x = nI (tn x)) : nI k + x = nI (k + tn x) := by
  conv => lhs; rw [h]
  exact nI_add _ _
theorem ok2_r {a b : Int32} (h : ok2 a b = true) : 128 ≤ b.toInt ∧ b.toInt ≤ 191 := by
  have h2 : lo2 a ≤ b.toInt ∧ b.toInt ≤ hi2 a := of_decide_eq_true h
  unfold lo2 hi2 at h2
  revert h2
  (repeat' split) <;> omega
theorem ok3_r {b : Int32} (h : ok3 b = true) : 128 ≤ b.toInt ∧ b.toInt ≤ 191 := of_decide_eq_true h
