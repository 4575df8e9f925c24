/-! what the reference needs beside -/
theorem i32_ss (a b c : Int32) : a - b - c = a - (b + c) := by grind
theorem m1_ss (p g : Nat) : (-1 : Int32) - nI p - nI g = -1 - nI (p + g) := by rw [i32_ss, nI_add]
def l2N (a : Int32) : Nat := if a.toInt = 224 then 160 else if a.toInt = 240 then 144 else 128
def h2N (a : Int32) : Nat := if a.toInt = 237 then 159 else if a.toInt = 244 then 143 else 191
theorem l2N_b (a : Int32) : l2N a < 2 ^ 31 := by unfold l2N; (repeat' split) <;> omega
theorem h2N_b (a : Int32) : h2N a < 2 ^ 31 := by unfold h2N; (repeat' split) <;> omega
theorem l2N_i (a : Int32) : (l2N a : Int) = lo2 a := by unfold l2N lo2; (repeat' split) <;> rfl
theorem h2N_i (a : Int32) : (h2N a : Int) = hi2 a := by unfold h2N hi2; (repeat' split) <;> rfl
def tkv (z : Option Nat × Nat) : Int32 := match z.1 with
  | some _ => nI z.2
  | none => nI 0
theorem cpy_0 (f g : Nat → Int32) : va_cpy f g 0 0 0 = g := by
  funext n
  exact pk_cpy_out (by omega)
theorem cpy_s (f g : Nat → Int32) (i : Nat) : upd (va_cpy f g 0 0 i) i (f i) = va_cpy f g 0 0 (i + 1) := by
  funext n
  by_cases h : n = i
  · subst h
    rw [pk_us, pk_cpy_in (Nat.zero_le _) (by omega)]
    congr 1
    omega
  · rw [pk_un h]
    by_cases h2 : n < i
    · rw [pk_cpy_in (Nat.zero_le _) (by omega), pk_cpy_in (Nat.zero_le _) (by omega)]
    · rw [pk_cpy_out (by omega), pk_cpy_out (by omega)]
def Hw (f : Nat → Int32) (L : List Int32) : Prop := ∀ j, j < L.length → j < 1000 → f j = L.getD j 0
theorem Hw_nil (f : Nat → Int32) : Hw f [] := fun j h => absurd h (Nat.not_lt_zero _)
theorem Hw_lo {f : Nat → Int32} {L : List Int32} {x : Int32} (h : Hw f L) : Hw (upd f L.length x) (L ++ [x]) := by
  intro n hn hk
  rw [List.length_append, List.length_singleton] at hn
  by_cases e : n = L.length
  · subst e; rw [pk_us]; simp
  · rw [pk_un e, h n (by omega) hk]
    simp [List.getElem?_append_left (show n < L.length by omega)]
theorem Hw_hi {f : Nat → Int32} {L : List Int32} {x : Int32} (h : Hw f L) (h2 : 1000 ≤ L.length) : Hw f (L ++ [x]) := by
  intro n hn hk
  rw [h n (by omega) hk]
  simp [List.getElem?_append_left (show n < L.length by omega)]
theorem Hw_Hd {f : Nat → Int32} {L : List Int32} (h : Hw f L) (h2 : L.length ≤ 1000) : Hd f L := fun j hj => h j hj (by omega)
theorem gt_un {I : List Int32} {f : Nat → Int32} {j : Nat} (hf : Hd f I) (h : j < I.length) : f j = un I j := Hd_un hf h
/-! comparing: ranks -/
def rkN (v : Nat) : Nat := if v < 65536 then (if v < 55296 then v else v + 1048576) else v - 10240
theorem rk_b {v : Nat} (h : v ≤ 1114111) : rkN v < 2 ^ 30 := by unfold rkN; (repeat' split) <;> omega
theorem ooN_0 {x : Nat} : ooN x x = 0 := by unfold ooN; rw [if_pos rfl]
theorem ooN_ne {x y : Nat} (h : x ≠ y) : ¬ ooN x y = 0 := by
  unfold ooN
  rw [if_neg h]
  split <;> decide
theorem oo16_rk {x y : Nat} (hx : sca x) (hy : sca y) (h : x ≠ y) : oo16 x y = if rkN x < rkN y then -1 else 1 := by
  by_cases hf : fu x = fu y
  · have e : oo16 x y = ooN x y := by unfold oo16; rw [hf, ooN_0, if_pos rfl]
    have k : x < y ↔ rkN x < rkN y := by
      unfold fu at hf
      unfold rkN
      unfold sca at hx hy
      (repeat' split at hf) <;> (repeat' split) <;> omega
    rw [e]
    unfold ooN
    rw [if_neg h]
    by_cases q : x < y
    · rw [if_pos q, if_pos (k.mp q)]
    · rw [if_neg q, if_neg (fun z => q (k.mpr z))]
  · have e : oo16 x y = ooN (fu x) (fu y) := by unfold oo16; rw [if_neg (ooN_ne hf)]
    have k : fu x < fu y ↔ rkN x < rkN y := by
      unfold fu at hf ⊢
      unfold rkN
      unfold sca at hx hy
      (repeat' split at hf) <;> (repeat' split) <;> omega
    rw [e]
    unfold ooN
    rw [if_neg hf]
    by_cases q : fu x < fu y
    · rw [if_pos q, if_pos (k.mp q)]
    · rw [if_neg q, if_neg (fun z => q (k.mpr z))]
theorem oo16_0 {x : Nat} : oo16 x x = 0 := by
  unfold oo16
  rw [ooN_0, ooN_0, if_pos rfl]
theorem oo16_ne {x y : Nat} (hx : sca x) (hy : sca y) (h : x ≠ y) : ¬ oo16 x y = 0 := by
  rw [oo16_rk hx hy h]
  split <;> decide
