/-! The mathematical words: rows as lists of ints, what is read and written. -/
def Hd (f : Nat → Int32) (L : List Int32) : Prop := ∀ j, j < L.length → f j = L.getD j 0
def un (L : List Int32) (j : Nat) : Int32 := L.getD j (-1)
def gt (L : List Int32) (i : Int32) : Int32 := if 0 ≤ i ∧ i < nI L.length then L.getD i.toNatClampNeg 0 else -1
theorem i32_nn {x : Int32} (h : ¬ x < 0) : x = nI x.toNatClampNeg := by
  obtain ⟨j, hj, rfl⟩ := nI_of h
  rw [nI_clamp hj]
theorem gt_n {L : List Int32} {j : Nat} (hL : L.length < 2 ^ 31) (hj : j < 2 ^ 31) : gt L (nI j) = un L j := by
  unfold gt un
  by_cases h : j < L.length
  · rw [if_pos ⟨nI_pos' hj, (nI_ltI hj hL).mpr h⟩, nI_clamp hj]
    simp [h]
  · rw [if_neg (fun q => h ((nI_ltI hj hL).mp q.2))]
    simp [Nat.le_of_not_lt h]
theorem gt_in {L : List Int32} {f : Nat → Int32} {i : Int32} (hf : Hd f L) (hL : L.length < 2 ^ 31) (h1 : ¬ i < 0) (h2 : ¬ nI L.length ≤ i) : f i.toNatClampNeg = gt L i := by
  obtain ⟨j, hj, rfl⟩ := nI_of h1
  have h3 := nt_nle hL hj h2
  rw [gt_n hL hj, nI_clamp hj, hf j h3]
  unfold un
  simp [h3]
theorem gt_lo {L : List Int32} {i : Int32} (h : i < 0) : (-1 : Int32) = gt L i := by
  unfold gt
  rw [if_neg]
  intro q
  have := q.1
  rw [Int32.le_iff_toInt_le] at this
  rw [Int32.lt_iff_toInt_lt] at h
  omega
theorem gt_hi {L : List Int32} {i : Int32} (h : nI L.length ≤ i) : (-1 : Int32) = gt L i := by
  unfold gt
  rw [if_neg]
  intro q
  have := q.2
  rw [Int32.lt_iff_toInt_lt] at this
  rw [Int32.le_iff_toInt_le] at h
  omega
theorem gt_vin {L : List Int32} {i : Int32} {N : Nat} (hL : L.length ≤ N) (hN : N < 2 ^ 31) (h1 : ¬ i < 0) (h2 : ¬ nI L.length ≤ i) : vp_in i N := by
  obtain ⟨j, hj, rfl⟩ := nI_of h1
  have h3 := nt_nle (by omega) hj h2
  exact vp_in_nI (by omega) hN
-- a place made free: what stood from i on up to k has gone one further
def sh (f : Nat → Int32) (i k : Nat) : Nat → Int32 := fun n => if i < n ∧ n ≤ k then f (n - 1) else f n
theorem sh_0 {f : Nat → Int32} {k : Nat} : sh f k k = f := by
  funext n
  unfold sh
  rw [if_neg (by omega)]
theorem sh_s {f : Nat → Int32} {i k : Nat} (h : i + 1 ≤ k) : upd (sh f (i + 1) k) (i + 1) (sh f (i + 1) k i) = sh f i k := by
  funext n
  unfold upd sh
  by_cases h1 : n = i + 1
  · subst h1
    rw [if_pos rfl, if_neg (by omega), if_pos (by omega)]
    rfl
  · rw [if_neg h1]
    by_cases h2 : i + 1 < n ∧ n ≤ k
    · rw [if_pos h2, if_pos (by omega)]
    · rw [if_neg h2, if_neg (by omega)]
theorem Hd_ins {f : Nat → Int32} {L : List Int32} {j : Nat} {x : Int32} (hf : Hd f L) (hj : j ≤ L.length) : Hd (upd (sh f j L.length) j x) (L.insertIdx j x) := by
  intro n hn
  rw [List.length_insertIdx_of_le_length hj] at hn
  unfold upd sh
  by_cases h1 : n = j
  · subst h1
    rw [if_pos rfl]
    simp [List.getD, List.getElem?_insertIdx_self, hj]
  · rw [if_neg h1]
    by_cases h2 : j < n
    · rw [if_pos ⟨h2, by omega⟩, hf (n - 1) (by omega)]
      simp [List.getD, List.getElem?_insertIdx_of_gt h2]
    · rw [if_neg (by omega), hf n (by omega)]
      have h3 : n < j := by omega
      simp [List.getD, List.getElem?_insertIdx_of_lt h3]
theorem ins_end (L : List Int32) (x : Int32) : L.insertIdx L.length x = L ++ [x] := by
  induction L with
  | nil => rfl
  | cons a t ih => simp [List.insertIdx_succ_cons, ih]
theorem Hd_cpy {f g : Nat → Int32} {L : List Int32} (hf : Hd f L) : Hd (va_cpy f g 0 0 L.length) L := by
  intro n hn
  rw [pk_cpy_in (Nat.zero_le _) (by omega), ← hf n hn]
  congr 1
  omega
theorem Hd_nil (f : Nat → Int32) : Hd f [] := fun j h => absurd h (Nat.not_lt_zero _)
theorem Hd_un {f : Nat → Int32} {L : List Int32} (hf : Hd f L) {j : Nat} (h : j < L.length) : f j = un L j := by
  rw [hf j h]
  unfold un
  simp [h]
theorem Hd_add {f : Nat → Int32} {L : List Int32} {x : Int32} (hf : Hd f L) : Hd (upd f L.length x) (L ++ [x]) := by
  intro n hn
  rw [List.length_append, List.length_singleton] at hn
  unfold upd
  by_cases h : n = L.length
  · subst h
    simp
  · rw [if_neg h, hf n (by omega)]
    simp [List.getElem?_append_left (show n < L.length by omega)]
