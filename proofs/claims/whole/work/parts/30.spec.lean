/-! the reference's way of telling -/
def lfG (M : List Nat) (v : Nat) : Nat → Option Nat
  | 0 => none
  | n + 1 => match lfG M v n with
    | none => if v ≤ M.getD n 0 then some (M.getD n 0) else none
    | some b => if v ≤ M.getD n 0 ∧ M.getD n 0 < b then some (M.getD n 0) else some b
theorem lf_no {M : List Nat} {v : Nat} : ∀ n, lfG M v n = none → ∀ j, j < n → M.getD j 0 < v
  | 0, _, j, hj => absurd hj (Nat.not_lt_zero _)
  | n + 1, h, j, hj => by
    rw [lfG] at h
    cases hx : lfG M v n with
    | none =>
      rw [hx] at h
      dsimp only at h
      by_cases hu : v ≤ M.getD n 0
      · rw [if_pos hu] at h; cases h
      · by_cases e : j = n
        · rw [e]; omega
        · exact lf_no n hx j (by omega)
    | some i =>
      rw [hx] at h
      dsimp only at h
      split at h <;> cases h
theorem lf_so {M : List Nat} {v : Nat} : ∀ n b, lfG M v n = some b → v ≤ b ∧ (∃ j, j < n ∧ M.getD j 0 = b) ∧ ∀ j, j < n → v ≤ M.getD j 0 → b ≤ M.getD j 0
  | 0, b, h => by cases h
  | n + 1, b, h => by
    rw [lfG] at h
    cases hx : lfG M v n with
    | none =>
      rw [hx] at h
      dsimp only at h
      by_cases hu : v ≤ M.getD n 0
      · rw [if_pos hu] at h
        obtain rfl := Option.some.inj h
        refine ⟨hu, ⟨n, Nat.lt_succ_self _, rfl⟩, fun j hj hq => ?_⟩
        by_cases e : j = n
        · rw [e]; exact Nat.le_refl _
        · have := lf_no n hx j (by omega)
          omega
      · rw [if_neg hu] at h; cases h
    | some k =>
      rw [hx] at h
      dsimp only at h
      obtain ⟨q1, ⟨j0, q2, q4⟩, q3⟩ := lf_so n k hx
      by_cases hu : v ≤ M.getD n 0 ∧ M.getD n 0 < k
      · rw [if_pos hu] at h
        obtain rfl := Option.some.inj h
        refine ⟨hu.1, ⟨n, Nat.lt_succ_self _, rfl⟩, fun j hj hq => ?_⟩
        by_cases e : j = n
        · rw [e]; exact Nat.le_refl _
        · have := q3 j (by omega) hq
          omega
      · rw [if_neg hu] at h
        obtain rfl := Option.some.inj h
        refine ⟨q1, ⟨j0, by omega, q4⟩, fun j hj hq => ?_⟩
        by_cases e : j = n
        · subst e; omega
        · exact q3 j (by omega) hq
theorem leC_eq {M : List Nat} {v la x : Nat} : ∀ n, (∀ j, j < n → (M.getD j 0 ≤ x ↔ ¬ unt M v la j)) → leC M x n = cnt M v la n
  | 0, _ => rfl
  | n + 1, h => by
    have ih := leC_eq (M := M) (v := v) (la := la) (x := x) n (fun j hj => h j (by omega))
    rw [leC, cnt, ih]
    by_cases e : M.getD n 0 ≤ x
    · rw [if_pos e, if_neg ((h n (Nat.lt_succ_self _)).mp e)]
    · rw [if_neg e, if_pos (Classical.not_not.mp (fun q => e ((h n (Nat.lt_succ_self _)).mpr q)))]
/-- the whole state of the telling, at value v and place k of the list -/
def minv (M : List Nat) (v0 p told la v k d : Nat) : Prop := tinv M v0 p told la ∧ d + p = (v - v0) * (told + 1) + leC M v k ∧ v0 ≤ v ∧ (∀ j, j < M.length → unt M v0 la j → v < M.getD j 0 ∨ (M.getD j 0 = v ∧ k ≤ j)) ∧ (v0 < v ∨ (v0 = v ∧ la ≤ k))
theorem minv_0 (M : List Nat) : minv M 128 0 (pln M).length 0 128 0 0 :=
  ⟨tinv_0 M, by rw [leC]; omega, Nat.le_refl _, fun j _ h => by omega, Or.inr ⟨rfl, Nat.le_refl _⟩⟩
theorem minv_up {M : List Nat} {v0 p told la v d nx : Nat} (h : minv M v0 p told la v 0 d) (h1 : v ≤ nx) (h2 : ∀ j, j < M.length → v ≤ M.getD j 0 → nx ≤ M.getD j 0) : minv M v0 p told la nx 0 (d + (nx - v) * (told + 1)) := by
  obtain ⟨a, b, c, e, f⟩ := h
  refine ⟨a, ?_, by omega, fun j hj hu => ?_, by omega⟩
  · rw [leC] at b ⊢
    have : (v - v0) * (told + 1) + (nx - v) * (told + 1) = (nx - v0) * (told + 1) := by
      rw [← Nat.add_mul]
      congr 1
      omega
    omega
  · have h3 := e j hj hu
    have h4 := h2 j hj (by omega)
    omega
theorem minv_lt {M : List Nat} {v0 p told la v k d : Nat} (h : minv M v0 p told la v k d) (hk : k < M.length) (hm : M.getD k 0 < v) : minv M v0 p told la v (k + 1) (d + 1) := by
  obtain ⟨a, b, c, e, f⟩ := h
  refine ⟨a, ?_, c, fun j hj hu => ?_, by omega⟩
  · rw [leC, if_pos (by omega)]; omega
  · have h3 := e j hj hu
    by_cases q : j = k
    · subst q; omega
    · omega
theorem minv_gt {M : List Nat} {v0 p told la v k d : Nat} (h : minv M v0 p told la v k d) (hk : k < M.length) (hm : v < M.getD k 0) : minv M v0 p told la v (k + 1) d := by
  obtain ⟨a, b, c, e, f⟩ := h
  refine ⟨a, ?_, c, fun j hj hu => ?_, by omega⟩
  · rw [leC, if_neg (by omega)]; omega
  · have h3 := e j hj hu
    by_cases q : j = k
    · subst q; omega
    · omega
theorem minv_nx {M : List Nat} {v0 p told la v k d : Nat} (h : minv M v0 p told la v k d) (hk : k < M.length) (hm : M.getD k 0 = v) : nxG M v0 la M.length = some k ∧ num M v0 p told k = d ∧ minv M v (leC M v k + 1) (told + 1) (k + 1) v (k + 1) 0 := by
  obtain ⟨a, b, c, e, f⟩ := h
  have hu : unt M v0 la k := by omega
  have h3 : ∀ j, j < M.length → unt M v0 la j → M.getD k 0 < M.getD j 0 ∨ (M.getD k 0 = M.getD j 0 ∧ k ≤ j) := fun j hj hq => by
    have := e j hj hq
    omega
  refine ⟨nx_uniq hk hu h3, ?_, ⟨?_, ?_, ?_⟩, ?_, Nat.le_refl _, fun j hj hq => ?_, Or.inr ⟨rfl, Nat.le_refl _⟩⟩
  · show (M.getD k 0 - v0) * (told + 1) + leC M (M.getD k 0) k - p = d
    rw [hm]
    omega
  · rw [leC, if_pos (by omega)]
  · have := cnt_nx hu h3 M.length (Nat.le_refl _)
    rw [hm, if_pos hk, a.2.1] at this
    exact this
  · omega
  · rw [leC, if_pos (by omega), Nat.sub_self]
    omega
  · omega
theorem minv_end {M : List Nat} {v0 p told la v d : Nat} (h : minv M v0 p told la v M.length d) : minv M v0 p told la (v + 1) 0 (d + 1) := by
  obtain ⟨a, b, c, e, f⟩ := h
  refine ⟨a, ?_, by omega, fun j hj hu => ?_, by omega⟩
  · have h1 : leC M v M.length = told := by
      rw [leC_eq (v := v0) (la := la) M.length (fun j hj => ?_)]
      · exact a.2.1
      · have h3 := e j hj
        constructor
        · intro q1 q2
          have := h3 q2
          omega
        · intro q
          apply Nat.le_of_not_lt
          intro q2
          exact q (by omega)
    rw [leC]
    rw [show v + 1 - v0 = (v - v0) + 1 by omega, Nat.add_mul]
    omega
  · have := e j hj hu
    omega
theorem minv_b {M : List Nat} {v0 p told la v k d : Nat} (h : minv M v0 p told la v k d) (hv : v ≤ 1114112) (ht : told ≤ 120) (hk : k ≤ 120) : d < 2 ^ 29 := by
  obtain ⟨a, b, c, e, f⟩ := h
  have h1 : (v - v0) * (told + 1) ≤ 1114112 * 121 := Nat.mul_le_mul (by omega) (by omega)
  have h2 := leC_le (M := M) (v := v) k
  omega
theorem cnt_len {M : List Nat} {v la : Nat} : ∀ n, cnt M v la n ≤ n
  | 0 => Nat.le_refl _
  | n + 1 => by
    have := cnt_len (M := M) (v := v) (la := la) n
    rw [cnt]
    split <;> omega
theorem cnt_ltn {M : List Nat} {v la j : Nat} (h : unt M v la j) : ∀ n, j < n → cnt M v la n < n
  | 0, hj => absurd hj (Nat.not_lt_zero _)
  | n + 1, hj => by
    rw [cnt]
    by_cases e : j = n
    · subst e
      rw [if_pos h]
      have := cnt_len (M := M) (v := v) (la := la) j
      omega
    · have := cnt_ltn h n (by omega)
      split <;> omega
theorem minv_t {M : List Nat} {v0 p told la v k d : Nat} (h : minv M v0 p told la v k d) (hk : k < M.length) (hm : M.getD k 0 = v) : told < M.length := by
  obtain ⟨a, b, c, e, f⟩ := h
  have hu : unt M v0 la k := by omega
  have := cnt_ltn hu M.length hk
  rw [a.2.1] at this
  exact this
