/-! writing by letters -/
def sg (d : Nat) : Nat := if d < 26 then 97 + d else 22 + d
def wn (b : Nat) : Nat → Nat → Nat → List Nat
  | 0, _, _ => []
  | n + 1, k, r => if r < thN b k then [sg r] else sg (thN b k + (r - thN b k) % (36 - thN b k)) :: wn b n (k + 1) ((r - thN b k) / (36 - thN b k))
def wnum (b d : Nat) : List Nat := wn b (d + 1) 1 d
theorem wn_e {b n k r : Nat} (h : r < thN b k) : wn b (n + 1) k r = [sg r] := by rw [wn, if_pos h]
theorem wn_s {b n k r : Nat} (h : thN b k ≤ r) : wn b (n + 1) k r = sg (thN b k + (r - thN b k) % (36 - thN b k)) :: wn b n (k + 1) ((r - thN b k) / (36 - thN b k)) := by rw [wn, if_neg (by omega)]
theorem dv_lt {r t x : Nat} (h1 : 1 ≤ t) (h2 : t ≤ 26) (h : r < x * 10) : (r - t) / (36 - t) < x := by
  apply (Nat.div_lt_iff_lt_mul (by omega)).mpr
  have := Nat.mul_le_mul_left x (show 10 ≤ 36 - t by omega)
  omega
theorem dv_le {r t : Nat} (h1 : 1 ≤ t) (h2 : t ≤ 26) (h : t ≤ r) : (r - t) / (36 - t) < r := dv_lt h1 h2 (by omega)
theorem wn_len (b : Nat) : ∀ (j n k r : Nat), r < 10 ^ j → (wn b n k r).length ≤ j + 1
  | j, 0, k, r, _ => by rw [wn]; exact Nat.zero_le _
  | 0, n + 1, k, r, h => by
    have := thN_b b k
    rw [wn_e (by omega)]
    exact Nat.le_refl _
  | j + 1, n + 1, k, r, h => by
    have ht := thN_b b k
    by_cases h2 : r < thN b k
    · rw [wn_e h2]
      exact Nat.succ_le_succ (Nat.zero_le _)
    · rw [wn_s (by omega), List.length_cons]
      rw [Nat.pow_succ] at h
      have := wn_len b j n (k + 1) _ (dv_lt ht.1 ht.2 h)
      omega
theorem wnum_len {b d : Nat} (h : d < 2 ^ 31) : (wnum b d).length ≤ 11 := wn_len b 10 _ _ _ (by omega)
def leC (M : List Nat) (v : Nat) : Nat → Nat
  | 0 => 0
  | k + 1 => leC M v k + if M.getD k 0 ≤ v then 1 else 0
theorem leC_mono {M : List Nat} {v : Nat} : ∀ (a j : Nat), leC M v a ≤ leC M v (a + j)
  | a, 0 => Nat.le_refl _
  | a, j + 1 => by
    have := leC_mono (M := M) (v := v) a j
    show _ ≤ leC M v ((a + j) + 1)
    rw [leC]
    omega
theorem leC_le {M : List Nat} {v : Nat} : ∀ k, leC M v k ≤ k
  | 0 => Nat.le_refl _
  | k + 1 => by
    have := leC_le (M := M) (v := v) k
    rw [leC]
    split <;> omega
abbrev unt (M : List Nat) (v la j : Nat) : Prop := v < M.getD j 0 ∨ (M.getD j 0 = v ∧ la ≤ j)
def cnt (M : List Nat) (v la : Nat) : Nat → Nat
  | 0 => 0
  | n + 1 => cnt M v la n + if unt M v la n then 0 else 1
theorem cnt_ex {M : List Nat} {v la : Nat} : ∀ n, cnt M v la n < n → ∃ j, j < n ∧ unt M v la j
  | 0, h => absurd h (Nat.not_lt_zero _)
  | n + 1, h => by
    by_cases hu : unt M v la n
    · exact ⟨n, Nat.lt_succ_self _, hu⟩
    · rw [cnt, if_neg hu] at h
      obtain ⟨j, hj, hq⟩ := cnt_ex (M := M) (v := v) (la := la) n (by omega)
      exact ⟨j, by omega, hq⟩
def nxG (M : List Nat) (v la : Nat) : Nat → Option Nat
  | 0 => none
  | n + 1 => match nxG M v la n with
    | none => if unt M v la n then some n else none
    | some j => if unt M v la n ∧ M.getD n 0 < M.getD j 0 then some n else some j
theorem nx_no {M : List Nat} {v la : Nat} : ∀ n, nxG M v la n = none → ∀ j, j < n → ¬ unt M v la j
  | 0, _, j, hj => absurd hj (Nat.not_lt_zero _)
  | n + 1, h, j, hj => by
    rw [nxG] at h
    cases hx : nxG M v la n with
    | none =>
      rw [hx] at h
      by_cases hu : unt M v la n
      · rw [show (match none with | none => if unt M v la n then some n else none | some j => if unt M v la n ∧ M.getD n 0 < M.getD j 0 then some n else some j) = (if unt M v la n then some n else none) from rfl, if_pos hu] at h
        cases h
      · by_cases e : j = n
        · rw [e]; exact hu
        · exact nx_no n hx j (by omega)
    | some i =>
      rw [hx] at h
      dsimp only at h
      split at h <;> cases h
theorem nx_so {M : List Nat} {v la : Nat} : ∀ n i, nxG M v la n = some i → i < n ∧ unt M v la i ∧ ∀ j, j < n → unt M v la j → M.getD i 0 < M.getD j 0 ∨ (M.getD i 0 = M.getD j 0 ∧ i ≤ j)
  | 0, i, h => by cases h
  | n + 1, i, h => by
    rw [nxG] at h
    cases hx : nxG M v la n with
    | none =>
      rw [hx] at h
      dsimp only at h
      by_cases hu : unt M v la n
      · rw [if_pos hu] at h
        obtain rfl := Option.some.inj h
        refine ⟨Nat.lt_succ_self _, hu, fun j hj hq => ?_⟩
        by_cases e : j = n
        · subst e; exact Or.inr ⟨rfl, Nat.le_refl _⟩
        · exact absurd hq (nx_no n hx j (by omega))
      · rw [if_neg hu] at h; cases h
    | some k =>
      rw [hx] at h
      dsimp only at h
      obtain ⟨q1, q2, q3⟩ := nx_so n k hx
      by_cases hu : unt M v la n ∧ M.getD n 0 < M.getD k 0
      · rw [if_pos hu] at h
        obtain rfl := Option.some.inj h
        refine ⟨Nat.lt_succ_self _, hu.1, fun j hj hq => ?_⟩
        by_cases e : j = n
        · subst e; exact Or.inr ⟨rfl, Nat.le_refl _⟩
        · rcases q3 j (by omega) hq with q | q
          · exact Or.inl (by omega)
          · exact Or.inl (by omega)
      · rw [if_neg hu] at h
        obtain rfl := Option.some.inj h
        refine ⟨by omega, q2, fun j hj hq => ?_⟩
        by_cases e : j = n
        · subst e
          have : ¬ M.getD j 0 < M.getD k 0 := fun q => hu ⟨hq, q⟩
          by_cases e2 : M.getD k 0 = M.getD j 0
          · exact Or.inr ⟨e2, by omega⟩
          · exact Or.inl (by omega)
        · exact q3 j (by omega) hq
theorem nx_ex {M : List Nat} {v la n : Nat} (h : cnt M v la n < n) : ∃ i, nxG M v la n = some i := by
  cases hx : nxG M v la n with
  | some i => exact ⟨i, rfl⟩
  | none =>
    obtain ⟨j, hj, hq⟩ := cnt_ex n h
    exact absurd hq (nx_no n hx j hj)
theorem nx_uniq {M : List Nat} {v la n i : Nat} (h1 : i < n) (h2 : unt M v la i) (h3 : ∀ j, j < n → unt M v la j → M.getD i 0 < M.getD j 0 ∨ (M.getD i 0 = M.getD j 0 ∧ i ≤ j)) : nxG M v la n = some i := by
  cases hx : nxG M v la n with
  | none => exact absurd h2 (nx_no n hx i h1)
  | some k =>
    obtain ⟨q1, q2, q3⟩ := nx_so n k hx
    have a := q3 i h1 h2
    have b := h3 k q1 q2
    rw [show k = i by omega]
/-- one more is told -/
theorem cnt_nx {M : List Nat} {v la i N : Nat} (h2 : unt M v la i) (h3 : ∀ j, j < N → unt M v la j → M.getD i 0 < M.getD j 0 ∨ (M.getD i 0 = M.getD j 0 ∧ i ≤ j)) : ∀ n, n ≤ N → cnt M (M.getD i 0) (i + 1) n = cnt M v la n + if i < n then 1 else 0
  | 0, _ => by rw [cnt, cnt, if_neg (by omega)]
  | n + 1, hn => by
    have ih := cnt_nx (M := M) h2 h3 n (by omega)
    rw [cnt, cnt, ih]
    by_cases e : n = i
    · subst e
      rw [if_neg (by omega), if_neg (show ¬ unt M (M.getD n 0) (n + 1) n by omega), if_pos h2, if_pos (by omega)]
    · by_cases hu : unt M v la n
      · rw [if_pos hu, if_pos (show unt M (M.getD i 0) (i + 1) n by rcases h3 n (by omega) hu with q | q <;> omega)]
        by_cases hi : i < n
        · rw [if_pos hi, if_pos (by omega)]
        · rw [if_neg hi, if_neg (by omega)]
      · rw [if_neg hu, if_neg (show ¬ unt M (M.getD i 0) (i + 1) n by omega)]
        by_cases hi : i < n
        · rw [if_pos hi, if_pos (by omega)]
        · rw [if_neg hi, if_neg (by omega)]
theorem leC_cnt {M : List Nat} {v la : Nat} : ∀ n, n ≤ la → leC M v n ≤ cnt M v la n
  | 0, _ => Nat.le_refl _
  | n + 1, h => by
    have := leC_cnt (M := M) (v := v) (la := la) n (by omega)
    rw [leC, cnt]
    by_cases e : M.getD n 0 ≤ v
    · rw [if_pos e, if_neg (by omega)]; omega
    · rw [if_neg e]; omega
theorem cnt_mono {M : List Nat} {v la : Nat} : ∀ (a j : Nat), cnt M v la a ≤ cnt M v la (a + j)
  | a, 0 => Nat.le_refl _
  | a, j + 1 => by
    have := cnt_mono (M := M) (v := v) (la := la) a j
    show _ ≤ cnt M v la ((a + j) + 1)
    rw [cnt]
    omega
abbrev num (M : List Nat) (v p told i : Nat) : Nat := (M.getD i 0 - v) * (told + 1) + leC M (M.getD i 0) i - p
def tlS (M : List Nat) : Nat → Nat → Nat → Nat → Nat → Nat → Bool → List Nat → List Nat
  | 0, _, _, _, _, _, _, out => out
  | n + 1, v, p, b, told, la, fb, out => match nxG M v la M.length with
    | none => out
    | some i => tlS M n (M.getD i 0) (leC M (M.getD i 0) i + 1) (adN (num M v p told i) (told + 1) fb) (told + 1) (i + 1) false (out ++ wnum b (num M v p told i))
theorem tl_s {M : List Nat} {n v p b told la i : Nat} {fb : Bool} {out : List Nat} (h : nxG M v la M.length = some i) : tlS M (n + 1) v p b told la fb out = tlS M n (M.getD i 0) (leC M (M.getD i 0) i + 1) (adN (num M v p told i) (told + 1) fb) (told + 1) (i + 1) false (out ++ wnum b (num M v p told i)) := by
  rw [tlS, h]
theorem tl_le {M : List Nat} : ∀ (n v p b told la : Nat) (fb : Bool) (out : List Nat), out.length ≤ (tlS M n v p b told la fb out).length
  | 0, _, _, _, _, _, _, out => by rw [tlS]; exact Nat.le_refl _
  | n + 1, v, p, b, told, la, fb, out => by
    cases hx : nxG M v la M.length with
    | none => rw [tlS, hx]; exact Nat.le_refl _
    | some i =>
      rw [tl_s hx]
      have := tl_le (M := M) n (M.getD i 0) (leC M (M.getD i 0) i + 1) (adN (num M v p told i) (told + 1) fb) (told + 1) (i + 1) false (out ++ wnum b (num M v p told i))
      rw [List.length_append] at this
      omega
/-- where the telling stands: (v, la) are the last told value and the place behind it -/
def tinv (M : List Nat) (v p told la : Nat) : Prop := p = leC M v la ∧ cnt M v la M.length = told ∧ la ≤ M.length
theorem tinv_nx {M : List Nat} {v p told la : Nat} (h : tinv M v p told la) (ht : told < M.length) : ∃ i, nxG M v la M.length = some i ∧ i < M.length ∧ v ≤ M.getD i 0 ∧ p ≤ (M.getD i 0 - v) * (told + 1) + leC M (M.getD i 0) i ∧ tinv M (M.getD i 0) (leC M (M.getD i 0) i + 1) (told + 1) (i + 1) := by
  obtain ⟨hp, hc, hl⟩ := h
  obtain ⟨i, hi⟩ := nx_ex (M := M) (v := v) (la := la) (n := M.length) (by omega)
  obtain ⟨q1, q2, q3⟩ := nx_so _ _ hi
  have hpt : p ≤ told := by
    have a := leC_cnt (M := M) (v := v) la (Nat.le_refl _)
    have b := cnt_mono (M := M) (v := v) (la := la) la (M.length - la)
    rw [show la + (M.length - la) = M.length by omega] at b
    omega
  refine ⟨i, hi, q1, by omega, ?_, ?_, ?_, by omega⟩
  · rcases q2 with q2 | ⟨q2, q4⟩
    · have := Nat.mul_le_mul (show 1 ≤ M.getD i 0 - v by omega) (Nat.le_refl (told + 1))
      omega
    · have := leC_mono (M := M) (v := v) la (i - la)
      rw [show la + (i - la) = i by omega] at this
      rw [q2]
      omega
  · rw [leC, if_pos (Nat.le_refl _)]
  · rw [cnt_nx q2 q3 M.length (Nat.le_refl _), if_pos q1, hc]
def pln (M : List Nat) : List Nat := M.filter (fun x => x < 128)
def wlS (M : List Nat) : List Nat := tlS M (M.length - (pln M).length) 128 0 72 (pln M).length 0 true (if (pln M).length = 0 then pln M else pln M ++ [45])
theorem pln_s {M : List Nat} {i : Nat} (h : i < M.length) : pln (M.take (i + 1)) = if M.getD i 0 < 128 then pln (M.take i) ++ [M.getD i 0] else pln (M.take i) := by
  unfold pln
  rw [List.take_succ, List.filter_append]
  simp only [List.getElem?_eq_getElem h, Option.toList_some, List.getD_eq_getElem?_getD, Option.getD_some]
  by_cases h2 : M[i] < 128
  · rw [if_pos h2]; simp [h2]
  · rw [if_neg h2]; simp [h2]
theorem pln_len {M : List Nat} {i : Nat} : (pln (M.take i)).length ≤ i := by
  unfold pln
  have a := List.length_filter_le (fun x => decide (x < 128)) (M.take i)
  have b := List.length_take_le i M
  omega
theorem pln_all (M : List Nat) : (pln M).length ≤ M.length := List.length_filter_le _ _
theorem pln_cnt (M : List Nat) : ∀ n, n ≤ M.length → (pln (M.take n)).length = cnt M 128 0 n
  | 0, _ => by rw [List.take_zero]; rfl
  | n + 1, h => by
    rw [pln_s (by omega), cnt, ← pln_cnt M n (by omega)]
    by_cases e : M.getD n 0 < 128
    · rw [if_pos e, if_neg (by omega), List.length_append, List.length_singleton]
    · rw [if_neg e, if_pos (by omega)]; rfl
theorem tinv_0 (M : List Nat) : tinv M 128 0 (pln M).length 0 := by
  refine ⟨rfl, ?_, Nat.zero_le _⟩
  rw [← pln_cnt M M.length (Nat.le_refl _), List.take_length]
def spX (w : List Nat) (O : List Int32) : Int32 × List Int32 := if w.length ≤ 400 then (nI w.length, w.map nI) else (-1, O)
def lz (la : Nat) : Int32 := if la = 0 then -1 else nI (la - 1)
theorem lz_le {i la : Nat} (hi : i < 2 ^ 31) (hl : la < 2 ^ 31) : nI i ≤ lz la ↔ i < la := by
  unfold lz
  by_cases h : la = 0
  · rw [if_pos h, Int32.le_iff_toInt_le, nI_toInt hi, show (-1 : Int32).toInt = -1 by decide]
    omega
  · rw [if_neg h, nI_leI hi (by omega)]
    omega
theorem lz_s (i : Nat) : nI i = lz (i + 1) := by
  unfold lz
  rw [if_neg (by omega)]
  rfl
