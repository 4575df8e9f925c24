/-! letters: digits, thresholds, biases, numbers -/
theorem lc_le {a b : Nat} (ha : a < 2 ^ 63) (hb : b < 2 ^ 63) (h : lg_cmp (lN a) (lN b) ≤ 0) : a ≤ b := (pk_lLE ha hb).mp ((lg_cmp_le _ _).mp h)
theorem lc_nle {a b : Nat} (ha : a < 2 ^ 63) (hb : b < 2 ^ 63) (h : ¬ lg_cmp (lN a) (lN b) ≤ 0) : b < a := Nat.lt_of_not_le (fun q => h ((lg_cmp_le _ _).mpr ((pk_lLE ha hb).mpr q)))
theorem lc_gt {a b : Nat} (ha : a < 2 ^ 63) (hb : b < 2 ^ 63) (h : 0 < lg_cmp (lN a) (lN b)) : b < a := (pk_lLT hb ha).mp ((lg_cmp_gt _ _).mp h)
theorem lc_ngt {a b : Nat} (ha : a < 2 ^ 63) (hb : b < 2 ^ 63) (h : ¬ 0 < lg_cmp (lN a) (lN b)) : a ≤ b := Nat.le_of_not_lt (fun q => h ((lg_cmp_gt _ _).mpr ((pk_lLT hb ha).mpr q)))
theorem lc_lt {a b : Nat} (ha : a < 2 ^ 63) (hb : b < 2 ^ 63) (h : lg_cmp (lN a) (lN b) < 0) : a < b := (pk_lLT ha hb).mp ((lg_cmp_lt _ _).mp h)
theorem lc_nlt {a b : Nat} (ha : a < 2 ^ 63) (hb : b < 2 ^ 63) (h : ¬ lg_cmp (lN a) (lN b) < 0) : b ≤ a := Nat.le_of_not_lt (fun q => h ((lg_cmp_lt _ _).mpr ((pk_lLT ha hb).mpr q)))
theorem lc_ge {a b : Nat} (ha : a < 2 ^ 63) (hb : b < 2 ^ 63) (h : 0 ≤ lg_cmp (lN a) (lN b)) : b ≤ a := (pk_lLE hb ha).mp ((lg_cmp_ge _ _).mp h)
theorem lc_nge {a b : Nat} (ha : a < 2 ^ 63) (hb : b < 2 ^ 63) (h : ¬ 0 ≤ lg_cmp (lN a) (lN b)) : a < b := Nat.lt_of_not_le (fun q => h ((lg_cmp_ge _ _).mpr ((pk_lLE hb ha).mpr q)))
def dgo (u : Int32) : Option Nat := if 97 ≤ u.toInt ∧ u.toInt ≤ 122 then some (tn u - 97) else if 65 ≤ u.toInt ∧ u.toInt ≤ 90 then some (tn u - 65) else if 48 ≤ u.toInt ∧ u.toInt ≤ 57 then some (tn u - 22) else none
theorem dgo_b {u : Int32} {d : Nat} (h : dgo u = some d) : d ≤ 35 ∧ 0 ≤ u.toInt := by
  unfold dgo at h
  by_cases h1 : 97 ≤ u.toInt ∧ u.toInt ≤ 122
  · rw [if_pos h1] at h
    obtain ⟨ea, eb, ec⟩ := tn_of h1.1 (by decide)
    obtain rfl := Option.some.inj h
    omega
  · rw [if_neg h1] at h
    by_cases h2 : 65 ≤ u.toInt ∧ u.toInt ≤ 90
    · rw [if_pos h2] at h
      obtain ⟨ea, eb, ec⟩ := tn_of h2.1 (by decide)
      obtain rfl := Option.some.inj h
      omega
    · rw [if_neg h2] at h
      by_cases h3 : 48 ≤ u.toInt ∧ u.toInt ≤ 57
      · rw [if_pos h3] at h
        obtain ⟨ea, eb, ec⟩ := tn_of h3.1 (by decide)
        obtain rfl := Option.some.inj h
        omega
      · rw [if_neg h3] at h; cases h
theorem dgo_in {I : List Int32} {a d : Nat} (h : dgo (un I a) = some d) : a < I.length := by
  apply Nat.lt_of_not_le
  intro q
  have e : un I a = -1 := by unfold un; simp [q]
  rw [e] at h
  exact absurd (dgo_b h).2 (by decide)
def thN (b k : Nat) : Nat := max 1 (min 26 (36 * k - b))
theorem thN_b (b k : Nat) : 1 ≤ thN b k ∧ thN b k ≤ 26 := by unfold thN; omega
theorem th_c {b k : Nat} (hb : b < 2 ^ 20) (hk : k < 2 ^ 20) : (if nI 1 < (if nI (36 * k) - nI b < nI 26 then nI (36 * k) - nI b else nI 26) then (if nI (36 * k) - nI b < nI 26 then nI (36 * k) - nI b else nI 26) else nI 1) = nI (thN b k) := by
  have e := pk_sub_toInt (a := 36 * k) (b := b) (by omega) (by omega)
  generalize nI (36 * k) - nI b = x at e
  unfold thN
  by_cases h1 : x < nI 26
  · rw [if_pos h1]
    rw [Int32.lt_iff_toInt_lt, nI_toInt (n := 26) (by omega)] at h1
    by_cases h2 : nI 1 < x
    · rw [if_pos h2]
      rw [Int32.lt_iff_toInt_lt, nI_toInt (n := 1) (by omega)] at h2
      obtain ⟨ea, eb, ec⟩ := tn_of (show (0 : Int) ≤ x.toInt by omega) (by decide)
      rw [ea]
      congr 1
      omega
    · rw [if_neg h2]
      rw [Int32.lt_iff_toInt_lt, nI_toInt (n := 1) (by omega)] at h2
      congr 1
      omega
  · rw [if_neg h1, if_pos (by decide)]
    rw [Int32.lt_iff_toInt_lt, nI_toInt (n := 26) (by omega)] at h1
    congr 1
    omega
theorem th_m {b k : Nat} (hb : b < 2 ^ 20) (hk : k < 2 ^ 20) {x : Int32} (hx : x = nI (36 * k) - nI b) : (x < nI 1 → (1 : Nat) = thN b k) ∧ (¬ x < nI 1 → nI 26 < x → (26 : Nat) = thN b k) ∧ (¬ x < nI 1 → ¬ nI 26 < x → x = nI (thN b k)) := by
  have e := pk_sub_toInt (a := 36 * k) (b := b) (by omega) (by omega)
  rw [← hx] at e
  rw [Int32.lt_iff_toInt_lt, Int32.lt_iff_toInt_lt, nI_toInt (n := 26) (by omega), nI_toInt (n := 1) (by omega)]
  unfold thN
  refine ⟨fun h => by omega, fun h1 h2 => by omega, fun h1 h2 => ?_⟩
  obtain ⟨ea, eb, ec⟩ := tn_of (show (0 : Int) ≤ x.toInt by omega) (by decide)
  rw [ea]
  congr 1
  omega
def adL : Nat → Nat → Nat → Nat
  | 0, e, c => 36 * c + 36 * e / (e + 38)
  | n + 1, e, c => if 455 < e then adL n (e / 35) (c + 1) else 36 * c + 36 * e / (e + 38)
def adE (d n : Nat) (fb : Bool) : Nat := (if fb then d / 700 else d / 2) + (if fb then d / 700 else d / 2) / n
def adN (d n : Nat) (fb : Bool) : Nat := adL (adE d n fb) (adE d n fb) 0
theorem adE_b {d n : Nat} {fb : Bool} : adE d n fb ≤ d := by
  unfold adE
  have h1 := Nat.div_le_self (d / 700) n
  have h2 := Nat.div_le_self (d / 2) n
  cases fb
  · rw [if_neg (by decide)]; omega
  · rw [if_pos rfl]; omega
theorem adL_end {n e c : Nat} (h : e ≤ 455) : adL n e c = 36 * c + 36 * e / (e + 38) := by
  cases n with
  | zero => rfl
  | succ n => unfold adL; rw [if_neg (by omega)]
theorem adL_step {n e c : Nat} (h : 455 < e) : adL (n + 1) e c = adL n (e / 35) (c + 1) := by
  rw [adL, if_pos h]
theorem fr_36 (e : Nat) : 36 * e / (e + 38) ≤ 36 := by
  apply Nat.le_of_lt_succ
  apply (Nat.div_lt_iff_lt_mul (by omega)).mpr
  omega
theorem adL_b : ∀ (j n e c : Nat), e ≤ n → e < 456 * 35 ^ j → adL n e c ≤ 36 * (c + j) + 36
  | 0, n, e, c, _, h => by
    rw [adL_end (by omega)]
    have := fr_36 e
    omega
  | j + 1, n, e, c, hn, h => by
    by_cases h2 : 455 < e
    · obtain ⟨k, rfl⟩ : ∃ k, n = k + 1 := ⟨n - 1, by omega⟩
      rw [adL_step h2]
      have := adL_b j k (e / 35) (c + 1) (by omega) (by
        rw [Nat.pow_succ] at h
        apply (Nat.div_lt_iff_lt_mul (by omega)).mpr
        omega)
      omega
    · rw [adL_end (by omega)]
      have := fr_36 e
      omega
theorem adN_b {d n : Nat} {fb : Bool} (hd : d < 2 ^ 31) : adN d n fb ≤ 252 := by
  have h := adE_b (d := d) (n := n) (fb := fb)
  have := adL_b 6 (adE d n fb) (adE d n fb) 0 (Nat.le_refl _) (by omega)
  unfold adN
  omega
def bI (b : Bool) : Int32 := if b then 1 else 0
/-! reading numbers -/
def rnS (I : List Int32) (b : Nat) : Nat → Nat → Nat → Nat → Nat → Int32 × Nat × Nat
  | 0, _, a, s, _ => (-1, s, a)
  | n + 1, k, a, s, w => match dgo (un I a) with
    | none => (-1, s, a)
    | some d => if 2147483647 < s + d * w then (-2, s + d * w, a + 1) else if d < thN b k then (0, s + d * w, a + 1) else if 2147483647 < w * (36 - thN b k) then (-2, s + d * w, a + 1) else rnS I b n (k + 1) (a + 1) (s + d * w) (w * (36 - thN b k))
theorem rn_no {I : List Int32} {b n k a s w : Nat} (h : dgo (un I a) = none) : rnS I b n k a s w = (-1, s, a) := by
  cases n with
  | zero => rfl
  | succ n => unfold rnS; rw [h]
theorem rn_s {I : List Int32} {b n k a s w d : Nat} (h : dgo (un I a) = some d) : rnS I b (n + 1) k a s w = if 2147483647 < s + d * w then (-2, s + d * w, a + 1) else if d < thN b k then (0, s + d * w, a + 1) else if 2147483647 < w * (36 - thN b k) then (-2, s + d * w, a + 1) else rnS I b n (k + 1) (a + 1) (s + d * w) (w * (36 - thN b k)) := by
  rw [rnS, h]
theorem rn_ok {I : List Int32} {b : Nat} : ∀ (n k a s w s2 a2 : Nat), rnS I b n k a s w = (0, s2, a2) → a < a2 ∧ a2 ≤ I.length ∧ s2 ≤ 2147483647
  | 0, k, a, s, w, s2, a2, h => by
    rw [rnS] at h
    exact absurd (show (-1 : Int32) = 0 from congrArg Prod.fst h) (by decide)
  | n + 1, k, a, s, w, s2, a2, h => by
    cases hd : dgo (un I a) with
    | none =>
      rw [rn_no hd] at h
      exact absurd (show (-1 : Int32) = 0 from congrArg Prod.fst h) (by decide)
    | some d =>
      have ha := dgo_in hd
      rw [rn_s hd] at h
      by_cases h1 : 2147483647 < s + d * w
      · rw [if_pos h1] at h
        exact absurd (show (-2 : Int32) = 0 from congrArg Prod.fst h) (by decide)
      · rw [if_neg h1] at h
        by_cases h2 : d < thN b k
        · rw [if_pos h2] at h
          simp only [Prod.mk.injEq, true_and] at h
          obtain ⟨rfl, rfl⟩ := h
          exact ⟨by omega, by omega, by omega⟩
        · rw [if_neg h2] at h
          by_cases h3 : 2147483647 < w * (36 - thN b k)
          · rw [if_pos h3] at h
            exact absurd (show (-2 : Int32) = 0 from congrArg Prod.fst h) (by decide)
          · rw [if_neg h3] at h
            obtain ⟨q1, q2, q3⟩ := rn_ok n (k + 1) (a + 1) _ _ s2 a2 h
            exact ⟨by omega, q2, q3⟩
/-! the whole of reading by letters -/
def lhG (I : List Int32) : Nat → Nat
  | 0 => 0
  | n + 1 => if 1 ≤ n ∧ un I n = nI 45 then n else lhG I n
theorem lhG_le (I : List Int32) : ∀ n, lhG I n ≤ n
  | 0 => Nat.le_refl _
  | n + 1 => by
    rw [lhG]
    have := lhG_le I n
    split <;> omega
theorem lhG_lt (I : List Int32) (n : Nat) (h : 0 < n) : lhG I n < n := by
  obtain ⟨k, rfl⟩ : ∃ k, n = k + 1 := ⟨n - 1, by omega⟩
  rw [lhG]
  have := lhG_le I k
  split <;> omega
def plG (I : List Int32) : Nat → Option (List Nat)
  | 0 => some []
  | n + 1 => match plG I n with
    | none => none
    | some a => if 0 ≤ (un I n).toInt ∧ (un I n).toInt < 128 then some (a ++ [tn (un I n)]) else none
theorem plG_none {I : List Int32} {n : Nat} (h : plG I n = none) : ∀ j, plG I (n + j) = none
  | 0 => h
  | j + 1 => by
    show plG I ((n + j) + 1) = none
    rw [plG, plG_none h j]
theorem plG_s {I : List Int32} {n : Nat} {a : List Nat} (h : plG I n = some a) (h2 : 0 ≤ (un I n).toInt ∧ (un I n).toInt < 128) : plG I (n + 1) = some (a ++ [tn (un I n)]) := by
  rw [plG, h]; exact if_pos h2
theorem plG_f {I : List Int32} {n m : Nat} {a : List Nat} (h : plG I n = some a) (h2 : ¬ (0 ≤ (un I n).toInt ∧ (un I n).toInt < 128)) (hm : n < m) : plG I m = none := by
  have e : plG I (n + 1) = none := by rw [plG, h]; exact if_neg h2
  have := plG_none e (m - (n + 1))
  rwa [show n + 1 + (m - (n + 1)) = m by omega] at this
theorem plG_len {I : List Int32} : ∀ {n : Nat} {a : List Nat}, plG I n = some a → a.length = n ∧ ∀ x ∈ a, x < 128
  | 0, a, h => by
    obtain rfl := Option.some.inj h
    exact ⟨rfl, fun x hx => by cases hx⟩
  | n + 1, a, h => by
    cases hp : plG I n with
    | none => rw [plG, hp] at h; cases h
    | some b =>
      by_cases h2 : 0 ≤ (un I n).toInt ∧ (un I n).toInt < 128
      · rw [plG_s hp h2] at h
        obtain rfl := Option.some.inj h
        obtain ⟨q1, q2⟩ := plG_len hp
        obtain ⟨ea, eb, ec⟩ := tn_of h2.1 (by decide)
        refine ⟨by simp [q1], fun x hx => ?_⟩
        rcases List.mem_append.mp hx with hx | hx
        · exact q2 x hx
        · obtain rfl := List.mem_singleton.mp hx
          omega
      · rw [plG_f hp h2 (Nat.lt_succ_self _)] at h; cases h
def raS (I : List Int32) : Nat → Nat → Nat → Nat → Nat → Bool → List Nat → Int32 × Option (List Nat)
  | 0, _, _, _, _, _, acc => (nI acc.length, some acc)
  | n + 1, a, v, q, b, fb, acc => if a < I.length then
      (if (rnS I b I.length 1 a 0 1).1 = 0 then
        (if 2147483647 < q + (rnS I b I.length 1 a 0 1).2.1 ∨ 2147483647 < v + (q + (rnS I b I.length 1 a 0 1).2.1) / (acc.length + 1) then (-2, none)
        else if v + (q + (rnS I b I.length 1 a 0 1).2.1) / (acc.length + 1) ≤ 1114111 ∧ ¬ (55296 ≤ v + (q + (rnS I b I.length 1 a 0 1).2.1) / (acc.length + 1) ∧ v + (q + (rnS I b I.length 1 a 0 1).2.1) / (acc.length + 1) ≤ 57343) then
          raS I n (rnS I b I.length 1 a 0 1).2.2 (v + (q + (rnS I b I.length 1 a 0 1).2.1) / (acc.length + 1)) ((q + (rnS I b I.length 1 a 0 1).2.1) % (acc.length + 1) + 1) (adN (rnS I b I.length 1 a 0 1).2.1 (acc.length + 1) fb) false (acc.insertIdx ((q + (rnS I b I.length 1 a 0 1).2.1) % (acc.length + 1)) (v + (q + (rnS I b I.length 1 a 0 1).2.1) / (acc.length + 1)))
        else (-4, none))
      else ((rnS I b I.length 1 a 0 1).1, none))
    else (nI acc.length, some acc)
theorem raS_end {I : List Int32} {n a v q b : Nat} {fb : Bool} {acc : List Nat} (h : I.length ≤ a) : raS I n a v q b fb acc = (nI acc.length, some acc) := by
  cases n with
  | zero => rfl
  | succ n => rw [raS, if_neg (by omega)]
theorem raS_bad {I : List Int32} {n a v q b s2 a2 : Nat} {cd : Int32} {fb : Bool} {acc : List Nat} (h : a < I.length) (hr : rnS I b I.length 1 a 0 1 = (cd, s2, a2)) (hc : ¬ cd = 0) : raS I (n + 1) a v q b fb acc = (cd, none) := by
  rw [raS, if_pos h, hr]
  exact if_neg hc
theorem raS_ov {I : List Int32} {n a v q b s2 a2 : Nat} {fb : Bool} {acc : List Nat} (h : a < I.length) (hr : rnS I b I.length 1 a 0 1 = (0, s2, a2)) (ho : 2147483647 < q + s2 ∨ 2147483647 < v + (q + s2) / (acc.length + 1)) : raS I (n + 1) a v q b fb acc = (-2, none) := by
  rw [raS, if_pos h, hr, if_pos rfl]
  exact if_pos ho
theorem raS_ns {I : List Int32} {n a v q b s2 a2 : Nat} {fb : Bool} {acc : List Nat} (h : a < I.length) (hr : rnS I b I.length 1 a 0 1 = (0, s2, a2)) (ho : ¬ (2147483647 < q + s2 ∨ 2147483647 < v + (q + s2) / (acc.length + 1))) (hs : ¬ sca (v + (q + s2) / (acc.length + 1))) : raS I (n + 1) a v q b fb acc = (-4, none) := by
  rw [raS, if_pos h, hr, if_pos rfl]
  dsimp only
  rw [if_neg ho]
  exact if_neg hs
theorem raS_go {I : List Int32} {n a v q b s2 a2 : Nat} {fb : Bool} {acc : List Nat} (h : a < I.length) (hr : rnS I b I.length 1 a 0 1 = (0, s2, a2)) (ho : ¬ (2147483647 < q + s2 ∨ 2147483647 < v + (q + s2) / (acc.length + 1))) (hs : sca (v + (q + s2) / (acc.length + 1))) : raS I (n + 1) a v q b fb acc = raS I n a2 (v + (q + s2) / (acc.length + 1)) ((q + s2) % (acc.length + 1) + 1) (adN s2 (acc.length + 1) fb) false (acc.insertIdx ((q + s2) % (acc.length + 1)) (v + (q + s2) / (acc.length + 1))) := by
  rw [raS, if_pos h, hr, if_pos rfl]
  dsimp only
  rw [if_neg ho]
  exact if_pos hs
def rlS (I : List Int32) : Int32 × Option (List Nat) := match plG I (lhG I I.length) with
  | none => (-3, none)
  | some acc => raS I I.length (if lhG I I.length = 0 then 0 else lhG I I.length + 1) 128 0 72 true acc
theorem map_ins (acc : List Nat) (j v : Nat) : (acc.map nI).insertIdx j (nI v) = (acc.insertIdx j v).map nI := by
  induction acc generalizing j with
  | nil => cases j <;> simp [List.insertIdx]
  | cons a t ih => cases j with
    | zero => simp
    | succ j => simp [List.insertIdx_succ_cons, ih]
theorem scI_n {v : Nat} (h : v < 2 ^ 31) : scI (nI v) ↔ sca v := by
  unfold sca
  show ((0 ≤ (nI v).toInt ∧ (nI v).toInt ≤ 1114111) ∧ ¬ (55296 ≤ (nI v).toInt ∧ (nI v).toInt ≤ 57343)) ↔ _
  rw [nI_toInt h]
  omega
