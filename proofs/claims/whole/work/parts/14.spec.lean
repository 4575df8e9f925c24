section Ab
variable {p : Program} {l : Launch} {e : Env} {R : Room} {s : State} {m : MethodId} {args : Array Value} {cy : ByteArray} {maxL fr lo index : Nat} {own C owner : String} {x y : MethodName} {ret : Option FieldType}
theorem cu_of (n : Nat) (hw : ∀ w ∈ BG, w.before args s = true) (hN : NW s) (hc : Cond.code y cy maxL ret ∈ BG) (hini : Cond.initialized y.cls ∈ BG) (hl : Cond.methodLink own index x ∈ BG) (hsm : Cond.sameMethod x.cls owner x.name x.desc ∈ BG) (hsel : Cond.selects C x y ∈ BG) (hinst : Cond.instanceMethod y ∈ BG) (hdec : Cond.declares ⟨owner, x.name, x.desc⟩ ∈ NWL)
    (hd : owner ≠ "java/lang/invoke/MethodHandle" ∧ owner ≠ "java/lang/invoke/VarHandle" ∧ (parseMethodDescriptor x.desc).map (fun d => d.parameters.length) = some n) (hR : fr + 1 ≤ R.frames ∧ 8 + (maxL + 11) + lo ≤ R.locals) : va_CU R s args own C owner index x y cy maxL ret (Cond.code y cy maxL ret :: BG) (rm_ fr lo) 0 0 n := by
  refine va_cwA n hw (fun w h => ?_) rfl rfl rfl (hN _ hdec) hd hR
  rcases List.mem_append.mp h with h | h
  · simp only [List.mem_cons, List.not_mem_nil, or_false] at h
    rcases h with rfl | rfl | rfl | rfl | rfl
    · exact ⟨hl, bg_good hl⟩
    · exact ⟨hsm, bg_good hsm⟩
    · exact ⟨hsel, bg_good hsel⟩
    · exact ⟨hinst, bg_good hinst⟩
    · exact ⟨hini, bg_good hini⟩
  · exact bg_in hc w h
end Ab
/-! reading a whole row, mending, writing, comparing -/
abbrev Rd : Type := Nat → Option Nat × Nat
def rdOk (rd : Rd) : Prop := (∀ p v, (rd p).1 = some v → 1 ≤ (rd p).2 ∧ sca v) ∧ ∀ p, (rd p).2 ≤ 4
def frS (rd : Rd) (k : Nat) : Nat → Nat → List Nat → Int32 × Option (List Nat)
  | 0, _, acc => (nI acc.length, some acc)
  | n + 1, p, acc => if p < k then (match (rd p).1 with
    | none => (-1 - nI (p + (rd p).2), none)
    | some v => frS rd k n (p + (rd p).2) (acc ++ [v])) else (nI acc.length, some acc)
def spF (rd : Rd) (I L : List Int32) : Int32 × List Int32 :=
  ((frS rd I.length I.length 0 []).1, match (frS rd I.length I.length 0 []).2 with
    | some M => M.map nI
    | none => L)
theorem frS_end {rd : Rd} {k n p : Nat} {acc : List Nat} (h : k ≤ p) : frS rd k n p acc = (nI acc.length, some acc) := by
  cases n with
  | zero => rfl
  | succ n => unfold frS; rw [if_neg (by omega)]
theorem frS_no {rd : Rd} {k n p g : Nat} {acc : List Nat} (h : p < k) (hr : rd p = (none, g)) : frS rd k (n + 1) p acc = (-1 - nI (p + g), none) := by
  unfold frS; rw [if_pos h, hr]
theorem frS_so {rd : Rd} {k n p g v : Nat} {acc : List Nat} (h : p < k) (hr : rd p = (some v, g)) : frS rd k (n + 1) p acc = frS rd k n (p + g) (acc ++ [v]) := by
  rw [frS, if_pos h, hr]
def mdS (rd : Rd) (k : Nat) : Nat → Nat → List Nat → Nat → Nat × List Nat
  | 0, _, acc, c => (c, acc)
  | n + 1, p, acc, c => if p < k then (match (rd p).1 with
    | none => mdS rd k n (p + max 1 (rd p).2) (acc ++ [65533]) (c + 1)
    | some v => mdS rd k n (p + (rd p).2) (acc ++ [v]) c) else (c, acc)
theorem mdS_end {rd : Rd} {k n p c : Nat} {acc : List Nat} (h : k ≤ p) : mdS rd k n p acc c = (c, acc) := by
  cases n with
  | zero => rfl
  | succ n => unfold mdS; rw [if_neg (by omega)]
theorem mdS_no {rd : Rd} {k n p g c : Nat} {acc : List Nat} (h : p < k) (hr : rd p = (none, g)) : mdS rd k (n + 1) p acc c = mdS rd k n (p + max 1 g) (acc ++ [65533]) (c + 1) := by
  rw [mdS, if_pos h, hr]
theorem mdS_so {rd : Rd} {k n p g v c : Nat} {acc : List Nat} (h : p < k) (hr : rd p = (some v, g)) : mdS rd k (n + 1) p acc c = mdS rd k n (p + g) (acc ++ [v]) c := by
  rw [mdS, if_pos h, hr]
theorem mx1 {g : Nat} (h : 1 ≤ g) (hg : g < 2 ^ 31) : (if nI 1 < nI g then nI g else nI 1) = nI g := by
  split
  · rfl
  · rename_i h2
    have := nt_nlt (by omega) hg h2
    rw [show g = 1 by omega]
theorem mx2 {g : Nat} (hg : g < 2 ^ 31) : (if nI 1 < nI g then nI g else nI 1) = nI (max 1 g) := by
  split
  · rename_i h2
    have := nt_lt (by omega) hg h2
    rw [show max 1 g = g by omega]
  · rename_i h2
    have := nt_nlt (by omega) hg h2
    rw [show max 1 g = 1 by omega]
theorem map_snoc (acc : List Nat) (v : Nat) : acc.map nI ++ [nI v] = (acc ++ [v]).map nI := by simp
theorem rd8_ok (u : Nat → Int32) : rdOk (rd8 u) := by
  constructor
  · intro p v h
    unfold rd8 at h ⊢
    rcases sz8_c (u p) with e8 | ⟨e8, b1, b2⟩ | ⟨e8, b1, b2⟩ | ⟨e8, b1, b2⟩ | ⟨e8, b1, b2⟩
    · rw [e8] at h; cases h
    · rw [e8] at h ⊢
      obtain ⟨ea, eb, ec⟩ := tn_of b1 (by decide)
      obtain rfl := Option.some.inj h
      exact ⟨Nat.le_refl _, by unfold sca; omega⟩
    · rw [e8] at h ⊢
      obtain ⟨ea, eb, ec⟩ := tn_of b1 (by decide)
      by_cases k1 : ok2 (u p) (u (p + 1)) = true
      · simp only [k1, if_true] at h ⊢
        obtain ⟨g1, g2⟩ := ok2_r k1
        obtain ⟨ea1, eb1, ec1⟩ := tn_of g1 (by decide)
        obtain rfl := Option.some.inj h
        exact ⟨by omega, by unfold sca; omega⟩
      · simp only [k1] at h; cases h
    · rw [e8] at h ⊢
      obtain ⟨ea, eb, ec⟩ := tn_of b1 (by decide)
      by_cases k1 : ok2 (u p) (u (p + 1)) = true
      · by_cases k2 : ok3 (u (p + 2)) = true
        · simp only [k1, k2, if_true] at h ⊢
          obtain ⟨g1, g2⟩ := ok2_r k1
          have g3 : lo2 (u p) ≤ (u (p + 1)).toInt ∧ (u (p + 1)).toInt ≤ hi2 (u p) := of_decide_eq_true k1
          obtain ⟨g4, g5⟩ := ok3_r k2
          obtain ⟨ea1, eb1, ec1⟩ := tn_of g1 (by decide)
          obtain ⟨ea2, eb2, ec2⟩ := tn_of g4 (by decide)
          obtain rfl := Option.some.inj h
          refine ⟨by omega, ?_⟩
          unfold lo2 hi2 at g3
          unfold sca
          revert g3
          (repeat' split) <;> omega
        · simp only [k1, k2, if_true] at h; cases h
      · simp only [k1] at h; cases h
    · rw [e8] at h ⊢
      obtain ⟨ea, eb, ec⟩ := tn_of (show 240 ≤ (u p).toInt from b1) (by decide)
      by_cases k1 : ok2 (u p) (u (p + 1)) = true
      · by_cases k2 : ok3 (u (p + 2)) = true
        · by_cases k3 : ok3 (u (p + 3)) = true
          · simp only [k1, k2, k3, if_true] at h ⊢
            obtain ⟨g1, g2⟩ := ok2_r k1
            have g3 : lo2 (u p) ≤ (u (p + 1)).toInt ∧ (u (p + 1)).toInt ≤ hi2 (u p) := of_decide_eq_true k1
            obtain ⟨g4, g5⟩ := ok3_r k2
            obtain ⟨g6, g7⟩ := ok3_r k3
            obtain ⟨ea1, eb1, ec1⟩ := tn_of g1 (by decide)
            obtain ⟨ea2, eb2, ec2⟩ := tn_of g4 (by decide)
            obtain ⟨ea3, eb3, ec3⟩ := tn_of g6 (by decide)
            obtain rfl := Option.some.inj h
            refine ⟨by omega, ?_⟩
            unfold lo2 hi2 at g3
            unfold sca
            revert g3
            (repeat' split) <;> omega
          · simp only [k1, k2, k3, if_true] at h; cases h
        · simp only [k1, k2, if_true] at h; cases h
      · simp only [k1] at h; cases h
  · intro p
    unfold rd8
    rcases sz8_c (u p) with e8 | ⟨e8, b1, b2⟩ | ⟨e8, b1, b2⟩ | ⟨e8, b1, b2⟩ | ⟨e8, b1, b2⟩ <;> rw [e8] <;> (repeat' split) <;> simp
theorem rd16_ok (u : Nat → Int32) : rdOk (rd16 u) := by
  constructor
  · intro p v h
    unfold rd16 at h ⊢
    by_cases k1 : 55296 ≤ (u p).toInt ∧ (u p).toInt < 56320
    · rw [if_pos k1] at h ⊢
      obtain ⟨ea, eb, ec⟩ := tn_of k1.1 (by decide)
      by_cases k2 : 56320 ≤ (u (p + 1)).toInt ∧ (u (p + 1)).toInt ≤ 57343
      · rw [if_pos k2] at h ⊢
        obtain ⟨ea1, eb1, ec1⟩ := tn_of k2.1 (by decide)
        obtain rfl := Option.some.inj h
        exact ⟨by omega, by unfold sca; omega⟩
      · rw [if_neg k2] at h; cases h
    · rw [if_neg k1] at h ⊢
      by_cases k2 : (0 ≤ (u p).toInt ∧ (u p).toInt < 65536) ∧ ¬ (55296 ≤ (u p).toInt ∧ (u p).toInt ≤ 57343)
      · rw [if_pos k2] at h ⊢
        obtain ⟨ea, eb, ec⟩ := tn_of k2.1.1 (by decide)
        obtain rfl := Option.some.inj h
        exact ⟨Nat.le_refl _, by unfold sca; omega⟩
      · rw [if_neg k2] at h; cases h
  · intro p
    unfold rd16
    (repeat' split) <;> simp
theorem un_map {M : List Nat} {i : Nat} (h : i < M.length) : un (M.map nI) i = nI (M.getD i 0) := by
  unfold un
  simp [h]
/-! writing a list -/
def spW (en : Nat → List Nat) (M : List Nat) (O : List Int32) : Int32 × List Int32 :=
  if (M.flatMap en).length ≤ 400 then (nI (M.flatMap en).length, (M.flatMap en).map nI) else (-1, O)
theorem fm_take {en : Nat → List Nat} {M : List Nat} {i : Nat} (h : i < M.length) : (M.take (i + 1)).flatMap en = (M.take i).flatMap en ++ en (M.getD i 0) := by
  rw [List.take_succ, List.flatMap_append]
  simp [h]
theorem fm_le {en : Nat → List Nat} {M : List Nat} {i : Nat} : ((M.take i).flatMap en).length ≤ (M.flatMap en).length := by
  conv => rhs; rw [← List.take_append_drop i M, List.flatMap_append, List.length_append]
  omega
/-! comparing -/
def cmS (oo : Nat → Nat → Int32) : List Nat → List Nat → Int32
  | [], [] => 0
  | [], _ :: _ => -1
  | _ :: _, [] => 1
  | a :: s, b :: t => if oo a b = 0 then cmS oo s t else oo a b
theorem cmS_step {oo : Nat → Nat → Int32} {M Q : List Nat} {i : Nat} (h : i < M.length) (h2 : i < Q.length) : cmS oo (M.drop i) (Q.drop i) = if oo (M.getD i 0) (Q.getD i 0) = 0 then cmS oo (M.drop (i + 1)) (Q.drop (i + 1)) else oo (M.getD i 0) (Q.getD i 0) := by
  rw [List.drop_eq_getElem_cons h, List.drop_eq_getElem_cons h2, cmS]
  simp [h, h2]
theorem cmS_end {oo : Nat → Nat → Int32} {M Q : List Nat} {i : Nat} (h : i = min M.length Q.length) : cmS oo (M.drop i) (Q.drop i) = ooN M.length Q.length := by
  unfold ooN
  rcases Nat.lt_trichotomy M.length Q.length with k | k | k
  · rw [if_neg (by omega), if_pos k]
    have e1 : M.drop i = [] := List.drop_eq_nil_iff.mpr (by omega)
    have e2 : i < Q.length := by omega
    rw [e1, List.drop_eq_getElem_cons e2, cmS]
  · rw [if_pos k]
    have e1 : M.drop i = [] := List.drop_eq_nil_iff.mpr (by omega)
    have e2 : Q.drop i = [] := List.drop_eq_nil_iff.mpr (by omega)
    rw [e1, e2, cmS]
  · rw [if_neg (by omega), if_neg (by omega)]
    have e1 : Q.drop i = [] := List.drop_eq_nil_iff.mpr (by omega)
    have e2 : i < M.length := by omega
    rw [e1, List.drop_eq_getElem_cons e2, cmS]
