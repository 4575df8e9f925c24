/-! what is read is scalars -/
theorem frS_sc {rd : Rd} (hr : rdOk rd) {k : Nat} : ∀ (n p : Nat) (acc : List Nat), (∀ x ∈ acc, sca x) → ∀ M, (frS rd k n p acc).2 = some M → ∀ x ∈ M, sca x
  | 0, p, acc, ha, M, h => by
    rw [frS] at h
    obtain rfl := Option.some.inj h
    exact ha
  | n + 1, p, acc, ha, M, h => by
    by_cases hp : p < k
    · obtain ⟨⟨ro, g⟩, hrd⟩ : ∃ z, rd p = z := ⟨_, rfl⟩
      cases ro with
      | none => rw [frS_no hp hrd] at h; cases h
      | some v =>
        rw [frS_so hp hrd] at h
        refine frS_sc hr n _ _ (fun x hx => ?_) M h
        rcases List.mem_append.mp hx with hx | hx
        · exact ha x hx
        · obtain rfl := List.mem_singleton.mp hx
          exact (hr.1 p x (by rw [hrd])).2
    · rw [frS_end (by omega)] at h
      obtain rfl := Option.some.inj h
      exact ha
theorem spF_sc {rd : Rd} (hr : rdOk rd) (I : List Int32) {M : List Nat} (hM : ∀ x ∈ M, sca x) : ∃ M2 : List Nat, (spF rd I (M.map nI)).2 = M2.map nI ∧ ∀ x ∈ M2, sca x := by
  unfold spF
  cases h : (frS rd I.length I.length 0 []).2 with
  | none => exact ⟨M, rfl, hM⟩
  | some M2 => exact ⟨M2, rfl, frS_sc hr _ _ _ (fun x hx => by cases hx) M2 h⟩
theorem mdS_sc {rd : Rd} (hr : rdOk rd) {k : Nat} : ∀ (n p : Nat) (acc : List Nat) (c : Nat), (∀ x ∈ acc, sca x) → ∀ x ∈ (mdS rd k n p acc c).2, sca x
  | 0, p, acc, c, ha => by rw [mdS]; exact ha
  | n + 1, p, acc, c, ha => by
    by_cases hp : p < k
    · obtain ⟨⟨ro, g⟩, hrd⟩ : ∃ z, rd p = z := ⟨_, rfl⟩
      cases ro with
      | none =>
        rw [mdS_no hp hrd]
        refine mdS_sc hr n _ _ _ (fun x hx => ?_)
        rcases List.mem_append.mp hx with hx | hx
        · exact ha x hx
        · obtain rfl := List.mem_singleton.mp hx
          exact ⟨by omega, by omega⟩
      | some v =>
        rw [mdS_so hp hrd]
        refine mdS_sc hr n _ _ _ (fun x hx => ?_)
        rcases List.mem_append.mp hx with hx | hx
        · exact ha x hx
        · obtain rfl := List.mem_singleton.mp hx
          exact (hr.1 p x (by rw [hrd])).2
    · rw [mdS_end (by omega)]; exact ha
theorem ins_mem {acc : List Nat} {j v x : Nat} (h : x ∈ acc.insertIdx j v) : x = v ∨ x ∈ acc := by
  induction acc generalizing j with
  | nil => cases j with
    | zero => simp at h; exact Or.inl h
    | succ j => simp at h
  | cons a t ih => cases j with
    | zero => simp at h; simp; omega
    | succ j =>
      rw [List.insertIdx_succ_cons] at h
      rcases List.mem_cons.mp h with h | h
      · exact Or.inr (by rw [h]; exact List.mem_cons_self)
      · rcases ih h with q | q
        · exact Or.inl q
        · exact Or.inr (List.mem_cons_of_mem _ q)
theorem raS_sc {I : List Int32} : ∀ (n a v q b : Nat) (fb : Bool) (acc : List Nat), (∀ x ∈ acc, sca x) → ∀ M, (raS I n a v q b fb acc).2 = some M → ∀ x ∈ M, sca x
  | 0, a, v, q, b, fb, acc, ha, M, h => by
    rw [raS] at h
    obtain rfl := Option.some.inj h
    exact ha
  | n + 1, a, v, q, b, fb, acc, ha, M, h => by
    by_cases hp : a < I.length
    · obtain ⟨⟨cd, s2, a2⟩, hrd⟩ : ∃ z, rnS I b I.length 1 a 0 1 = z := ⟨_, rfl⟩
      by_cases hc : cd = 0
      · subst hc
        by_cases ho : 2147483647 < q + s2 ∨ 2147483647 < v + (q + s2) / (acc.length + 1)
        · rw [raS_ov hp hrd ho] at h; cases h
        · by_cases hs : sca (v + (q + s2) / (acc.length + 1))
          · rw [raS_go hp hrd ho hs] at h
            refine raS_sc n _ _ _ _ _ _ (fun x hx => ?_) M h
            rcases ins_mem hx with e | e
            · rw [e]; exact hs
            · exact ha x e
          · rw [raS_ns hp hrd ho hs] at h; cases h
      · rw [raS_bad hp hrd hc] at h; cases h
    · rw [raS_end (by omega)] at h
      obtain rfl := Option.some.inj h
      exact ha
theorem spL_sc (I : List Int32) {M : List Nat} (hM : ∀ x ∈ M, sca x) : ∃ M2 : List Nat, (spL I (M.map nI)).2 = M2.map nI ∧ ∀ x ∈ M2, sca x := by
  unfold spL
  cases h : (rlS I).2 with
  | none => exact ⟨M, rfl, hM⟩
  | some M2 =>
    refine ⟨M2, rfl, ?_⟩
    unfold rlS at h
    cases hp : plG I (lhG I I.length) with
    | none => rw [hp] at h; cases h
    | some acc =>
      rw [hp] at h
      exact raS_sc _ _ _ _ _ _ _ (fun x hx => ⟨by have := (plG_len hp).2 x hx; omega, by have := (plG_len hp).2 x hx; omega⟩) M2 h
theorem kn_all {s : State} {args : Array Value} (hts : ∀ w ∈ lw_tbl, w.before args s = true) : ∃ (D : va_G) (cA : ClassId), va_K D vwCl [(cA, .int)] s := by
  have hw : ∀ w ∈ BG, w.before args s = true := fun w h => hts w (bg_tbl h)
  obtain ⟨c0, i0, k0⟩ := u_known hw in_Row (hw _ w_19)
  obtain ⟨c1, i1, k1⟩ := u_known hw in_Ei (hw _ w_35)
  obtain ⟨c2, i2, k2⟩ := u_known hw in_Si (hw _ w_59)
  obtain ⟨c3, i3, k3⟩ := u_known hw in_Le (hw _ w_68)
  obtain ⟨c4, i4, k4⟩ := u_known hw in_Sc (hw _ w_11)
  obtain ⟨c5, i5, k5⟩ := u_known hw in_Mo (hw _ w_359)
  obtain ⟨cA, kA, comp, h1, h2, h3⟩ := Cond.arrayClass_spec (hw _ w_33)
  refine ⟨(fun c => match c with | 0 => c0 | 1 => c1 | 2 => c2 | 3 => c3 | 4 => c4 | _ => c5, fun c => match c with | 0 => i0 | 1 => i1 | 2 => i2 | 3 => i3 | 4 => i4 | _ => i5), cA, fun c q hq => ?_, fun k q hk => ?_⟩
  · match c, hq with
    | 0, hq => obtain rfl := Option.some.inj hq; exact k0
    | 1, hq => obtain rfl := Option.some.inj hq; exact k1
    | 2, hq => obtain rfl := Option.some.inj hq; exact k2
    | 3, hq => obtain rfl := Option.some.inj hq; exact k3
    | 4, hq => obtain rfl := Option.some.inj hq; exact k4
    | 5, hq => obtain rfl := Option.some.inj hq; exact k5
    | n + 6, hq => cases hq
  · match k, hk with
    | 0, hk =>
      obtain rfl := Option.some.inj hk
      exact ⟨fun n z => ⟨fun k h => (by cases h), kA, h2, comp, h3⟩, h1⟩
    | n + 1, hk => cases hk
