section MyBase
variable {p : Program} {l : Launch} {e : Env} {R : Room} {s : State} {m : MethodId} {args : Array Value} {below : List Frame} {meth : Method} {c : Code} {H : Heap} {locs : List Loc} {cells slots : Nat} {Q : State → Prop}
theorem nt_lt {a b : Nat} (ha : a < 2 ^ 31) (hb : b < 2 ^ 31) (h : nI a < nI b) : a < b := (nI_ltI ha hb).mp h
theorem nt_nlt {a b : Nat} (ha : a < 2 ^ 31) (hb : b < 2 ^ 31) (h : ¬ nI a < nI b) : b ≤ a := Nat.le_of_not_lt (fun q => h ((nI_ltI ha hb).mpr q))
theorem nt_le {a b : Nat} (ha : a < 2 ^ 31) (hb : b < 2 ^ 31) (h : nI a ≤ nI b) : a ≤ b := (nI_leI ha hb).mp h
theorem nt_nle {a b : Nat} (ha : a < 2 ^ 31) (hb : b < 2 ^ 31) (h : ¬ nI a ≤ nI b) : b < a := Nat.lt_of_not_le (fun q => h ((nI_leI ha hb).mpr q))
theorem nt_eq {a b : Nat} (ha : a < 2 ^ 31) (hb : b < 2 ^ 31) (h : nI a = nI b) : a = b := (nI_eq ha hb).mp h
theorem nt_ne {a b : Nat} (_ha : a < 2 ^ 31) (_hb : b < 2 ^ 31) (h : ¬ nI a = nI b) : a ≠ b := fun q => h (by rw [q])
theorem lv_rei {pc : Nat} {ls : Array Slot} {rest : List Value} {x : Int32} (y : Int32) (h : x = y) (k : W p l e R s m args below meth c H locs cells slots Q (F0 m pc ls (.int y :: rest))) : W p l e R s m args below meth c H locs cells slots Q (F0 m pc ls (.int x :: rest)) := h ▸ k
theorem lv_rel {pc : Nat} {ls : Array Slot} {rest : List Value} {x : Int64} (y : Int64) (h : x = y) (k : W p l e R s m args below meth c H locs cells slots Q (F0 m pc ls (.long y :: rest))) : W p l e R s m args below meth c H locs cells slots Q (F0 m pc ls (.long x :: rest)) := h ▸ k
-- the words that every method of both sides may use: those of the tables that hold on
def ns_good (w : Cond) : Bool := (w.onTables && w.keeps) || (match w with | .arrayClass _ => true | _ => false)
def BG : List Cond := lw_tbl.filter ns_good
theorem bg_of {w : Cond} (h : w ∈ lw_tbl) (hg : ns_good w = true) : w ∈ BG := List.mem_filter.mpr ⟨h, hg⟩
theorem bg_tbl {w : Cond} (h : w ∈ BG) : w ∈ lw_tbl := (List.mem_filter.mp h).1
theorem bg_good {w : Cond} (h : w ∈ BG) : (w.onTables && w.keeps) = true ∨ ∃ ty, w = .arrayClass ty := by
  have h2 := (List.mem_filter.mp h).2
  unfold ns_good at h2
  rcases Bool.or_eq_true_iff.mp h2 with h3 | h3
  · exact Or.inl h3
  · split at h3
    · exact Or.inr ⟨_, rfl⟩
    · cases h3
theorem bg_in {y : Cond} (hy : y ∈ BG) : GoodIn BG (y :: BG) := by
  intro w hw
  rcases List.mem_cons.mp hw with rfl | h
  · exact ⟨hy, bg_good hy⟩
  · exact ⟨h, bg_good h⟩
-- words of nest mates and of abstract methods: they go along in the contracts
def nw_k (w : Cond) : Bool := match w with
  | .fieldLinkNest _ _ _ _ _ _ => true
  | .methodLinkNest _ _ _ _ => true
  | .declares _ => true
  | _ => false
def NWL : List Cond := lw_tbl.filter nw_k
theorem nw_of {w : Cond} (h : w ∈ lw_tbl) (hg : nw_k w = true) : w ∈ NWL := List.mem_filter.mpr ⟨h, hg⟩
def NW (U : State) : Prop := ∀ w ∈ NWL, va_Nw w U
theorem nw_tab {w : Cond} (h : w ∈ NWL) : w.onTables = true := by
  have h2 := (List.mem_filter.mp h).2
  unfold nw_k at h2
  split at h2 <;> first | rfl | cases h2
theorem NW.warm {U : State} (hW : s.WarmedH U.vm) (h : NW s) : NW U := by
  intro w hw
  have h2 := (List.mem_filter.mp hw).2
  have h3 := h w hw
  unfold nw_k at h2
  split at h2
  · exact va_Nw.warmF hW h3
  · exact va_Nw.warmM hW h3
  · exact va_Nw.warmD hW h3
  · cases h2
theorem NW.of {U : State} {A : Array Value} (h : ∀ w ∈ lw_tbl, w.before A U = true) : NW U := fun w hw => va_Nw.of (nw_tab hw) (h w (List.mem_filter.mp hw).1)
-- the standard contract: a world of cells in, a world of cells out, no new cell
abbrev PR (D : va_G) (cA : ClassId) (sz : Nat) (ws : va_W) : State → Prop := fun U => U.heap.size = sz ∧ va_P D vwCl ws U.heap ∧ va_K D vwCl [(cA, .int)] U ∧ va_D (fun _ => True) ws ∧ NW U
abbrev WD (D : va_G) (A : Nat → Prop) (ws : va_W) : State → Prop := fun t => va_P D vwCl ws t.heap ∧ va_D A ws
theorem pr_blind {D : va_G} {cA : ClassId} {sz : Nat} {ws : va_W} {As : List Value} : FrameBlind (va_Pc As (PR D cA sz ws)) := fun a U g mk q => by
  obtain ⟨q0, q1, qP, qK, qD, qN⟩ := q
  exact ⟨q0, q1, qP, va_K.moved (u := U) (U := U.calling g mk a) (Vm.Alike.refl U.vm) qK, qD, fun w hw => va_Nw.same (nw_tab hw) (rfl : U.vm = (U.calling g mk a).vm) (qN w hw)⟩
abbrev rm_ (fr lo : Nat) : Room := { frames := fr, cells := 0, slots := 0, locals := lo }
def KI (l : Launch) (D : va_G) (cA : ClassId) (y : MethodName) (cc : ByteArray) (maxL : Nat) (ty : FieldType) (fr lo : Nat) (As : List Value) (sz : Nat) (wc : va_W) {S : Type} (post : Int32 → S → Prop) (w1 : S → va_W) : Prop :=
  Met l y (Cond.code y cc maxL (some ty) :: BG) (rm_ fr lo) (va_Pc As (PR D cA sz wc)) (va_Qi post (fun u t => WD D (va_A wc sz) (w1 u) t) (va_A wc sz)) 0 0 (va_A wc sz)
def KV (l : Launch) (D : va_G) (cA : ClassId) (y : MethodName) (cc : ByteArray) (maxL : Nat) (fr lo : Nat) (As : List Value) (sz : Nat) (wc : va_W) {S : Type} (post : S → Prop) (w1 : S → va_W) : Prop :=
  Met l y (Cond.code y cc maxL none :: BG) (rm_ fr lo) (va_Pc As (PR D cA sz wc)) (va_Qv post (fun u t => WD D (va_A wc sz) (w1 u) t) (va_A wc sz)) 0 0 (va_A wc sz)
theorem KI.of {D : va_G} {cA : ClassId} {y : MethodName} {cc : ByteArray} {maxL : Nat} {ty : FieldType} {fr lo : Nat} {As : List Value} {sz : Nat} {wc : va_W} {S : Type} {post : Int32 → S → Prop} {w1 : S → va_W} (hy : plainName y.cls = true) (hlen : (lg_sl As).length ≤ maxL)
    (k : ∀ (p : Program) (e : Env) (s : State) (m : MethodId) (args : Array Value) (below : List Frame) (meth : Method) (c : Code) (Q : State → Prop) (R : Room) (A : Nat → Prop) (ls : Array Slot), CallFix p m c cc maxL s args BG y.cls → R = rm_ fr lo → (∀ q, s.heap.size ≤ q → A q) → va_S A s.heap s.heap [] → va_P D vwCl wc s.heap → va_D A wc → va_K D vwCl [(cA, .int)] s → NW s → lv_has ls maxL (lv_args 0 As) →
      (∀ {pc : Nat} {ls : Array Slot} {H : Heap} {locs : List Loc} {r : Int32} (u : S), decode cc pc = .ok (.ireturn, 1) → narrow ty (.int r) = .int r → post r u → va_P D vwCl (w1 u) H → va_D A (w1 u) → va_S A s.heap H locs → W p l e R s m args below meth c H locs 0 0 Q (F0 m pc ls [.int r])) →
      W p l e R s m args below meth c s.heap [] 0 0 Q (F0 m 0 ls [])) : KI l D cA y cc maxL ty fr lo As sz wc post w1 := by
  refine Met.ofW (cc := cc) (maxL := maxL) (ret := some ty) hy rfl ?_
  intro p e s m args below meth c s₁ B hml hv
  obtain ⟨rfl, hsz, hP, hK, hD0, hN⟩ := hv
  have hts := atoms_spec (ws := Cond.code y cc maxL (some ty) :: BG) B.pre
  subst hsz
  rw [lg_entry_eq]
  refine k p e s m _ below meth c _ _ (va_A wc s.heap.size) _ ⟨B.exec, B.bytes, hml, findClass_of_methodNamed B.named, fun w h => hts w (List.mem_cons_of_mem _ h)⟩ rfl (fun q h => Or.inr h) va_S.rf hP hD0.self hK hN (lv_entry As hlen) ?_
  intro pc ls H locs r u hd hn hpost hP1 hD1 hS1
  have hlocks := B.notSynchronized
  exact W.zret B.exec B.bytes B.returns hn (fun t ht hW => ⟨⟨r, u, rfl, hpost, by rw [ht]; exact hP1, hD1⟩, hS1.F ht⟩) hS1.2.2 hd
theorem KV.of {D : va_G} {cA : ClassId} {y : MethodName} {cc : ByteArray} {maxL : Nat} {fr lo : Nat} {As : List Value} {sz : Nat} {wc : va_W} {S : Type} {post : S → Prop} {w1 : S → va_W} (hy : plainName y.cls = true) (hlen : (lg_sl As).length ≤ maxL)
    (k : ∀ (p : Program) (e : Env) (s : State) (m : MethodId) (args : Array Value) (below : List Frame) (meth : Method) (c : Code) (Q : State → Prop) (R : Room) (A : Nat → Prop) (ls : Array Slot), CallFix p m c cc maxL s args BG y.cls → R = rm_ fr lo → (∀ q, s.heap.size ≤ q → A q) → va_S A s.heap s.heap [] → va_P D vwCl wc s.heap → va_D A wc → va_K D vwCl [(cA, .int)] s → NW s → lv_has ls maxL (lv_args 0 As) →
      (∀ {pc : Nat} {ls : Array Slot} {H : Heap} {locs : List Loc} (u : S), decode cc pc = .ok (.return_, 1) → post u → va_P D vwCl (w1 u) H → va_D A (w1 u) → va_S A s.heap H locs → W p l e R s m args below meth c H locs 0 0 Q (F0 m pc ls [])) →
      W p l e R s m args below meth c s.heap [] 0 0 Q (F0 m 0 ls [])) : KV l D cA y cc maxL fr lo As sz wc post w1 := by
  refine Met.ofW (cc := cc) (maxL := maxL) (ret := none) hy rfl ?_
  intro p e s m args below meth c s₁ B hml hv
  obtain ⟨rfl, hsz, hP, hK, hD0, hN⟩ := hv
  have hts := atoms_spec (ws := Cond.code y cc maxL none :: BG) B.pre
  subst hsz
  rw [lg_entry_eq]
  refine k p e s m _ below meth c _ _ (va_A wc s.heap.size) _ ⟨B.exec, B.bytes, hml, findClass_of_methodNamed B.named, fun w h => hts w (List.mem_cons_of_mem _ h)⟩ rfl (fun q h => Or.inr h) va_S.rf hP hD0.self hK hN (lv_entry As hlen) ?_
  intro pc ls H locs u hd hpost hP1 hD1 hS1
  have hlocks := B.notSynchronized
  exact W.vret B.exec B.bytes B.returns (fun t ht hW => ⟨⟨u, rfl, hpost, by rw [ht]; exact hP1, hD1⟩, hS1.F ht⟩) hS1.2.2 hd
-- calls
theorem fm_map {α β : Type} {f : α → Option β} : ∀ {xs : List α} {ys : List β}, xs.map f = ys.map some → xs.filterMap f = ys
  | [], ys, h => by cases ys with
    | nil => rfl
    | cons _ _ => simp at h
  | x :: xs, ys, h => by
    cases ys with
    | nil => simp at h
    | cons y ys =>
      rw [List.map_cons, List.map_cons] at h
      injection h with h1 h2
      rw [List.filterMap_cons, h1, fm_map h2]
section Calls
variable {D : va_G} {cA : ClassId} {y x : MethodName} {cy cc : ByteArray} {maxL nL fr lo n index pc : Nat} {ty : FieldType} {As rest st0 : List Value} {ws wc wr : va_W} {S : Type} {A0 : Nat → Prop} {H0 : Heap} {own host C : String} {ls : Array Slot} {b : Nat} {ret : Option FieldType} {Qc : Array Value → State → Outcome → State → Prop}
theorem pre_S (hP : va_P D vwCl ws H) (hD : va_D A0 ws) (hK : va_K D vwCl [(cA, .int)] s) (hN : NW s) (isC : List Nat) (hC : isC.map (fun i => ws[i]?) = wc.map some) (hnC : va_nd isC = true) : PreS s H (va_Pc As (PR D cA H.size wc)) As :=
  ⟨pr_blind, fun U hU hW => ⟨rfl, by rw [hU], by rw [hU]; exact hP.sub isC (fm_map hC), va_K.moved hW.alike hK, (hD.sub isC hnC hC).weaken (fun _ _ _ _ => trivial), NW.warm hW hN⟩⟩
theorem pre_V {q : vw_C} {fs : List Value} (hP : va_P D vwCl ws H) (hD : va_D A0 ws) (hK : va_K D vwCl [(cA, .int)] s) (hN : NW s) (isC : List Nat) (hC : isC.map (fun i => ws[i]?) = wc.map some) (hnC : va_nd isC = true) (q0 ci : Nat) (hc : vwCl[ci]? = some q) (he : ws[q0]? = some (b, .inr (ci, fs))) : PreV s H q.1 b (va_Pc (.ref b :: As) (PR D cA H.size wc)) As :=
  ⟨pr_blind, va_recv hK hP hc he, fun U hU hW => ⟨rfl, by rw [hU], by rw [hU]; exact hP.sub isC (fm_map hC), va_K.moved hW.alike hK, (hD.sub isC hnC hC).weaken (fun _ _ _ _ => trivial), NW.warm hW hN⟩⟩
theorem ca_i {post : Int32 → S → Prop} {w1 : S → va_W} {a : Array Value} (hr : va_Run p l e R s m args below meth c H locs 0 0 0 0 (F0 m pc ls st0) rest (va_Qi post (fun u t => WD D (va_A wc H.size) (w1 u) t) (va_A wc H.size) a) (va_A wc H.size)) (hP : va_P D vwCl ws H) (hD : va_D A0 ws) (hS : va_S A0 H0 H locs) (hA : ∀ q, H0.size ≤ q → A0 q)
    (isC isR : List Nat) (hC : isC.map (fun i => ws[i]?) = wc.map some) (hR : isR.map (fun i => ws[i]?) = wr.map some) (hn : va_nd isR = true) (hdis : ∀ i ∈ isR, i ∉ isC)
    (kk : ∀ (r : Int32) (u : S) (H1 : Heap) (locs1 : List Loc), post r u → va_P D vwCl (wr ++ w1 u) H1 → va_D A0 (wr ++ w1 u) → va_S A0 H0 H1 locs1 → W p l e R s m args below meth c H1 locs1 0 0 Q (F0 m (pc + 3) ls (.int r :: rest))) : W p l e R s m args below meth c H locs 0 0 Q (F0 m pc ls st0) := by
  have hF := va_free hD hS hA isC hC
  refine va_calli hr hS (fun q _ h => hF q h) hF (fun r u t H1 locs1 ht hvm hpost hB hz1 hk1 hS1 => ?_)
  obtain ⟨hP1, hD1⟩ := hB
  rw [ht] at hP1
  obtain ⟨hP2, hD2⟩ := va_join hP hD isC isR hC hR hn hdis hk1 hF hP1 hD1
  exact kk r u H1 locs1 hpost hP2 hD2 hS1
theorem ca_v {post : S → Prop} {w1 : S → va_W} {a : Array Value} (hr : va_Run p l e R s m args below meth c H locs 0 0 0 0 (F0 m pc ls st0) rest (va_Qv post (fun u t => WD D (va_A wc H.size) (w1 u) t) (va_A wc H.size) a) (va_A wc H.size)) (hP : va_P D vwCl ws H) (hD : va_D A0 ws) (hS : va_S A0 H0 H locs) (hA : ∀ q, H0.size ≤ q → A0 q)
    (isC isR : List Nat) (hC : isC.map (fun i => ws[i]?) = wc.map some) (hR : isR.map (fun i => ws[i]?) = wr.map some) (hn : va_nd isR = true) (hdis : ∀ i ∈ isR, i ∉ isC)
    (kk : ∀ (u : S) (H1 : Heap) (locs1 : List Loc), post u → va_P D vwCl (wr ++ w1 u) H1 → va_D A0 (wr ++ w1 u) → va_S A0 H0 H1 locs1 → W p l e R s m args below meth c H1 locs1 0 0 Q (F0 m (pc + 3) ls rest)) : W p l e R s m args below meth c H locs 0 0 Q (F0 m pc ls st0) := by
  have hF := va_free hD hS hA isC hC
  refine va_callv hr hS (fun q _ h => hF q h) hF (fun u t H1 locs1 ht hvm hpost hB hz1 hk1 hS1 => ?_)
  obtain ⟨hP1, hD1⟩ := hB
  rw [ht] at hP1
  obtain ⟨hP2, hD2⟩ := va_join hP hD isC isR hC hR hn hdis hk1 hF hP1 hD1
  exact kk u H1 locs1 hpost hP2 hD2 hS1
-- words of a call
theorem cb_of (n : Nat) (hw : ∀ w ∈ BG, w.before args s = true) (hc : Cond.code y cy maxL ret ∈ BG) (hini : Cond.initialized y.cls ∈ BG) (hl : Cond.methodLink own index y ∈ BG) (hd : y.cls ≠ "java/lang/invoke/MethodHandle" ∧ y.cls ≠ "java/lang/invoke/VarHandle" ∧ (parseMethodDescriptor y.desc).map (fun d => d.parameters.length) = some n) (hR : fr + 1 ≤ R.frames ∧ 8 + (maxL + 11) + lo ≤ R.locals) : CallB R s args own index y cy maxL ret (Cond.code y cy maxL ret :: BG) (rm_ fr lo) 0 0 n :=
  callB_of n hw (bg_in hc) rfl rfl rfl (hw _ hini) (hw _ hl) hd hR
theorem cn_of (n : Nat) (hw : ∀ w ∈ BG, w.before args s = true) (hN : NW s) (hc : Cond.code y cy maxL ret ∈ BG) (hini : Cond.initialized y.cls ∈ BG) (hl : Cond.methodLinkNest own index y host ∈ NWL) (hd : y.cls ≠ "java/lang/invoke/MethodHandle" ∧ y.cls ≠ "java/lang/invoke/VarHandle" ∧ (parseMethodDescriptor y.desc).map (fun d => d.parameters.length) = some n) (hR : fr + 1 ≤ R.frames ∧ 8 + (maxL + 11) + lo ≤ R.locals) : va_CN R s args own index y host cy maxL ret (Cond.code y cy maxL ret :: BG) (rm_ fr lo) 0 0 n :=
  va_cnB n hw (bg_in hc) rfl rfl rfl (hN _ hl) (hw _ hini) hd hR
end Calls
end MyBase
