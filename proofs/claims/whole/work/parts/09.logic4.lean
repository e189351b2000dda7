/-! ===== methods, calls ===== -/
def ov (L : aA) (v v' : Option Value) : Prop := match v with
  | none => v' = none
  | some u => ∃ u', mv L u = some u' ∧ v' = some u'
def PM (D : va_G) (cA : Nat → ClassId) (L : aA) (ws : va_W) (sz : Nat) (Q : Option Value → aS → Prop) : State → Outcome → State → Prop := fun st oc t =>
  (∃ (v v' : Option Value) (S' : aS) (M : List Nat) (ws' : va_W), oc = .returned v' ∧ Q v S' ∧ ov (L.1, L.2 ++ M) v v' ∧ rel cA (L.1, L.2 ++ M) S' ws' ∧ va_P D vwCl ws' t.heap ∧ va_D (va_A ws sz) ws') ∧ va_F (va_A ws sz) st t
abbrev rmOf (d b : Nat) : Room := { frames := d, cells := b, slots := 300 * b, locals := 60 * d }
abbrev wsOf (mi : MI) : List Cond := Cond.code mi.1 mi.2.1 mi.2.2.1 mi.2.2.2 :: BIG
def pcOf (D : va_G) (cA : Nat → ClassId) (ws : va_W) (as : List Value) (sz : Nat) : Array Value → State → Prop := va_Pc as (fun U => U.heap.size = sz ∧ va_P D vwCl ws U.heap ∧ va_D (fun _ => True) ws ∧ EX D cA U)
/-- A METHOD'S RUN: called with as over the store S it comes back with Q; d calls deep at most, b cells more at most -/
def Mth (mi : MI) (d b : Nat) (as : List Value) (S : aS) (Q : Option Value → aS → Prop) : Prop :=
  ∀ (l : Launch) (D : va_G) (cA : Nat → ClassId) (L : aA) (ws : va_W) (as' : List Value) (sz : Nat), rel cA L S ws → sr L as as' →
    Met l mi.1 (wsOf mi) (rmOf d b) (pcOf D cA ws as' sz) (fun _ => PM D cA L ws sz Q) b (300 * b) (va_A ws sz)
theorem Mth.mono {mi : MI} {d b : Nat} {as : List Value} {S : aS} {Q Q2 : Option Value → aS → Prop} (h : ∀ v S2, Q v S2 → Q2 v S2) (k : Mth mi d b as S Q) : Mth mi d b as S Q2 := by
  intro l D cA L ws as' sz h1 h2 p e ha hc hk s m args below hf hfit hheap hT
  obtain ⟨t, o, z1, z2, z3, ⟨⟨⟨v, v', S', M, ws', q1, q2, q3⟩, q4⟩, q5⟩⟩ := k l D cA L ws as' sz h1 h2 p e ha hc hk s m args below hf hfit hheap hT
  exact ⟨t, o, z1, z2, z3, ⟨⟨⟨v, v', S', M, ws', q1, h _ _ q2, q3⟩, q4⟩, q5⟩⟩
theorem Mth_of {mi : MI} {d b : Nat} {as : List Value} {S : aS} {Q : Option Value → aS → Prop} {la : aL} (hy : plainName mi.1.cls = true) (ha : aini as mi.2.2.1 = some la) (k : Ev none mi d b 0 la [] S Q) : Mth mi d b as S Q := by
  intro l D cA L ws as' sz hrel hsr
  refine Met.ofW (cc := mi.2.1) (maxL := mi.2.2.1) (ret := mi.2.2.2) hy rfl ?_
  intro p e s m args below meth c s₁ B hml hv
  obtain ⟨rfl, hsz, hP, hD0, hEX⟩ := hv
  have hts := atoms_spec (ws := wsOf mi) B.pre
  have hown : s.vm.findClass mi.1.cls = some m.cls := findClass_of_methodNamed B.named
  have hlocks := B.notSynchronized
  subst hsz
  have hD := hD0.self (sz := s.heap.size)
  obtain ⟨a1, a2, a3⟩ := aini_ok as as' mi.2.2.1 0 la hsr ha
  have hl := lv_entry as' (n := mi.2.2.1) a2
  rw [lg_entry_eq]
  refine k p l e _ s m as'.toArray below meth c D cA (va_A ws s.heap.size) L ws s.heap [] 0 0 _ _ [] ⟨B.exec, B.bytes, B.returns, hml, hown, fun w hw => hts w (List.mem_cons_of_mem _ hw), hlocks, (name_of_methodNamed B.named B.method).1, hEX, Nat.le_refl _, Nat.le_refl _⟩ (fun n xs h => by cases h) ⟨hrel, hP, hD, va_S.rf, fun q h => Or.inr h⟩ ⟨a1, _, hl, fun i v hv => ?_⟩ rfl (by show 0 + b ≤ b; omega) (by show 0 + 300 * b ≤ 300 * b; omega) ?_
  · obtain ⟨v', z1, z2⟩ := a3 i v hv
    exact ⟨v', z1, by rw [Nat.zero_add] at z2; exact z2⟩
  · intro v S' M ws' H' locs' cells' slots' g hQ hW hc hq hR
    refine W.widen (k := b) (n := 300 * b) hc hq ?_
    obtain ⟨pc, ls, hR⟩ := hR
    rcases hR with ⟨x, ty, rfl, r1, r2, r3, rfl⟩ | ⟨x, rfl, r1, r3, rfl⟩ | ⟨u, u', n, rfl, r0, r1, r2, r3, rfl⟩ | ⟨rfl, r1, r3, rfl⟩
    · exact W.zret (v := x) (ty := ty) B.exec B.bytes (B.returns.trans r1) r2 (fun t ht _ => ⟨⟨_, _, S', M, ws', rfl, hQ, ⟨_, rfl, rfl⟩, hW.1, by rw [ht]; exact hW.2.1, hW.2.2.1⟩, hW.2.2.2.1.F ht⟩) hW.2.2.2.1.2.2 r3
    · exact W.lret (v := x) B.exec B.bytes (B.returns.trans r1) (fun t ht _ => ⟨⟨_, _, S', M, ws', rfl, hQ, ⟨_, rfl, rfl⟩, hW.1, by rw [ht]; exact hW.2.1, hW.2.2.1⟩, hW.2.2.2.1.F ht⟩) hW.2.2.2.1.2.2 r3
    · exact W.aret (v := u') (rt := .object n) B.exec B.bytes (B.returns.trans r2) (Or.inl ⟨n, rfl⟩) r1 (fun t ht _ => ⟨⟨_, _, S', M, ws', rfl, hQ, ⟨_, r0, rfl⟩, hW.1, by rw [ht]; exact hW.2.1, hW.2.2.1⟩, hW.2.2.2.1.F ht⟩) hW.2.2.2.1.2.2 r3
    · exact W.vret B.exec B.bytes (B.returns.trans r1) (fun t ht _ => ⟨⟨_, _, S', M, ws', rfl, hQ, rfl, hW.1, by rw [ht]; exact hW.2.1, hW.2.2.1⟩, hW.2.2.2.1.F ht⟩) hW.2.2.2.1.2.2 r3
/-- behind a call -/
theorem Ev_go {X : Option (Nat × (Nat → Int32))} {mi : MI} {d b bc pc : Nat} {la : aL} {rest : List Value} {S : aS} {Q Q1 : Option Value → aS → Prop} (k : ∀ v S2, Q1 v S2 → Ev X mi d b (pc + 3) la (pu v rest) S2 Q)
    {p : Program} {l : Launch} {e : Env} {R : Room} {s : State} {m : MethodId} {args : Array Value} {below : List Frame} {meth : Method} {c : Code} {D : va_G} {cA : Nat → ClassId} {A : Nat → Prop} {L : aA} {ws : va_W} {H : Heap} {locs : List Loc} {cells slots : Nat} {Qf : State → Prop} {ls : Array Slot} {st' rest' : List Value}
    (hC : Cx mi d p R s m args meth c D cA) (hX : xr X L A s) (hW : Wd D cA A s L S ws H locs) (hl : lr L la ls mi.2.2.1) (hs : sr L rest rest') (hc : cells + (bc + b) ≤ R.cells) (hq : slots + 300 * (bc + b) ≤ R.slots) (hK : Kn mi p l e R s m args below meth c D cA A L Q Qf)
    (hr : va_Run p l e R s m args below meth c H locs cells slots bc (300 * bc) (F0 m pc ls st') rest' (PM D cA L ws H.size Q1) (va_A ws H.size)) :
    W p l e R s m args below meth c H locs cells slots Qf (F0 m pc ls st') := by
  intro T hT XT
  obtain ⟨v0, st₀, t, T', Lc, h0, X', hL, e1, e2, ⟨⟨v, v', S', M, ws', hv, hQ, hov, hrel, hP1, hD1⟩, hz, hk⟩, stp⟩ := hr T hT XT
  cases hv
  rw [h0] at hz hk
  have hA1 : ∀ q, va_A ws H.size q → A q := by
    intro q hq1
    rcases hq1 with ⟨i, e9, h9⟩ | h9
    · exact hW.2.2.1.2 i (q, e9) h9
    · exact hW.2.2.2.2 q (Nat.le_trans hW.2.2.2.1.1 h9)
  have hS := hW.2.2.2.1
  have hst : sr (L.1, L.2 ++ M) (pu v rest) (v0.toList ++ rest') := by
    cases v with
    | none => rw [show v0 = none from hov]; exact sr_ex hs
    | some u =>
      obtain ⟨u', z1, z2⟩ := hov
      rw [z2]
      exact sr_push z1 (sr_ex hs)
  obtain ⟨t2, b1, b2⟩ := k v S' hQ p l e R s m args below meth c D cA A (L.1, L.2 ++ M) ws' T'.heap (locs ++ Lc) (cells + bc) (slots + 300 * bc) Qf ls _ hC hX
    ⟨hrel, by rw [e1]; exact hP1, hD1.weaken (fun _ q _ h => hA1 q.1 h), ⟨Nat.le_trans hS.1 (by rw [e1]; exact hz), fun q h1 h2 => by rw [e1, hk q (Nat.lt_of_lt_of_le h1 hS.1) (fun z => h2 (hA1 q z))]; exact hS.2.1 q h1 h2, fun q hq9 => by
      rcases List.mem_append.mp hq9 with h | h
      · exact hS.2.2 q h
      · exact hA1 _ (hL q h)⟩, hW.2.2.2.2⟩ (lr_ex hl) hst (by omega) (by omega) (hK.ex M) T' rfl X'
  exact ⟨t2, stp t2 b1, b2⟩
theorem pc_blind {D : va_G} {cA : Nat → ClassId} {ws : va_W} {as : List Value} {sz : Nat} : FrameBlind (pcOf D cA ws as sz) := by
  intro a U g mk h
  obtain ⟨q0, q1, qP, qD, qE⟩ := h
  exact ⟨q0, q1, qP, qD, EX.same (s := U) (U := U.calling g mk a) rfl qE⟩
theorem pc_at {D : va_G} {cA : Nat → ClassId} {A : Nat → Prop} {s : State} {L : aA} {S : aS} {ws : va_W} {H : Heap} {locs : List Loc} {as : List Value} (hW : Wd D cA A s L S ws H locs) (hE : EX D cA s) {U : State} (hU : U.heap = H) (hw : s.WarmedH U.vm) : pcOf D cA ws as H.size as.toArray U :=
  ⟨rfl, by rw [hU], by rw [hU]; exact hW.2.1, hW.2.2.1.weaken (fun _ _ _ _ => trivial), hE.warm hw⟩
/-- what any call of mj asks: its own words -/
def CK (mj : MI) : Prop := Cond.code mj.1 mj.2.1 mj.2.2.1 mj.2.2.2 ∈ BIG ∧ Cond.initialized mj.1.cls ∈ BIG ∧ mj.2.2.1 ≤ 41 ∧ (mj.1.cls ≠ "java/lang/invoke/MethodHandle" ∧ mj.1.cls ≠ "java/lang/invoke/VarHandle")
theorem good_ws {mj : MI} (h : CK mj) : GoodIn BIG (wsOf mj) := fun w hw => by
  rcases List.mem_cons.mp hw with rfl | hw
  · exact big_good _ h.1
  · exact big_good _ hw
/-- a call of an object's method by its class' own name -/
def CV (own : String) (idx ci n : Nat) (mj : MI) : Prop := CK mj ∧ ∃ (C : String) (T : u_T) (N : Nat), vwCl[ci]? = some (C, T, N) ∧ mj.1.cls = C ∧ Cond.methodLink own idx mj.1 ∈ BIG ∧ Cond.instanceMethod mj.1 ∈ BIG ∧ Cond.selects C mj.1 mj.1 ∈ BIG ∧ (parseMethodDescriptor mj.1.desc).map (fun d => d.parameters.length) = some n
/-- a call that the object's class selects -/
def CO (own : String) (idx ci n : Nat) (mj : MI) : Prop := CK mj ∧ ∃ (C : String) (T : u_T) (N : Nat) (owner : String) (x : MethodName) (b0 : ByteArray) (m0 : Nat) (r0 : Option FieldType), vwCl[ci]? = some (C, T, N) ∧ Cond.methodLink own idx x ∈ BIG ∧ Cond.sameMethod x.cls owner x.name x.desc ∈ BIG ∧ Cond.instanceMethod ⟨owner, x.name, x.desc⟩ ∈ BIG ∧ Cond.code ⟨owner, x.name, x.desc⟩ b0 m0 r0 ∈ BIG ∧ Cond.selects C x mj.1 ∈ BIG ∧ Cond.instanceMethod mj.1 ∈ BIG ∧ (owner ≠ "java/lang/invoke/MethodHandle" ∧ owner ≠ "java/lang/invoke/VarHandle") ∧ (parseMethodDescriptor x.desc).map (fun d => d.parameters.length) = some n
/-- a call of a static method -/
def CS (own : String) (idx n : Nat) (mj : MI) : Prop := CK mj ∧ (Cond.methodLink own idx mj.1 ∈ BIG ∨ ∃ host, (own, idx, mj.1, host) ∈ aNE) ∧ Cond.static mj.1 ∈ BIG ∧ (parseMethodDescriptor mj.1.desc).map (fun d => d.parameters.length) = some n
/-- a call of a constructor -/
def CI (own : String) (idx n : Nat) (mj : MI) : Prop := CK mj ∧ (Cond.methodLink own idx mj.1 ∈ BIG ∨ ∃ host, (own, idx, mj.1, host) ∈ aNE) ∧ Cond.instanceMethod mj.1 ∈ BIG ∧ mj.1.name = "<init>" ∧ mj.2.2.2 = none ∧ (parseMethodDescriptor mj.1.desc).map (fun d => d.parameters.length) = some n
/-- a call of the super class' method -/
def CU (own : String) (idx n : Nat) (mj : MI) : Prop := CK mj ∧ Cond.methodLink own idx mj.1 ∈ BIG ∧ Cond.sameMethod mj.1.cls mj.1.cls mj.1.name mj.1.desc ∈ BIG ∧ Cond.superclass own mj.1.cls ∈ BIG ∧ Cond.instanceMethod mj.1 ∈ BIG ∧ mj.1.name ≠ "<init>" ∧ (parseMethodDescriptor mj.1.desc).map (fun d => d.parameters.length) = some n
theorem len_of {x : MethodName} {n : Nat} (h : (parseMethodDescriptor x.desc).map (fun d => d.parameters.length) = some n) : ∀ sig, parseMethodDescriptor x.desc = some sig → n = sig.parameters.length := by
  intro sig h2
  rw [h2] at h
  exact (Option.some.inj h).symm
theorem pay_big {s : State} {args : Array Value} {mj : MI} (hts : ∀ w ∈ BIG, w.before args s = true) (h : CK mj) : ∀ w ∈ wsOf mj, ∀ (a' : Array Value) (U : State), s.WarmedH U.vm → w.before a' U = true := pay_in hts (good_ws h)
section EVC
variable {X : Option (Nat × (Nat → Int32))} {mi mj : MI} {d b bc B pc pc2 n idx : Nat} {la : aL} {stk As rest : List Value} {S : aS} {Q : Option Value → aS → Prop}

theorem Ev_callV {a ci : Nat} {fs : List Value} (hd : nx mi.2.1 pc (.invokevirtual idx) 3 pc2) (hcv : CV mi.1.cls idx ci n mj) (hp : pops (n + 1) stk [] = some (.ref a :: As, rest)) (ho : S[a]? = some (.inr (ci, fs))) (h8 : (rest.map fun v => v.category).sum ≤ 8) (hb : bc + b ≤ B) (k : Mth mj d bc (.ref a :: As) S (fun v S2 => Ev X mi (d + 1) b pc2 la (pu v rest) S2 Q)) : Ev X mi (d + 1) B pc la stk S Q := by
  intro p l e R s m args below meth c D cA A L ws H locs cells slots Qf ls st' hC hX hW hl hs hc hq hK
  obtain ⟨hd, rfl⟩ := hd
  have hts := hC.2.2.2.2.2.1
  have hfr := hC.2.2.2.2.2.2.2.2.2.1
  have hlo := hC.2.2.2.2.2.2.2.2.2.2
  have hEX := hC.2.2.2.2.2.2.2.2.1
  obtain ⟨h0l, lc, hl1, hl2⟩ := id hl
  obtain ⟨as2, e1, e2, rfl⟩ := pops_ok _ _ _ _ _ hp
  rw [List.append_nil] at e1
  subst e1
  rw [List.reverse_cons, List.append_assoc] at hs
  obtain ⟨As', r0, rfl, hsA, hs0⟩ := sr_app hs
  obtain ⟨a1, r1, rfl, hax, hs1⟩ := sr_ref hs0
  have hA2 := sr_rev hsA
  rw [List.reverse_reverse] at hA2
  have hsk : As' ++ Value.ref a1 :: r1 = As'.reverse.reverse ++ Value.ref a1 :: r1 := by rw [List.reverse_reverse]
  have hln : As'.reverse.length = n := by rw [sr_len hA2]; simp at e2; exact e2
  have h8' : 2 * (F0 m pc ls (As' ++ Value.ref a1 :: r1)).monitorRoom + (r1.map fun v => v.category).sum ≤ 8 := lv_room (by rw [sr_cat hs1]; exact h8)
  obtain ⟨ck, C, T, N, c1, c2, c3, c4, c5, c6⟩ := hcv
  obtain ⟨a2, e', g1, g2, g3⟩ := rel_get hW.1 ho
  cases hax.symm.trans g3
  obtain ⟨fs', rfl, g4⟩ := g2
  have hrc := va_recv hEX.1 hW.2.1 c1 g1
  refine Ev_go (bc := bc) (b := b) (fun _ _ h => h) hC hX hW hl hs1 (by omega) (by omega) hK ?_
  exact va_runV (C := C) (bytes := mj.2.1) (maxL := mj.2.2.1) (ret := mj.2.2.2) (b := a1) ⟨hC.1, hC.2.1, hC.2.2.2.1, hC.2.2.2.2.1, hts⟩ (k l D cA L ws (Value.ref a1 :: As'.reverse) H.size hW.1 (sr_push (by simp only [mv, hax, Option.map_some]) hA2)) ⟨⟨rfl, rfl, by show d + 1 ≤ R.frames; omega, by show 8 + (mj.2.2.1 + 11) + 60 * d ≤ R.locals; have := ck.2.2.1; omega, pay_big hts ck, List.mem_cons_self, hts _ ck.1, hts _ ck.2.1, ck.2.2.2, len_of c6, hts _ c3⟩, hts _ c4, hts _ c5⟩ ⟨pc_blind, hrc, fun U hU hw => pc_at hW hEX hU hw⟩ rfl hln hl1.1 hsk h8' hd (by show cells + bc ≤ R.cells ∧ slots + 300 * bc ≤ R.slots; omega)
theorem Ev_callO {a ci : Nat} {fs : List Value} (hd : nx mi.2.1 pc (.invokevirtual idx) 3 pc2) (hcv : CO mi.1.cls idx ci n mj) (hp : pops (n + 1) stk [] = some (.ref a :: As, rest)) (ho : S[a]? = some (.inr (ci, fs))) (h8 : (rest.map fun v => v.category).sum ≤ 8) (hb : bc + b ≤ B) (k : Mth mj d bc (.ref a :: As) S (fun v S2 => Ev X mi (d + 1) b pc2 la (pu v rest) S2 Q)) : Ev X mi (d + 1) B pc la stk S Q := by
  intro p l e R s m args below meth c D cA A L ws H locs cells slots Qf ls st' hC hX hW hl hs hc hq hK
  obtain ⟨hd, rfl⟩ := hd
  have hts := hC.2.2.2.2.2.1
  have hfr := hC.2.2.2.2.2.2.2.2.2.1
  have hlo := hC.2.2.2.2.2.2.2.2.2.2
  have hEX := hC.2.2.2.2.2.2.2.2.1
  obtain ⟨h0l, lc, hl1, hl2⟩ := id hl
  obtain ⟨as2, e1, e2, rfl⟩ := pops_ok _ _ _ _ _ hp
  rw [List.append_nil] at e1
  subst e1
  rw [List.reverse_cons, List.append_assoc] at hs
  obtain ⟨As', r0, rfl, hsA, hs0⟩ := sr_app hs
  obtain ⟨a1, r1, rfl, hax, hs1⟩ := sr_ref hs0
  have hA2 := sr_rev hsA
  rw [List.reverse_reverse] at hA2
  have hsk : As' ++ Value.ref a1 :: r1 = As'.reverse.reverse ++ Value.ref a1 :: r1 := by rw [List.reverse_reverse]
  have hln : As'.reverse.length = n := by rw [sr_len hA2]; simp at e2; exact e2
  have h8' : 2 * (F0 m pc ls (As' ++ Value.ref a1 :: r1)).monitorRoom + (r1.map fun v => v.category).sum ≤ 8 := lv_room (by rw [sr_cat hs1]; exact h8)
  obtain ⟨ck, C, T, N, owner, x, b0, m0, r0, c1, c2, c3, c4, c5, c6, c7, c8, c9⟩ := hcv
  obtain ⟨a2, e', g1, g2, g3⟩ := rel_get hW.1 ho
  cases hax.symm.trans g3
  obtain ⟨fs', rfl, g4⟩ := g2
  have hrc := va_recv hEX.1 hW.2.1 c1 g1
  refine Ev_go (bc := bc) (b := b) (fun _ _ h => h) hC hX hW hl hs1 (by omega) (by omega) hK ?_
  exact va_runU (C := C) (owner := owner) (x := x) (bytes := mj.2.1) (maxL := mj.2.2.1) (ret := mj.2.2.2) (b := a1) ⟨hC.1, hC.2.1, hC.2.2.2.1, hC.2.2.2.2.1, hts⟩ (k l D cA L ws (Value.ref a1 :: As'.reverse) H.size hW.1 (sr_push (by simp only [mv, hax, Option.map_some]) hA2)) ⟨⟨rfl, rfl, by show d + 1 ≤ R.frames; omega, by show 8 + (mj.2.2.1 + 11) + 60 * d ≤ R.locals; have := ck.2.2.1; omega, pay_big hts ck, List.mem_cons_self⟩, hts _ ck.1, hts _ ck.2.1, c8, len_of c9, hts _ c2, hts _ c3, va_Decl.of (hts _ c4) (hts _ c5), hts _ c6, hts _ c7⟩ ⟨pc_blind, hrc, fun U hU hw => pc_at hW hEX hU hw⟩ rfl hln hl1.1 hsk h8' hd (by show cells + bc ≤ R.cells ∧ slots + 300 * bc ≤ R.slots; omega)
theorem Ev_callU {a ci : Nat} {fs : List Value} (hd : nx mi.2.1 pc (.invokespecial idx) 3 pc2) (hcv : CU mi.1.cls idx n mj) (hp : pops (n + 1) stk [] = some (.ref a :: As, rest)) (ho : S[a]? = some (.inr (ci, fs))) (hci : ci < 13) (h8 : (rest.map fun v => v.category).sum ≤ 8) (hb : bc + b ≤ B) (k : Mth mj d bc (.ref a :: As) S (fun v S2 => Ev X mi (d + 1) b pc2 la (pu v rest) S2 Q)) : Ev X mi (d + 1) B pc la stk S Q := by
  intro p l e R s m args below meth c D cA A L ws H locs cells slots Qf ls st' hC hX hW hl hs hc hq hK
  obtain ⟨hd, rfl⟩ := hd
  have hts := hC.2.2.2.2.2.1
  have hfr := hC.2.2.2.2.2.2.2.2.2.1
  have hlo := hC.2.2.2.2.2.2.2.2.2.2
  have hEX := hC.2.2.2.2.2.2.2.2.1
  obtain ⟨h0l, lc, hl1, hl2⟩ := id hl
  obtain ⟨as2, e1, e2, rfl⟩ := pops_ok _ _ _ _ _ hp
  rw [List.append_nil] at e1
  subst e1
  rw [List.reverse_cons, List.append_assoc] at hs
  obtain ⟨As', r0, rfl, hsA, hs0⟩ := sr_app hs
  obtain ⟨a1, r1, rfl, hax, hs1⟩ := sr_ref hs0
  have hA2 := sr_rev hsA
  rw [List.reverse_reverse] at hA2
  have hsk : As' ++ Value.ref a1 :: r1 = As'.reverse.reverse ++ Value.ref a1 :: r1 := by rw [List.reverse_reverse]
  have hln : As'.reverse.length = n := by rw [sr_len hA2]; simp at e2; exact e2
  have h8' : 2 * (F0 m pc ls (As' ++ Value.ref a1 :: r1)).monitorRoom + (r1.map fun v => v.category).sum ≤ 8 := lv_room (by rw [sr_cat hs1]; exact h8)
  obtain ⟨ck, c1, c2, c3, c4, c5, c6⟩ := hcv
  obtain ⟨a2, e', g1, g2, g3⟩ := rel_get hW.1 ho
  cases hax.symm.trans g3
  obtain ⟨fs', rfl, g4⟩ := g2
  obtain ⟨⟨C, T, N⟩, hcl⟩ : ∃ z, vwCl[ci]? = some z := ⟨_, List.getElem?_eq_getElem hci⟩
  have hrc := va_recv hEX.1 hW.2.1 hcl g1
  refine Ev_go (bc := bc) (b := b) (fun _ _ h => h) hC hX hW hl hs1 (by omega) (by omega) hK ?_
  exact va_runSU (C := C) (hEX.1.1 ci _ hcl).2 (bytes := mj.2.1) (maxL := mj.2.2.1) (ret := mj.2.2.2) (b := a1) ⟨hC.1, hC.2.1, hC.2.2.2.1, hC.2.2.2.2.1, hts⟩ (k l D cA L ws (Value.ref a1 :: As'.reverse) H.size hW.1 (sr_push (by simp only [mv, hax, Option.map_some]) hA2)) ⟨⟨rfl, rfl, by show d + 1 ≤ R.frames; omega, by show 8 + (mj.2.2.1 + 11) + 60 * d ≤ R.locals; have := ck.2.2.1; omega, pay_big hts ck, List.mem_cons_self⟩, hts _ c1, hts _ c2, hts _ c3, hts _ c4, hts _ ck.2.1, hts _ ck.1, c5, len_of c6⟩ ⟨pc_blind, hrc, fun U hU hw => pc_at hW hEX hU hw⟩ rfl hln hl1.1 hsk h8' hd (by show cells + bc ≤ R.cells ∧ slots + 300 * bc ≤ R.slots; omega)
theorem Ev_callS (hd : nx mi.2.1 pc (.invokestatic idx) 3 pc2) (hcv : CS mi.1.cls idx n mj) (hp : pops n stk [] = some (As, rest)) (h8 : (rest.map fun v => v.category).sum ≤ 8) (hb : bc + b ≤ B) (k : Mth mj d bc As S (fun v S2 => Ev X mi (d + 1) b pc2 la (pu v rest) S2 Q)) : Ev X mi (d + 1) B pc la stk S Q := by
  intro p l e R s m args below meth c D cA A L ws H locs cells slots Qf ls st' hC hX hW hl hs hc hq hK
  obtain ⟨hd, rfl⟩ := hd
  have hts := hC.2.2.2.2.2.1
  have hfr := hC.2.2.2.2.2.2.2.2.2.1
  have hlo := hC.2.2.2.2.2.2.2.2.2.2
  have hEX := hC.2.2.2.2.2.2.2.2.1
  obtain ⟨h0l, lc, hl1, hl2⟩ := id hl
  obtain ⟨as2, e1, e2, rfl⟩ := pops_ok _ _ _ _ _ hp
  rw [List.append_nil] at e1
  subst e1
  obtain ⟨As', r1, rfl, hsA, hs1⟩ := sr_app hs
  have hA2 := sr_rev hsA
  rw [List.reverse_reverse] at hA2
  have hsk : As' ++ r1 = As'.reverse.reverse ++ r1 := by rw [List.reverse_reverse]
  have hln : As'.reverse.length = n := by rw [sr_len hA2]; exact e2
  have h8' : 2 * (F0 m pc ls (As' ++ r1)).monitorRoom + (r1.map fun v => v.category).sum ≤ 8 := lv_room (by rw [sr_cat hs1]; exact h8)
  obtain ⟨ck, c1, c2, c6⟩ := hcv
  refine Ev_go (bc := bc) (b := b) (fun _ _ h => h) hC hX hW hl hs1 (by omega) (by omega) hK ?_
  rcases c1 with c3 | ⟨host, c3⟩
  · exact va_runS (bytes := mj.2.1) (maxL := mj.2.2.1) (ret := mj.2.2.2) ⟨hC.1, hC.2.1, hC.2.2.2.1, hC.2.2.2.2.1, hts⟩ (k l D cA L ws (As'.reverse) H.size hW.1 hA2) ⟨⟨rfl, rfl, by show d + 1 ≤ R.frames; omega, by show 8 + (mj.2.2.1 + 11) + 60 * d ≤ R.locals; have := ck.2.2.1; omega, pay_big hts ck, List.mem_cons_self, hts _ ck.1, hts _ ck.2.1, ck.2.2.2, len_of c6, hts _ c3⟩, hts _ c2⟩ ⟨pc_blind, fun U hU hw => pc_at hW hEX hU hw⟩ rfl hln hl1.1 hsk h8' hd (by show cells + bc ≤ R.cells ∧ slots + 300 * bc ≤ R.slots; omega)
  · exact va_runSN (host := host) (bytes := mj.2.1) (maxL := mj.2.2.1) (ret := mj.2.2.2) ⟨hC.1, hC.2.1, hC.2.2.2.1, hC.2.2.2.2.1, hts⟩ (k l D cA L ws (As'.reverse) H.size hW.1 hA2) ⟨⟨⟨rfl, rfl, by show d + 1 ≤ R.frames; omega, by show 8 + (mj.2.2.1 + 11) + 60 * d ≤ R.locals; have := ck.2.2.1; omega, pay_big hts ck, List.mem_cons_self⟩, hts _ ck.1, hts _ ck.2.1, ck.2.2.2, len_of c6, va_Nw.use rfl (hEX.2.2.2.2 _ c3)⟩, hts _ c2, trivial⟩ ⟨pc_blind, fun U hU hw => pc_at hW hEX hU hw⟩ rfl hln hl1.1 hsk h8' hd (by show cells + bc ≤ R.cells ∧ slots + 300 * bc ≤ R.slots; omega)
theorem Ev_callI {a : Nat} (hd : nx mi.2.1 pc (.invokespecial idx) 3 pc2) (hcv : CI mi.1.cls idx n mj) (hp : pops (n + 1) stk [] = some (.ref a :: As, rest)) (h8 : (rest.map fun v => v.category).sum ≤ 8) (hb : bc + b ≤ B) (k : Mth mj d bc (.ref a :: As) S (fun v S2 => Ev X mi (d + 1) b pc2 la (pu v rest) S2 Q)) : Ev X mi (d + 1) B pc la stk S Q := by
  intro p l e R s m args below meth c D cA A L ws H locs cells slots Qf ls st' hC hX hW hl hs hc hq hK
  obtain ⟨hd, rfl⟩ := hd
  have hts := hC.2.2.2.2.2.1
  have hfr := hC.2.2.2.2.2.2.2.2.2.1
  have hlo := hC.2.2.2.2.2.2.2.2.2.2
  have hEX := hC.2.2.2.2.2.2.2.2.1
  obtain ⟨h0l, lc, hl1, hl2⟩ := id hl
  obtain ⟨as2, e1, e2, rfl⟩ := pops_ok _ _ _ _ _ hp
  rw [List.append_nil] at e1
  subst e1
  rw [List.reverse_cons, List.append_assoc] at hs
  obtain ⟨As', r0, rfl, hsA, hs0⟩ := sr_app hs
  obtain ⟨a1, r1, rfl, hax, hs1⟩ := sr_ref hs0
  have hA2 := sr_rev hsA
  rw [List.reverse_reverse] at hA2
  have hsk : As' ++ Value.ref a1 :: r1 = As'.reverse.reverse ++ Value.ref a1 :: r1 := by rw [List.reverse_reverse]
  have hln : As'.reverse.length = n := by rw [sr_len hA2]; simp at e2; exact e2
  have h8' : 2 * (F0 m pc ls (As' ++ Value.ref a1 :: r1)).monitorRoom + (r1.map fun v => v.category).sum ≤ 8 := lv_room (by rw [sr_cat hs1]; exact h8)
  obtain ⟨ck, c1, c2, c4, c5, c6⟩ := hcv
  refine Ev_go (bc := bc) (b := b) (fun _ _ h => h) hC hX hW hl hs1 (by omega) (by omega) hK ?_
  have hcode : Cond.code mj.1 mj.2.1 mj.2.2.1 none ∈ wsOf mj := by rw [← c5]; exact List.mem_cons_self
  have hcode2 : (Cond.code mj.1 mj.2.1 mj.2.2.1 none).before args s = true := by rw [← c5]; exact hts _ ck.1
  rcases c1 with c3 | ⟨host, c3⟩
  · exact va_runI (bytes := mj.2.1) (maxL := mj.2.2.1) (b := a1) ⟨hC.1, hC.2.1, hC.2.2.2.1, hC.2.2.2.2.1, hts⟩ (k l D cA L ws (Value.ref a1 :: As'.reverse) H.size hW.1 (sr_push (by simp only [mv, hax, Option.map_some]) hA2)) ⟨⟨rfl, rfl, by show d + 1 ≤ R.frames; omega, by show 8 + (mj.2.2.1 + 11) + 60 * d ≤ R.locals; have := ck.2.2.1; omega, pay_big hts ck, hcode, hcode2, hts _ ck.2.1, ck.2.2.2, len_of c6, hts _ c3⟩, c4, hts _ c2⟩ ⟨pc_blind, fun U hU hw => pc_at hW hEX hU hw⟩ rfl hln hl1.1 hsk h8' hd (by show cells + bc ≤ R.cells ∧ slots + 300 * bc ≤ R.slots; omega)
  · exact va_runIN (host := host) (bytes := mj.2.1) (maxL := mj.2.2.1) (b := a1) ⟨hC.1, hC.2.1, hC.2.2.2.1, hC.2.2.2.2.1, hts⟩ (k l D cA L ws (Value.ref a1 :: As'.reverse) H.size hW.1 (sr_push (by simp only [mv, hax, Option.map_some]) hA2)) ⟨⟨⟨rfl, rfl, by show d + 1 ≤ R.frames; omega, by show 8 + (mj.2.2.1 + 11) + 60 * d ≤ R.locals; have := ck.2.2.1; omega, pay_big hts ck, hcode⟩, hcode2, hts _ ck.2.1, ck.2.2.2, len_of c6, va_Nw.use rfl (hEX.2.2.2.2 _ c3)⟩, c4, hts _ c2⟩ ⟨pc_blind, fun U hU hw => pc_at hW hEX hU hw⟩ rfl hln hl1.1 hsk h8' hd (by show cells + bc ≤ R.cells ∧ slots + 300 * bc ≤ R.slots; omega)
end EVC
