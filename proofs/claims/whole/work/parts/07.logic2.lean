/-! ===== the words, the context, the judgement ===== -/
def BIG : List Cond := lw_tbl.filter goodWord
theorem big_good : GoodIn BIG BIG := fun w hw => ⟨hw, good_of_word (List.mem_filter.mp hw).2⟩
theorem big_of {w : Cond} (h : w ∈ lw_tbl) (g : goodWord w = true) : w ∈ BIG := List.mem_filter.mpr ⟨h, g⟩
def atys (cA : Nat → ClassId) : List (ClassId × FieldType) := [(cA 0, .int), (cA 1, .long), (cA 2, .boolean), (cA 3, .object "HomeByFour$Sheet"), (cA 4, .object "HomeByFour$Stretch"), (cA 5, .object "HomeByFour$Walk")]
def aAO : List String := ["HomeByFour$Sheet", "HomeByFour$Stretch", "HomeByFour$Walk"]
def aNC : List (String × String) := [("HomeByFour$Stretch", "HomeByFour$Muddy"), ("HomeByFour$Stretch", "HomeByFour$Steep"), ("HomeByFour$Muddy", "HomeByFour$Steep")]
def aCA : List (String × String) := [("HomeByFour$Steep", "HomeByFour$Muddy"), ("HomeByFour$Muddy", "HomeByFour$Stretch"), ("HomeByFour$Steep", "HomeByFour$Stretch")]
def aNE : List (String × Nat × MethodName × String) := [("HomeByFour", 27, yX10_init, "HomeByFour"), ("HomeByFour$Search", 17, yX10_init, "HomeByFour"), ("HomeByFour", 55, yX9_init, "HomeByFour"), ("HomeByFour$Text", 60, yX11_isWithin, "HomeByFour"), ("HomeByFour$Quickest", 62, yX11_isWithin, "HomeByFour"), ("HomeByFour$Search", 137, yX11_powerOf, "HomeByFour"), ("HomeByFour$Dawdling", 40, yX11_isWithin, "HomeByFour")]
def EX (D : va_G) (cA : Nat → ClassId) (U : State) : Prop := va_K D vwCl (atys cA) U ∧ (∀ C ∈ aAO, va_AO C U) ∧ (∀ q ∈ aNC, va_Nc q.1 q.2 U) ∧ (∀ q ∈ aCA, va_Nw (.castable q.1 q.2) U) ∧ ∀ q ∈ aNE, va_Nw (.methodLinkNest q.1 q.2.1 q.2.2.1 q.2.2.2) U
theorem EX.warm {D : va_G} {cA : Nat → ClassId} {s U : State} (hW : s.WarmedH U.vm) (h : EX D cA s) : EX D cA U :=
  ⟨va_K.moved hW.alike h.1, fun C hC => va_AO.moved hW.alike (h.2.1 C hC), fun q hq => va_Nc.moved hW.alike (h.2.2.1 q hq), fun q hq => va_Nw.warmC hW (h.2.2.2.1 q hq), fun q hq => va_Nw.warmM hW (h.2.2.2.2 q hq)⟩
theorem EX.same {D : va_G} {cA : Nat → ClassId} {s U : State} (hv : s.vm = U.vm) (h : EX D cA s) : EX D cA U :=
  have ha : s.vm.Alike U.vm := by rw [hv]; exact Vm.Alike.refl _
  ⟨va_K.moved ha h.1, fun C hC => va_AO.moved ha (h.2.1 C hC), fun q hq => va_Nc.moved ha (h.2.2.1 q hq), fun q hq => va_Nw.same rfl hv (h.2.2.2.1 q hq), fun q hq => va_Nw.same rfl hv (h.2.2.2.2 q hq)⟩
/-- the machine's side of a method's run: all that does not move -/
def Cx (mi : MI) (d : Nat) (p : Program) (R : Room) (s : State) (m : MethodId) (args : Array Value) (meth : Method) (c : Code) (D : va_G) (cA : Nat → ClassId) : Prop :=
  p.tables.exec = Jvm.exec ∧ c.code = mi.2.1 ∧ meth.sig.returnType = mi.2.2.2 ∧ c.maxLocals = mi.2.2.1 ∧ s.vm.findClass mi.1.cls = some m.cls ∧ (∀ w ∈ BIG, w.before args s = true) ∧ meth.locks = false ∧ meth.name = mi.1.name ∧ EX D cA s ∧ d ≤ R.frames ∧ 60 * d ≤ R.locals
def Wd (D : va_G) (cA : Nat → ClassId) (A : Nat → Prop) (s : State) (L : aA) (S : aS) (ws : va_W) (H : Heap) (locs : List Loc) : Prop :=
  rel cA L S ws ∧ va_P D vwCl ws H ∧ va_D A ws ∧ va_S A s.heap H locs ∧ ∀ q : Nat, s.heap.size ≤ q → A q
def xr (X : Option (Nat × (Nat → Int32))) (L : aA) (A : Nat → Prop) (s : State) : Prop := ∀ n xs, X = some (n, xs) → va_X L.1 n xs s s.heap ∧ L.1 < s.heap.size ∧ ¬ A L.1
/-- at a return: what comes back -/
def RT (mi : MI) (L : aA) (v : Option Value) (m : MethodId) (g : JFrame) : Prop := ∃ (pc : Nat) (ls : Array Slot),
  (∃ (x : Int32) (ty : FieldType), v = some (.int x) ∧ mi.2.2.2 = some ty ∧ narrow ty (.int x) = .int x ∧ decode mi.2.1 pc = .ok (.ireturn, 1) ∧ g = F0 m pc ls [.int x]) ∨
  (∃ x : Int64, v = some (.long x) ∧ mi.2.2.2 = some .long ∧ decode mi.2.1 pc = .ok (.lreturn, 1) ∧ g = F0 m pc ls [.long x]) ∨
  (∃ (w w' : Value) (n : String), v = some w ∧ mv L w = some w' ∧ (w' = .null ∨ ∃ a, w' = .ref a) ∧ mi.2.2.2 = some (.object n) ∧ decode mi.2.1 pc = .ok (.areturn, 1) ∧ g = F0 m pc ls [w']) ∨
  (v = none ∧ mi.2.2.2 = none ∧ decode mi.2.1 pc = .ok (.return_, 1) ∧ g = F0 m pc ls [])
def Kn (mi : MI) (p : Program) (l : Launch) (e : Env) (R : Room) (s : State) (m : MethodId) (args : Array Value) (below : List Frame) (meth : Method) (c : Code) (D : va_G) (cA : Nat → ClassId) (A : Nat → Prop) (L : aA) (Q : Option Value → aS → Prop) (Qf : State → Prop) : Prop :=
  ∀ (v : Option Value) (S' : aS) (M : List Nat) (ws' : va_W) (H' : Heap) (locs' : List Loc) (cells' slots' : Nat) (g : JFrame), Q v S' → Wd D cA A s (L.1, L.2 ++ M) S' ws' H' locs' → cells' ≤ R.cells → slots' ≤ R.slots → RT mi (L.1, L.2 ++ M) v m g → W p l e R s m args below meth c H' locs' cells' slots' Qf g
theorem Kn.ex {mi : MI} {p : Program} {l : Launch} {e : Env} {R : Room} {s : State} {m : MethodId} {args : Array Value} {below : List Frame} {meth : Method} {c : Code} {D : va_G} {cA : Nat → ClassId} {A : Nat → Prop} {L : aA} {Q : Option Value → aS → Prop} {Qf : State → Prop} (h : Kn mi p l e R s m args below meth c D cA A L Q Qf) (M : List Nat) : Kn mi p l e R s m args below meth c D cA A (L.1, L.2 ++ M) Q Qf := by
  intro v S' M2 ws' H' locs' cells' slots' g h1 h2 h3 h4 h5
  refine h v S' (M ++ M2) ws' H' locs' cells' slots' g h1 ?_ h3 h4 ?_
  · rw [← List.append_assoc]; exact h2
  · rw [← List.append_assoc]; exact h5
/-- THE JUDGEMENT: a frame at pc, with locals la and stack st over the store S, comes to a return with Q -/
def Ev (X : Option (Nat × (Nat → Int32))) (mi : MI) (d b pc : Nat) (la : aL) (st : List Value) (S : aS) (Q : Option Value → aS → Prop) : Prop :=
  ∀ (p : Program) (l : Launch) (e : Env) (R : Room) (s : State) (m : MethodId) (args : Array Value) (below : List Frame) (meth : Method) (c : Code) (D : va_G) (cA : Nat → ClassId) (A : Nat → Prop) (L : aA) (ws : va_W) (H : Heap) (locs : List Loc) (cells slots : Nat) (Qf : State → Prop) (ls : Array Slot) (st' : List Value),
    Cx mi d p R s m args meth c D cA → xr X L A s → Wd D cA A s L S ws H locs → lr L la ls mi.2.2.1 → sr L st st' → cells + b ≤ R.cells → slots + 300 * b ≤ R.slots → Kn mi p l e R s m args below meth c D cA A L Q Qf →
    W p l e R s m args below meth c H locs cells slots Qf (F0 m pc ls st')
section EVR
variable {X : Option (Nat × (Nat → Int32))} {mi : MI} {d b pc pc2 : Nat} {la la2 : aL} {st : List Value} {S : aS} {Q : Option Value → aS → Prop}

theorem Ev_iconst {n : Int} {v : Int32} (hd : nx mi.2.1 pc (.iconst n) 1 pc2) (hv : Int32.ofInt n = v) (k : Ev X mi d b pc2 la ((.int v) :: st) S Q) : Ev X mi d b pc la (st) S Q := by
  intro p l e R s m args below meth c D cA A L ws H locs cells slots Qf ls st' hC hX hW hl hs hc hq hK
  obtain ⟨hd, rfl⟩ := hd
  exact lv_iconst hC.1 hC.2.1 hd hv (k p l e R s m args below meth c D cA A L ws H locs cells slots Qf ls _ hC hX hW hl (sr_push rfl hs) hc hq hK)
theorem Ev_bipush {n : Int} {v : Int32} (hd : nx mi.2.1 pc (.bipush n) 2 pc2) (hv : (Int8.ofInt n).toInt32 = v) (k : Ev X mi d b pc2 la ((.int v) :: st) S Q) : Ev X mi d b pc la (st) S Q := by
  intro p l e R s m args below meth c D cA A L ws H locs cells slots Qf ls st' hC hX hW hl hs hc hq hK
  obtain ⟨hd, rfl⟩ := hd
  exact lv_bipush hC.1 hC.2.1 hd hv (k p l e R s m args below meth c D cA A L ws H locs cells slots Qf ls _ hC hX hW hl (sr_push rfl hs) hc hq hK)
theorem Ev_sipush {n : Int} {v : Int32} (hd : nx mi.2.1 pc (.sipush n) 3 pc2) (hv : (Int16.ofInt n).toInt32 = v) (k : Ev X mi d b pc2 la ((.int v) :: st) S Q) : Ev X mi d b pc la (st) S Q := by
  intro p l e R s m args below meth c D cA A L ws H locs cells slots Qf ls st' hC hX hW hl hs hc hq hK
  obtain ⟨hd, rfl⟩ := hd
  exact lv_sipush hC.1 hC.2.1 hd hv (k p l e R s m args below meth c D cA A L ws H locs cells slots Qf ls _ hC hX hW hl (sr_push rfl hs) hc hq hK)
theorem Ev_lconst {n : Fin 2} {v : Int64} (hd : nx mi.2.1 pc (.lconst n) 1 pc2) (hv : Int64.ofNat (n : Nat) = v) (k : Ev X mi d b pc2 la ((.long v) :: st) S Q) : Ev X mi d b pc la (st) S Q := by
  intro p l e R s m args below meth c D cA A L ws H locs cells slots Qf ls st' hC hX hW hl hs hc hq hK
  obtain ⟨hd, rfl⟩ := hd
  exact lv_lconst hC.1 hC.2.1 hd hv (k p l e R s m args below meth c D cA A L ws H locs cells slots Qf ls _ hC hX hW hl (sr_push rfl hs) hc hq hK)
theorem Ev_null  (hd : nx mi.2.1 pc (.aconst_null) 1 pc2)  (k : Ev X mi d b pc2 la ((.null) :: st) S Q) : Ev X mi d b pc la (st) S Q := by
  intro p l e R s m args below meth c D cA A L ws H locs cells slots Qf ls st' hC hX hW hl hs hc hq hK
  obtain ⟨hd, rfl⟩ := hd
  exact lv_null hC.1 hC.2.1 hd  (k p l e R s m args below meth c D cA A L ws H locs cells slots Qf ls _ hC hX hW hl (sr_push rfl hs) hc hq hK)
theorem Ev_iadd {x y : Int32} (hd : nx mi.2.1 pc (.iadd) 1 pc2)  (k : Ev X mi d b pc2 la ((.int (x + y)) :: st) S Q) : Ev X mi d b pc la (.int y :: .int x :: st) S Q := by
  intro p l e R s m args below meth c D cA A L ws H locs cells slots Qf ls st' hC hX hW hl hs hc hq hK
  obtain ⟨r_y, rfl, hs1⟩ := sr_int hs
  obtain ⟨r_x, rfl, hs2⟩ := sr_int hs1
  obtain ⟨hd, rfl⟩ := hd
  exact lv_iadd hC.1 hC.2.1 hd  (k p l e R s m args below meth c D cA A L ws H locs cells slots Qf ls _ hC hX hW hl (sr_push rfl hs2) hc hq hK)
theorem Ev_isub {x y : Int32} (hd : nx mi.2.1 pc (.isub) 1 pc2)  (k : Ev X mi d b pc2 la ((.int (x - y)) :: st) S Q) : Ev X mi d b pc la (.int y :: .int x :: st) S Q := by
  intro p l e R s m args below meth c D cA A L ws H locs cells slots Qf ls st' hC hX hW hl hs hc hq hK
  obtain ⟨r_y, rfl, hs1⟩ := sr_int hs
  obtain ⟨r_x, rfl, hs2⟩ := sr_int hs1
  obtain ⟨hd, rfl⟩ := hd
  exact lv_isub hC.1 hC.2.1 hd  (k p l e R s m args below meth c D cA A L ws H locs cells slots Qf ls _ hC hX hW hl (sr_push rfl hs2) hc hq hK)
theorem Ev_imul {x y : Int32} (hd : nx mi.2.1 pc (.imul) 1 pc2)  (k : Ev X mi d b pc2 la ((.int (x * y)) :: st) S Q) : Ev X mi d b pc la (.int y :: .int x :: st) S Q := by
  intro p l e R s m args below meth c D cA A L ws H locs cells slots Qf ls st' hC hX hW hl hs hc hq hK
  obtain ⟨r_y, rfl, hs1⟩ := sr_int hs
  obtain ⟨r_x, rfl, hs2⟩ := sr_int hs1
  obtain ⟨hd, rfl⟩ := hd
  exact lv_imul hC.1 hC.2.1 hd  (k p l e R s m args below meth c D cA A L ws H locs cells slots Qf ls _ hC hX hW hl (sr_push rfl hs2) hc hq hK)
theorem Ev_iand {x y : Int32} (hd : nx mi.2.1 pc (.iand) 1 pc2)  (k : Ev X mi d b pc2 la ((.int (x &&& y)) :: st) S Q) : Ev X mi d b pc la (.int y :: .int x :: st) S Q := by
  intro p l e R s m args below meth c D cA A L ws H locs cells slots Qf ls st' hC hX hW hl hs hc hq hK
  obtain ⟨r_y, rfl, hs1⟩ := sr_int hs
  obtain ⟨r_x, rfl, hs2⟩ := sr_int hs1
  obtain ⟨hd, rfl⟩ := hd
  exact lv_iand hC.1 hC.2.1 hd  (k p l e R s m args below meth c D cA A L ws H locs cells slots Qf ls _ hC hX hW hl (sr_push rfl hs2) hc hq hK)
theorem Ev_ior {x y : Int32} (hd : nx mi.2.1 pc (.ior) 1 pc2)  (k : Ev X mi d b pc2 la ((.int (x ||| y)) :: st) S Q) : Ev X mi d b pc la (.int y :: .int x :: st) S Q := by
  intro p l e R s m args below meth c D cA A L ws H locs cells slots Qf ls st' hC hX hW hl hs hc hq hK
  obtain ⟨r_y, rfl, hs1⟩ := sr_int hs
  obtain ⟨r_x, rfl, hs2⟩ := sr_int hs1
  obtain ⟨hd, rfl⟩ := hd
  exact lv_ior hC.1 hC.2.1 hd  (k p l e R s m args below meth c D cA A L ws H locs cells slots Qf ls _ hC hX hW hl (sr_push rfl hs2) hc hq hK)
theorem Ev_ixor {x y : Int32} (hd : nx mi.2.1 pc (.ixor) 1 pc2)  (k : Ev X mi d b pc2 la ((.int (x ^^^ y)) :: st) S Q) : Ev X mi d b pc la (.int y :: .int x :: st) S Q := by
  intro p l e R s m args below meth c D cA A L ws H locs cells slots Qf ls st' hC hX hW hl hs hc hq hK
  obtain ⟨r_y, rfl, hs1⟩ := sr_int hs
  obtain ⟨r_x, rfl, hs2⟩ := sr_int hs1
  obtain ⟨hd, rfl⟩ := hd
  exact lv_ixor hC.1 hC.2.1 hd  (k p l e R s m args below meth c D cA A L ws H locs cells slots Qf ls _ hC hX hW hl (sr_push rfl hs2) hc hq hK)
theorem Ev_ishl {x y : Int32} (hd : nx mi.2.1 pc (.ishl) 1 pc2)  (k : Ev X mi d b pc2 la ((.int (x <<< (y &&& 31))) :: st) S Q) : Ev X mi d b pc la (.int y :: .int x :: st) S Q := by
  intro p l e R s m args below meth c D cA A L ws H locs cells slots Qf ls st' hC hX hW hl hs hc hq hK
  obtain ⟨r_y, rfl, hs1⟩ := sr_int hs
  obtain ⟨r_x, rfl, hs2⟩ := sr_int hs1
  obtain ⟨hd, rfl⟩ := hd
  exact lv_ishl hC.1 hC.2.1 hd  (k p l e R s m args below meth c D cA A L ws H locs cells slots Qf ls _ hC hX hW hl (sr_push rfl hs2) hc hq hK)
theorem Ev_ishr {x y : Int32} (hd : nx mi.2.1 pc (.ishr) 1 pc2)  (k : Ev X mi d b pc2 la ((.int (x >>> (y &&& 31))) :: st) S Q) : Ev X mi d b pc la (.int y :: .int x :: st) S Q := by
  intro p l e R s m args below meth c D cA A L ws H locs cells slots Qf ls st' hC hX hW hl hs hc hq hK
  obtain ⟨r_y, rfl, hs1⟩ := sr_int hs
  obtain ⟨r_x, rfl, hs2⟩ := sr_int hs1
  obtain ⟨hd, rfl⟩ := hd
  exact lv_ishr hC.1 hC.2.1 hd  (k p l e R s m args below meth c D cA A L ws H locs cells slots Qf ls _ hC hX hW hl (sr_push rfl hs2) hc hq hK)
theorem Ev_idiv {x y : Int32} (hd : nx mi.2.1 pc (.idiv) 1 pc2) (hne : ¬ y = 0) (k : Ev X mi d b pc2 la ((.int (x / y)) :: st) S Q) : Ev X mi d b pc la (.int y :: .int x :: st) S Q := by
  intro p l e R s m args below meth c D cA A L ws H locs cells slots Qf ls st' hC hX hW hl hs hc hq hK
  obtain ⟨r_y, rfl, hs1⟩ := sr_int hs
  obtain ⟨r_x, rfl, hs2⟩ := sr_int hs1
  obtain ⟨hd, rfl⟩ := hd
  exact lv_idiv hC.1 hC.2.1 hd hne (k p l e R s m args below meth c D cA A L ws H locs cells slots Qf ls _ hC hX hW hl (sr_push rfl hs2) hc hq hK)
theorem Ev_irem {x y : Int32} (hd : nx mi.2.1 pc (.irem) 1 pc2) (hne : ¬ y = 0) (k : Ev X mi d b pc2 la ((.int (x - x / y * y)) :: st) S Q) : Ev X mi d b pc la (.int y :: .int x :: st) S Q := by
  intro p l e R s m args below meth c D cA A L ws H locs cells slots Qf ls st' hC hX hW hl hs hc hq hK
  obtain ⟨r_y, rfl, hs1⟩ := sr_int hs
  obtain ⟨r_x, rfl, hs2⟩ := sr_int hs1
  obtain ⟨hd, rfl⟩ := hd
  exact lv_irem hC.1 hC.2.1 hd hne (k p l e R s m args below meth c D cA A L ws H locs cells slots Qf ls _ hC hX hW hl (sr_push rfl hs2) hc hq hK)
theorem Ev_ladd {x y : Int64} (hd : nx mi.2.1 pc (.ladd) 1 pc2)  (k : Ev X mi d b pc2 la ((.long (x + y)) :: st) S Q) : Ev X mi d b pc la (.long y :: .long x :: st) S Q := by
  intro p l e R s m args below meth c D cA A L ws H locs cells slots Qf ls st' hC hX hW hl hs hc hq hK
  obtain ⟨r_y, rfl, hs1⟩ := sr_long hs
  obtain ⟨r_x, rfl, hs2⟩ := sr_long hs1
  obtain ⟨hd, rfl⟩ := hd
  exact lv_ladd hC.1 hC.2.1 hd  (k p l e R s m args below meth c D cA A L ws H locs cells slots Qf ls _ hC hX hW hl (sr_push rfl hs2) hc hq hK)
theorem Ev_lsub {x y : Int64} (hd : nx mi.2.1 pc (.lsub) 1 pc2)  (k : Ev X mi d b pc2 la ((.long (x - y)) :: st) S Q) : Ev X mi d b pc la (.long y :: .long x :: st) S Q := by
  intro p l e R s m args below meth c D cA A L ws H locs cells slots Qf ls st' hC hX hW hl hs hc hq hK
  obtain ⟨r_y, rfl, hs1⟩ := sr_long hs
  obtain ⟨r_x, rfl, hs2⟩ := sr_long hs1
  obtain ⟨hd, rfl⟩ := hd
  exact lv_lsub hC.1 hC.2.1 hd  (k p l e R s m args below meth c D cA A L ws H locs cells slots Qf ls _ hC hX hW hl (sr_push rfl hs2) hc hq hK)
theorem Ev_lmul {x y : Int64} (hd : nx mi.2.1 pc (.lmul) 1 pc2)  (k : Ev X mi d b pc2 la ((.long (x * y)) :: st) S Q) : Ev X mi d b pc la (.long y :: .long x :: st) S Q := by
  intro p l e R s m args below meth c D cA A L ws H locs cells slots Qf ls st' hC hX hW hl hs hc hq hK
  obtain ⟨r_y, rfl, hs1⟩ := sr_long hs
  obtain ⟨r_x, rfl, hs2⟩ := sr_long hs1
  obtain ⟨hd, rfl⟩ := hd
  exact lv_lmul hC.1 hC.2.1 hd  (k p l e R s m args below meth c D cA A L ws H locs cells slots Qf ls _ hC hX hW hl (sr_push rfl hs2) hc hq hK)
theorem Ev_ldiv {x y : Int64} (hd : nx mi.2.1 pc (.ldiv) 1 pc2) (hne : ¬ y = 0) (k : Ev X mi d b pc2 la ((.long (x / y)) :: st) S Q) : Ev X mi d b pc la (.long y :: .long x :: st) S Q := by
  intro p l e R s m args below meth c D cA A L ws H locs cells slots Qf ls st' hC hX hW hl hs hc hq hK
  obtain ⟨r_y, rfl, hs1⟩ := sr_long hs
  obtain ⟨r_x, rfl, hs2⟩ := sr_long hs1
  obtain ⟨hd, rfl⟩ := hd
  exact lv_ldiv hC.1 hC.2.1 hd hne (k p l e R s m args below meth c D cA A L ws H locs cells slots Qf ls _ hC hX hW hl (sr_push rfl hs2) hc hq hK)
theorem Ev_lrem {x y : Int64} (hd : nx mi.2.1 pc (.lrem) 1 pc2) (hne : ¬ y = 0) (k : Ev X mi d b pc2 la ((.long (x - x / y * y)) :: st) S Q) : Ev X mi d b pc la (.long y :: .long x :: st) S Q := by
  intro p l e R s m args below meth c D cA A L ws H locs cells slots Qf ls st' hC hX hW hl hs hc hq hK
  obtain ⟨r_y, rfl, hs1⟩ := sr_long hs
  obtain ⟨r_x, rfl, hs2⟩ := sr_long hs1
  obtain ⟨hd, rfl⟩ := hd
  exact lv_lrem hC.1 hC.2.1 hd hne (k p l e R s m args below meth c D cA A L ws H locs cells slots Qf ls _ hC hX hW hl (sr_push rfl hs2) hc hq hK)
theorem Ev_lcmp {x y : Int64} (hd : nx mi.2.1 pc (.lcmp) 1 pc2)  (k : Ev X mi d b pc2 la ((.int (lg_cmp x y)) :: st) S Q) : Ev X mi d b pc la (.long y :: .long x :: st) S Q := by
  intro p l e R s m args below meth c D cA A L ws H locs cells slots Qf ls st' hC hX hW hl hs hc hq hK
  obtain ⟨r_y, rfl, hs1⟩ := sr_long hs
  obtain ⟨r_x, rfl, hs2⟩ := sr_long hs1
  obtain ⟨hd, rfl⟩ := hd
  exact W.lcmp hC.1 hC.2.1 hd  (k p l e R s m args below meth c D cA A L ws H locs cells slots Qf ls _ hC hX hW hl (sr_push rfl hs2) hc hq hK)
theorem Ev_i2l {x : Int32} (hd : nx mi.2.1 pc (.i2l) 1 pc2)  (k : Ev X mi d b pc2 la ((.long x.toInt64) :: st) S Q) : Ev X mi d b pc la (.int x :: st) S Q := by
  intro p l e R s m args below meth c D cA A L ws H locs cells slots Qf ls st' hC hX hW hl hs hc hq hK
  obtain ⟨r_x, rfl, hs1⟩ := sr_int hs
  obtain ⟨hd, rfl⟩ := hd
  exact lv_i2l hC.1 hC.2.1 hd rfl (k p l e R s m args below meth c D cA A L ws H locs cells slots Qf ls _ hC hX hW hl (sr_push rfl hs1) hc hq hK)
theorem Ev_l2i {x : Int64} (hd : nx mi.2.1 pc (.l2i) 1 pc2)  (k : Ev X mi d b pc2 la ((.int x.toInt32) :: st) S Q) : Ev X mi d b pc la (.long x :: st) S Q := by
  intro p l e R s m args below meth c D cA A L ws H locs cells slots Qf ls st' hC hX hW hl hs hc hq hK
  obtain ⟨r_x, rfl, hs1⟩ := sr_long hs
  obtain ⟨hd, rfl⟩ := hd
  exact lv_l2i hC.1 hC.2.1 hd rfl (k p l e R s m args below meth c D cA A L ws H locs cells slots Qf ls _ hC hX hW hl (sr_push rfl hs1) hc hq hK)
theorem Ev_i2b {x : Int32} (hd : nx mi.2.1 pc (.i2b) 1 pc2)  (k : Ev X mi d b pc2 la ((.int x.toInt8.toInt32) :: st) S Q) : Ev X mi d b pc la (.int x :: st) S Q := by
  intro p l e R s m args below meth c D cA A L ws H locs cells slots Qf ls st' hC hX hW hl hs hc hq hK
  obtain ⟨r_x, rfl, hs1⟩ := sr_int hs
  obtain ⟨hd, rfl⟩ := hd
  exact lv_i2b hC.1 hC.2.1 hd rfl (k p l e R s m args below meth c D cA A L ws H locs cells slots Qf ls _ hC hX hW hl (sr_push rfl hs1) hc hq hK)
theorem Ev_i2s {x : Int32} (hd : nx mi.2.1 pc (.i2s) 1 pc2)  (k : Ev X mi d b pc2 la ((.int x.toInt16.toInt32) :: st) S Q) : Ev X mi d b pc la (.int x :: st) S Q := by
  intro p l e R s m args below meth c D cA A L ws H locs cells slots Qf ls st' hC hX hW hl hs hc hq hK
  obtain ⟨r_x, rfl, hs1⟩ := sr_int hs
  obtain ⟨hd, rfl⟩ := hd
  exact lv_i2s hC.1 hC.2.1 hd rfl (k p l e R s m args below meth c D cA A L ws H locs cells slots Qf ls _ hC hX hW hl (sr_push rfl hs1) hc hq hK)
theorem Ev_ldc {idx : Nat} {v : Int32} (hd : nx mi.2.1 pc (.ldc idx) 2 pc2) (hw : Cond.constant mi.1.cls idx v ∈ BIG) (k : Ev X mi d b pc2 la (.int v :: st) S Q) : Ev X mi d b pc la st S Q := by
  intro p l e R s m args below meth c D cA A L ws H locs cells slots Qf ls st' hC hX hW hl hs hc hq hK
  obtain ⟨hd, rfl⟩ := hd
  exact lv_ldc hC.1 hC.2.1 hC.2.2.2.2.1 (hC.2.2.2.2.2.1 _ hw) hd (k p l e R s m args below meth c D cA A L ws H locs cells slots Qf ls _ hC hX hW hl (sr_push rfl hs) hc hq hK)
theorem Ev_ldc2 {idx : Nat} {v : Int64} (hd : nx mi.2.1 pc (.ldc2_w idx) 3 pc2) (hw : Cond.constantLong mi.1.cls idx v ∈ BIG) (k : Ev X mi d b pc2 la (.long v :: st) S Q) : Ev X mi d b pc la st S Q := by
  intro p l e R s m args below meth c D cA A L ws H locs cells slots Qf ls st' hC hX hW hl hs hc hq hK
  obtain ⟨hd, rfl⟩ := hd
  exact lv_ldc2 hC.1 hC.2.1 hC.2.2.2.2.1 (hC.2.2.2.2.2.1 _ hw) hd (k p l e R s m args below meth c D cA A L ws H locs cells slots Qf ls _ hC hX hW hl (sr_push rfl hs) hc hq hK)
theorem Ev_iload_n {j : Fin 4} {x : Int32} (hd : nx mi.2.1 pc (.iload_n j) 1 pc2) (hv : la[(j : Nat)]? = some (some (.int x))) (k : Ev X mi d b pc2 la (.int x :: st) S Q) : Ev X mi d b pc la st S Q := by
  intro p l e R s m args below meth c D cA A L ws H locs cells slots Qf ls st' hC hX hW hl hs hc hq hK
  obtain ⟨hd, rfl⟩ := hd
  obtain ⟨v', h1, h2⟩ := lr_get hl hv
  cases Option.some.inj h1
  exact lv_iload_n hC.1 hC.2.1 hd rfl h2 (k p l e R s m args below meth c D cA A L ws H locs cells slots Qf ls _ hC hX hW hl (sr_push rfl hs) hc hq hK)
theorem Ev_iload {j : Nat} {x : Int32} (hd : nx mi.2.1 pc (.iload j) 2 pc2) (hv : la[j]? = some (some (.int x))) (k : Ev X mi d b pc2 la (.int x :: st) S Q) : Ev X mi d b pc la st S Q := by
  intro p l e R s m args below meth c D cA A L ws H locs cells slots Qf ls st' hC hX hW hl hs hc hq hK
  obtain ⟨hd, rfl⟩ := hd
  obtain ⟨v', h1, h2⟩ := lr_get hl hv
  cases Option.some.inj h1
  exact lv_iload hC.1 hC.2.1 hd h2 (k p l e R s m args below meth c D cA A L ws H locs cells slots Qf ls _ hC hX hW hl (sr_push rfl hs) hc hq hK)
theorem Ev_lload_n {j : Fin 4} {x : Int64} (hd : nx mi.2.1 pc (.lload_n j) 1 pc2) (hv : la[(j : Nat)]? = some (some (.long x))) (k : Ev X mi d b pc2 la (.long x :: st) S Q) : Ev X mi d b pc la st S Q := by
  intro p l e R s m args below meth c D cA A L ws H locs cells slots Qf ls st' hC hX hW hl hs hc hq hK
  obtain ⟨hd, rfl⟩ := hd
  obtain ⟨v', h1, h2⟩ := lr_get hl hv
  cases Option.some.inj h1
  exact lv_lload_n hC.1 hC.2.1 hd rfl h2 (k p l e R s m args below meth c D cA A L ws H locs cells slots Qf ls _ hC hX hW hl (sr_push rfl hs) hc hq hK)
theorem Ev_lload {j : Nat} {x : Int64} (hd : nx mi.2.1 pc (.lload j) 2 pc2) (hv : la[j]? = some (some (.long x))) (k : Ev X mi d b pc2 la (.long x :: st) S Q) : Ev X mi d b pc la st S Q := by
  intro p l e R s m args below meth c D cA A L ws H locs cells slots Qf ls st' hC hX hW hl hs hc hq hK
  obtain ⟨hd, rfl⟩ := hd
  obtain ⟨v', h1, h2⟩ := lr_get hl hv
  cases Option.some.inj h1
  exact lv_lload hC.1 hC.2.1 hd h2 (k p l e R s m args below meth c D cA A L ws H locs cells slots Qf ls _ hC hX hW hl (sr_push rfl hs) hc hq hK)
theorem Ev_aload_n {j : Fin 4} {x : Nat} (hd : nx mi.2.1 pc (.aload_n j) 1 pc2) (hv : la[(j : Nat)]? = some (some (.ref x))) (k : Ev X mi d b pc2 la (.ref x :: st) S Q) : Ev X mi d b pc la st S Q := by
  intro p l e R s m args below meth c D cA A L ws H locs cells slots Qf ls st' hC hX hW hl hs hc hq hK
  obtain ⟨hd, rfl⟩ := hd
  obtain ⟨v', h1, h2⟩ := lr_get hl hv
  have h3 := h1
  obtain ⟨a, h1b, rfl⟩ := mv_ref h1
  exact lv_aload_n hC.1 hC.2.1 hd rfl h2 (k p l e R s m args below meth c D cA A L ws H locs cells slots Qf ls _ hC hX hW hl (sr_push h3 hs) hc hq hK)
theorem Ev_aload {j : Nat} {x : Nat} (hd : nx mi.2.1 pc (.aload j) 2 pc2) (hv : la[j]? = some (some (.ref x))) (k : Ev X mi d b pc2 la (.ref x :: st) S Q) : Ev X mi d b pc la st S Q := by
  intro p l e R s m args below meth c D cA A L ws H locs cells slots Qf ls st' hC hX hW hl hs hc hq hK
  obtain ⟨hd, rfl⟩ := hd
  obtain ⟨v', h1, h2⟩ := lr_get hl hv
  have h3 := h1
  obtain ⟨a, h1b, rfl⟩ := mv_ref h1
  exact lv_aload hC.1 hC.2.1 hd h2 (k p l e R s m args below meth c D cA A L ws H locs cells slots Qf ls _ hC hX hW hl (sr_push h3 hs) hc hq hK)
theorem Ev_aload_nN {j : Fin 4}  (hd : nx mi.2.1 pc (.aload_n j) 1 pc2) (hv : la[(j : Nat)]? = some (some (.null))) (k : Ev X mi d b pc2 la (.null :: st) S Q) : Ev X mi d b pc la st S Q := by
  intro p l e R s m args below meth c D cA A L ws H locs cells slots Qf ls st' hC hX hW hl hs hc hq hK
  obtain ⟨hd, rfl⟩ := hd
  obtain ⟨v', h1, h2⟩ := lr_get hl hv
  have h3 := h1
  cases Option.some.inj h1
  exact lv_aload_nN hC.1 hC.2.1 hd rfl h2 (k p l e R s m args below meth c D cA A L ws H locs cells slots Qf ls _ hC hX hW hl (sr_push h3 hs) hc hq hK)
theorem Ev_aloadN {j : Nat}  (hd : nx mi.2.1 pc (.aload j) 2 pc2) (hv : la[j]? = some (some (.null))) (k : Ev X mi d b pc2 la (.null :: st) S Q) : Ev X mi d b pc la st S Q := by
  intro p l e R s m args below meth c D cA A L ws H locs cells slots Qf ls st' hC hX hW hl hs hc hq hK
  obtain ⟨hd, rfl⟩ := hd
  obtain ⟨v', h1, h2⟩ := lr_get hl hv
  have h3 := h1
  cases Option.some.inj h1
  exact lv_aloadN hC.1 hC.2.1 hd h2 (k p l e R s m args below meth c D cA A L ws H locs cells slots Qf ls _ hC hX hW hl (sr_push h3 hs) hc hq hK)
theorem Ev_aload_nX {j : Fin 4} {x : Nat} (hd : nx mi.2.1 pc (.aload_n j) 1 pc2) (hv : la[(j : Nat)]? = some (some (.retAddr x))) (k : Ev X mi d b pc2 la (.retAddr x :: st) S Q) : Ev X mi d b pc la st S Q := by
  intro p l e R s m args below meth c D cA A L ws H locs cells slots Qf ls st' hC hX hW hl hs hc hq hK
  obtain ⟨hd, rfl⟩ := hd
  obtain ⟨v', h1, h2⟩ := lr_get hl hv
  have h3 := h1
  cases Option.some.inj h1
  exact lv_aload_n hC.1 hC.2.1 hd rfl h2 (k p l e R s m args below meth c D cA A L ws H locs cells slots Qf ls _ hC hX hW hl (sr_push h3 hs) hc hq hK)
theorem Ev_aloadX {j : Nat} {x : Nat} (hd : nx mi.2.1 pc (.aload j) 2 pc2) (hv : la[j]? = some (some (.retAddr x))) (k : Ev X mi d b pc2 la (.retAddr x :: st) S Q) : Ev X mi d b pc la st S Q := by
  intro p l e R s m args below meth c D cA A L ws H locs cells slots Qf ls st' hC hX hW hl hs hc hq hK
  obtain ⟨hd, rfl⟩ := hd
  obtain ⟨v', h1, h2⟩ := lr_get hl hv
  have h3 := h1
  cases Option.some.inj h1
  exact lv_aload hC.1 hC.2.1 hd h2 (k p l e R s m args below meth c D cA A L ws H locs cells slots Qf ls _ hC hX hW hl (sr_push h3 hs) hc hq hK)
theorem Ev_istore_n {j : Fin 4} {x : Int32} (hd : nx mi.2.1 pc (.istore_n j) 1 pc2) (ha : aset1 la (j : Nat) (.int x) = some la2) (k : Ev X mi d b pc2 la2 st S Q) : Ev X mi d b pc la (.int x :: st) S Q := by
  intro p l e R s m args below meth c D cA A L ws H locs cells slots Qf ls st' hC hX hW hl hs hc hq hK
  obtain ⟨r_x, rfl, hs1⟩ := sr_int hs
  obtain ⟨hd, rfl⟩ := hd
  obtain ⟨h0, lc, h1, h2⟩ := hl
  have hn := (aset1_ok _ _ _ _ ha).2.1
  exact lv_istore_n hC.1 hC.2.1 hd rfl h1 (by rw [← h0]; exact hn) rfl (fun ls2 hl2 => k p l e R s m args below meth c D cA A L ws H locs cells slots Qf ls2 _ hC hX hW (lr_set1 h0 h2 ha rfl hl2) hs1 hc hq hK)
theorem Ev_istore {j : Nat} {x : Int32} (hd : nx mi.2.1 pc (.istore j) 2 pc2) (ha : aset1 la (j : Nat) (.int x) = some la2) (k : Ev X mi d b pc2 la2 st S Q) : Ev X mi d b pc la (.int x :: st) S Q := by
  intro p l e R s m args below meth c D cA A L ws H locs cells slots Qf ls st' hC hX hW hl hs hc hq hK
  obtain ⟨r_x, rfl, hs1⟩ := sr_int hs
  obtain ⟨hd, rfl⟩ := hd
  obtain ⟨h0, lc, h1, h2⟩ := hl
  have hn := (aset1_ok _ _ _ _ ha).2.1
  exact lv_istore hC.1 hC.2.1 hd h1 (by rw [← h0]; exact hn) rfl (fun ls2 hl2 => k p l e R s m args below meth c D cA A L ws H locs cells slots Qf ls2 _ hC hX hW (lr_set1 h0 h2 ha rfl hl2) hs1 hc hq hK)
theorem Ev_lstore_n {j : Fin 4} {x : Int64} (hd : nx mi.2.1 pc (.lstore_n j) 1 pc2) (ha : aset2 la (j : Nat) (.long x) = some la2) (k : Ev X mi d b pc2 la2 st S Q) : Ev X mi d b pc la (.long x :: st) S Q := by
  intro p l e R s m args below meth c D cA A L ws H locs cells slots Qf ls st' hC hX hW hl hs hc hq hK
  obtain ⟨r_x, rfl, hs1⟩ := sr_long hs
  obtain ⟨hd, rfl⟩ := hd
  obtain ⟨h0, lc, h1, h2⟩ := hl
  have hn := (aset2_ok _ _ _ _ ha).2.1
  exact lv_lstore_n hC.1 hC.2.1 hd rfl h1 (by rw [← h0]; exact hn) rfl (fun ls2 hl2 => k p l e R s m args below meth c D cA A L ws H locs cells slots Qf ls2 _ hC hX hW (lr_set2 h0 h2 ha rfl hl2) hs1 hc hq hK)
theorem Ev_lstore {j : Nat} {x : Int64} (hd : nx mi.2.1 pc (.lstore j) 2 pc2) (ha : aset2 la (j : Nat) (.long x) = some la2) (k : Ev X mi d b pc2 la2 st S Q) : Ev X mi d b pc la (.long x :: st) S Q := by
  intro p l e R s m args below meth c D cA A L ws H locs cells slots Qf ls st' hC hX hW hl hs hc hq hK
  obtain ⟨r_x, rfl, hs1⟩ := sr_long hs
  obtain ⟨hd, rfl⟩ := hd
  obtain ⟨h0, lc, h1, h2⟩ := hl
  have hn := (aset2_ok _ _ _ _ ha).2.1
  exact lv_lstore hC.1 hC.2.1 hd h1 (by rw [← h0]; exact hn) rfl (fun ls2 hl2 => k p l e R s m args below meth c D cA A L ws H locs cells slots Qf ls2 _ hC hX hW (lr_set2 h0 h2 ha rfl hl2) hs1 hc hq hK)
theorem Ev_astore_n {j : Fin 4} {x : Nat} (hd : nx mi.2.1 pc (.astore_n j) 1 pc2) (ha : aset1 la (j : Nat) (.ref x) = some la2) (k : Ev X mi d b pc2 la2 st S Q) : Ev X mi d b pc la (.ref x :: st) S Q := by
  intro p l e R s m args below meth c D cA A L ws H locs cells slots Qf ls st' hC hX hW hl hs hc hq hK
  obtain ⟨a, r_x, rfl, hax, hs1⟩ := sr_ref hs
  obtain ⟨hd, rfl⟩ := hd
  obtain ⟨h0, lc, h1, h2⟩ := hl
  have hn := (aset1_ok _ _ _ _ ha).2.1
  exact lv_astore_n hC.1 hC.2.1 hd rfl h1 (by rw [← h0]; exact hn) rfl (fun ls2 hl2 => k p l e R s m args below meth c D cA A L ws H locs cells slots Qf ls2 _ hC hX hW (lr_set1 h0 h2 ha (by simp only [mv, hax, Option.map_some]) hl2) hs1 hc hq hK)
theorem Ev_astore {j : Nat} {x : Nat} (hd : nx mi.2.1 pc (.astore j) 2 pc2) (ha : aset1 la (j : Nat) (.ref x) = some la2) (k : Ev X mi d b pc2 la2 st S Q) : Ev X mi d b pc la (.ref x :: st) S Q := by
  intro p l e R s m args below meth c D cA A L ws H locs cells slots Qf ls st' hC hX hW hl hs hc hq hK
  obtain ⟨a, r_x, rfl, hax, hs1⟩ := sr_ref hs
  obtain ⟨hd, rfl⟩ := hd
  obtain ⟨h0, lc, h1, h2⟩ := hl
  have hn := (aset1_ok _ _ _ _ ha).2.1
  exact lv_astore hC.1 hC.2.1 hd h1 (by rw [← h0]; exact hn) rfl (fun ls2 hl2 => k p l e R s m args below meth c D cA A L ws H locs cells slots Qf ls2 _ hC hX hW (lr_set1 h0 h2 ha (by simp only [mv, hax, Option.map_some]) hl2) hs1 hc hq hK)
theorem Ev_astore_nN {j : Fin 4}  (hd : nx mi.2.1 pc (.astore_n j) 1 pc2) (ha : aset1 la (j : Nat) (.null) = some la2) (k : Ev X mi d b pc2 la2 st S Q) : Ev X mi d b pc la (.null :: st) S Q := by
  intro p l e R s m args below meth c D cA A L ws H locs cells slots Qf ls st' hC hX hW hl hs hc hq hK
  obtain ⟨r_x, rfl, hs1⟩ := sr_null hs
  obtain ⟨hd, rfl⟩ := hd
  obtain ⟨h0, lc, h1, h2⟩ := hl
  have hn := (aset1_ok _ _ _ _ ha).2.1
  exact lv_astore_nN hC.1 hC.2.1 hd rfl h1 (by rw [← h0]; exact hn) rfl (fun ls2 hl2 => k p l e R s m args below meth c D cA A L ws H locs cells slots Qf ls2 _ hC hX hW (lr_set1 h0 h2 ha rfl hl2) hs1 hc hq hK)
theorem Ev_astoreN {j : Nat}  (hd : nx mi.2.1 pc (.astore j) 2 pc2) (ha : aset1 la (j : Nat) (.null) = some la2) (k : Ev X mi d b pc2 la2 st S Q) : Ev X mi d b pc la (.null :: st) S Q := by
  intro p l e R s m args below meth c D cA A L ws H locs cells slots Qf ls st' hC hX hW hl hs hc hq hK
  obtain ⟨r_x, rfl, hs1⟩ := sr_null hs
  obtain ⟨hd, rfl⟩ := hd
  obtain ⟨h0, lc, h1, h2⟩ := hl
  have hn := (aset1_ok _ _ _ _ ha).2.1
  exact lv_astoreN hC.1 hC.2.1 hd h1 (by rw [← h0]; exact hn) rfl (fun ls2 hl2 => k p l e R s m args below meth c D cA A L ws H locs cells slots Qf ls2 _ hC hX hW (lr_set1 h0 h2 ha rfl hl2) hs1 hc hq hK)
theorem Ev_iinc {j : Nat} {n : Int} {x v : Int32} (hd : nx mi.2.1 pc (.iinc j n) 3 pc2) (hv : la[j]? = some (some (.int x))) (hn2 : x + Int32.ofInt n = v) (ha : aset1 la j (.int v) = some la2) (k : Ev X mi d b pc2 la2 st S Q) : Ev X mi d b pc la st S Q := by
  intro p l e R s m args below meth c D cA A L ws H locs cells slots Qf ls st' hC hX hW hl hs hc hq hK
  obtain ⟨hd, rfl⟩ := hd
  obtain ⟨h0, lc, h1, h2⟩ := hl
  have hn := (aset1_ok _ _ _ _ ha).2.1
  obtain ⟨v', h3, h4⟩ := h2 j _ hv
  cases Option.some.inj h3
  obtain ⟨i, hi⟩ := List.getElem?_of_mem h4
  exact lv_iinc (k := i) hC.1 hC.2.1 hd h1 hi hn2 (by rw [← h0]; exact hn) rfl (fun ls2 hl2 => k p l e R s m args below meth c D cA A L ws H locs cells slots Qf ls2 _ hC hX hW (lr_set1 h0 h2 ha rfl hl2) hs hc hq hK)
theorem Ev_dup {v : Value} (hd : nx mi.2.1 pc .dup 1 pc2) (hc1 : v.category = 1) (k : Ev X mi d b pc2 la (v :: v :: st) S Q) : Ev X mi d b pc la (v :: st) S Q := by
  intro p l e R s m args below meth c D cA A L ws H locs cells slots Qf ls st' hC hX hW hl hs hc hq hK
  obtain ⟨v', r, rfl, h1, hs1⟩ := sr_cons hs
  obtain ⟨hd, rfl⟩ := hd
  exact lv_dup hC.1 hC.2.1 hd (by rw [mv_cat h1]; exact hc1) (k p l e R s m args below meth c D cA A L ws H locs cells slots Qf ls _ hC hX hW hl (sr_push h1 (sr_push h1 hs1)) hc hq hK)
theorem Ev_dup2 {v u : Value} (hd : nx mi.2.1 pc .dup2 1 pc2) (hc1 : v.category = 1) (hc2 : u.category = 1) (k : Ev X mi d b pc2 la (v :: u :: v :: u :: st) S Q) : Ev X mi d b pc la (v :: u :: st) S Q := by
  intro p l e R s m args below meth c D cA A L ws H locs cells slots Qf ls st' hC hX hW hl hs hc hq hK
  obtain ⟨v', r, rfl, h1, hs1⟩ := sr_cons hs
  obtain ⟨u', r, rfl, h2, hs2⟩ := sr_cons hs1
  obtain ⟨hd, rfl⟩ := hd
  exact lv_dup2_11 hC.1 hC.2.1 hd (by rw [mv_cat h1]; exact hc1) (by rw [mv_cat h2]; exact hc2) (k p l e R s m args below meth c D cA A L ws H locs cells slots Qf ls _ hC hX hW hl (sr_push h1 (sr_push h2 (sr_push h1 (sr_push h2 hs2)))) hc hq hK)
theorem Ev_if_eq {x : Int32} {off : Int} {tg : Nat} (hd : bx mi.2.1 pc (.ifCond .eq off) off tg pc2) (kt : x = 0 → Ev X mi d b tg la st S Q) (kf : ¬ x = 0 → Ev X mi d b pc2 la st S Q) : Ev X mi d b pc la (.int x :: st) S Q := by
  intro p l e R s m args below meth c D cA A L ws H locs cells slots Qf ls st' hC hX hW hl hs hc hq hK
  obtain ⟨r_x, rfl, hs1⟩ := sr_int hs
  obtain ⟨hd, ht, rfl⟩ := hd
  exact lv_if_eq hC.1 hC.2.1 hd ht (fun h => (kt h p l e R s m args below meth c D cA A L ws H locs cells slots Qf ls _ hC hX hW hl hs1 hc hq hK)) (fun h => (kf h p l e R s m args below meth c D cA A L ws H locs cells slots Qf ls _ hC hX hW hl hs1 hc hq hK))
theorem Ev_icmp_eq {x y : Int32} {off : Int} {tg : Nat} (hd : bx mi.2.1 pc (.if_icmp .eq off) off tg pc2) (kt : x = y → Ev X mi d b tg la st S Q) (kf : ¬ x = y → Ev X mi d b pc2 la st S Q) : Ev X mi d b pc la (.int y :: .int x :: st) S Q := by
  intro p l e R s m args below meth c D cA A L ws H locs cells slots Qf ls st' hC hX hW hl hs hc hq hK
  obtain ⟨r_y, rfl, hs1⟩ := sr_int hs
  obtain ⟨r_x, rfl, hs2⟩ := sr_int hs1
  obtain ⟨hd, ht, rfl⟩ := hd
  exact lv_icmp_eq hC.1 hC.2.1 hd ht (fun h => (kt h p l e R s m args below meth c D cA A L ws H locs cells slots Qf ls _ hC hX hW hl hs2 hc hq hK)) (fun h => (kf h p l e R s m args below meth c D cA A L ws H locs cells slots Qf ls _ hC hX hW hl hs2 hc hq hK))
theorem Ev_if_ne {x : Int32} {off : Int} {tg : Nat} (hd : bx mi.2.1 pc (.ifCond .ne off) off tg pc2) (kt : ¬ x = 0 → Ev X mi d b tg la st S Q) (kf : x = 0 → Ev X mi d b pc2 la st S Q) : Ev X mi d b pc la (.int x :: st) S Q := by
  intro p l e R s m args below meth c D cA A L ws H locs cells slots Qf ls st' hC hX hW hl hs hc hq hK
  obtain ⟨r_x, rfl, hs1⟩ := sr_int hs
  obtain ⟨hd, ht, rfl⟩ := hd
  exact lv_if_ne hC.1 hC.2.1 hd ht (fun h => (kt h p l e R s m args below meth c D cA A L ws H locs cells slots Qf ls _ hC hX hW hl hs1 hc hq hK)) (fun h => (kf h p l e R s m args below meth c D cA A L ws H locs cells slots Qf ls _ hC hX hW hl hs1 hc hq hK))
theorem Ev_icmp_ne {x y : Int32} {off : Int} {tg : Nat} (hd : bx mi.2.1 pc (.if_icmp .ne off) off tg pc2) (kt : ¬ x = y → Ev X mi d b tg la st S Q) (kf : x = y → Ev X mi d b pc2 la st S Q) : Ev X mi d b pc la (.int y :: .int x :: st) S Q := by
  intro p l e R s m args below meth c D cA A L ws H locs cells slots Qf ls st' hC hX hW hl hs hc hq hK
  obtain ⟨r_y, rfl, hs1⟩ := sr_int hs
  obtain ⟨r_x, rfl, hs2⟩ := sr_int hs1
  obtain ⟨hd, ht, rfl⟩ := hd
  exact lv_icmp_ne hC.1 hC.2.1 hd ht (fun h => (kt h p l e R s m args below meth c D cA A L ws H locs cells slots Qf ls _ hC hX hW hl hs2 hc hq hK)) (fun h => (kf h p l e R s m args below meth c D cA A L ws H locs cells slots Qf ls _ hC hX hW hl hs2 hc hq hK))
theorem Ev_if_lt {x : Int32} {off : Int} {tg : Nat} (hd : bx mi.2.1 pc (.ifCond .lt off) off tg pc2) (kt : x < 0 → Ev X mi d b tg la st S Q) (kf : ¬ x < 0 → Ev X mi d b pc2 la st S Q) : Ev X mi d b pc la (.int x :: st) S Q := by
  intro p l e R s m args below meth c D cA A L ws H locs cells slots Qf ls st' hC hX hW hl hs hc hq hK
  obtain ⟨r_x, rfl, hs1⟩ := sr_int hs
  obtain ⟨hd, ht, rfl⟩ := hd
  exact lv_if_lt hC.1 hC.2.1 hd ht (fun h => (kt h p l e R s m args below meth c D cA A L ws H locs cells slots Qf ls _ hC hX hW hl hs1 hc hq hK)) (fun h => (kf h p l e R s m args below meth c D cA A L ws H locs cells slots Qf ls _ hC hX hW hl hs1 hc hq hK))
theorem Ev_icmp_lt {x y : Int32} {off : Int} {tg : Nat} (hd : bx mi.2.1 pc (.if_icmp .lt off) off tg pc2) (kt : x < y → Ev X mi d b tg la st S Q) (kf : ¬ x < y → Ev X mi d b pc2 la st S Q) : Ev X mi d b pc la (.int y :: .int x :: st) S Q := by
  intro p l e R s m args below meth c D cA A L ws H locs cells slots Qf ls st' hC hX hW hl hs hc hq hK
  obtain ⟨r_y, rfl, hs1⟩ := sr_int hs
  obtain ⟨r_x, rfl, hs2⟩ := sr_int hs1
  obtain ⟨hd, ht, rfl⟩ := hd
  exact lv_icmp_lt hC.1 hC.2.1 hd ht (fun h => (kt h p l e R s m args below meth c D cA A L ws H locs cells slots Qf ls _ hC hX hW hl hs2 hc hq hK)) (fun h => (kf h p l e R s m args below meth c D cA A L ws H locs cells slots Qf ls _ hC hX hW hl hs2 hc hq hK))
theorem Ev_if_ge {x : Int32} {off : Int} {tg : Nat} (hd : bx mi.2.1 pc (.ifCond .ge off) off tg pc2) (kt : 0 ≤ x → Ev X mi d b tg la st S Q) (kf : ¬ 0 ≤ x → Ev X mi d b pc2 la st S Q) : Ev X mi d b pc la (.int x :: st) S Q := by
  intro p l e R s m args below meth c D cA A L ws H locs cells slots Qf ls st' hC hX hW hl hs hc hq hK
  obtain ⟨r_x, rfl, hs1⟩ := sr_int hs
  obtain ⟨hd, ht, rfl⟩ := hd
  exact lv_if_ge hC.1 hC.2.1 hd ht (fun h => (kt h p l e R s m args below meth c D cA A L ws H locs cells slots Qf ls _ hC hX hW hl hs1 hc hq hK)) (fun h => (kf h p l e R s m args below meth c D cA A L ws H locs cells slots Qf ls _ hC hX hW hl hs1 hc hq hK))
theorem Ev_icmp_ge {x y : Int32} {off : Int} {tg : Nat} (hd : bx mi.2.1 pc (.if_icmp .ge off) off tg pc2) (kt : y ≤ x → Ev X mi d b tg la st S Q) (kf : ¬ y ≤ x → Ev X mi d b pc2 la st S Q) : Ev X mi d b pc la (.int y :: .int x :: st) S Q := by
  intro p l e R s m args below meth c D cA A L ws H locs cells slots Qf ls st' hC hX hW hl hs hc hq hK
  obtain ⟨r_y, rfl, hs1⟩ := sr_int hs
  obtain ⟨r_x, rfl, hs2⟩ := sr_int hs1
  obtain ⟨hd, ht, rfl⟩ := hd
  exact lv_icmp_ge hC.1 hC.2.1 hd ht (fun h => (kt h p l e R s m args below meth c D cA A L ws H locs cells slots Qf ls _ hC hX hW hl hs2 hc hq hK)) (fun h => (kf h p l e R s m args below meth c D cA A L ws H locs cells slots Qf ls _ hC hX hW hl hs2 hc hq hK))
theorem Ev_if_gt {x : Int32} {off : Int} {tg : Nat} (hd : bx mi.2.1 pc (.ifCond .gt off) off tg pc2) (kt : 0 < x → Ev X mi d b tg la st S Q) (kf : ¬ 0 < x → Ev X mi d b pc2 la st S Q) : Ev X mi d b pc la (.int x :: st) S Q := by
  intro p l e R s m args below meth c D cA A L ws H locs cells slots Qf ls st' hC hX hW hl hs hc hq hK
  obtain ⟨r_x, rfl, hs1⟩ := sr_int hs
  obtain ⟨hd, ht, rfl⟩ := hd
  exact lv_if_gt hC.1 hC.2.1 hd ht (fun h => (kt h p l e R s m args below meth c D cA A L ws H locs cells slots Qf ls _ hC hX hW hl hs1 hc hq hK)) (fun h => (kf h p l e R s m args below meth c D cA A L ws H locs cells slots Qf ls _ hC hX hW hl hs1 hc hq hK))
theorem Ev_icmp_gt {x y : Int32} {off : Int} {tg : Nat} (hd : bx mi.2.1 pc (.if_icmp .gt off) off tg pc2) (kt : y < x → Ev X mi d b tg la st S Q) (kf : ¬ y < x → Ev X mi d b pc2 la st S Q) : Ev X mi d b pc la (.int y :: .int x :: st) S Q := by
  intro p l e R s m args below meth c D cA A L ws H locs cells slots Qf ls st' hC hX hW hl hs hc hq hK
  obtain ⟨r_y, rfl, hs1⟩ := sr_int hs
  obtain ⟨r_x, rfl, hs2⟩ := sr_int hs1
  obtain ⟨hd, ht, rfl⟩ := hd
  exact lv_icmp_gt hC.1 hC.2.1 hd ht (fun h => (kt h p l e R s m args below meth c D cA A L ws H locs cells slots Qf ls _ hC hX hW hl hs2 hc hq hK)) (fun h => (kf h p l e R s m args below meth c D cA A L ws H locs cells slots Qf ls _ hC hX hW hl hs2 hc hq hK))
theorem Ev_if_le {x : Int32} {off : Int} {tg : Nat} (hd : bx mi.2.1 pc (.ifCond .le off) off tg pc2) (kt : x ≤ 0 → Ev X mi d b tg la st S Q) (kf : ¬ x ≤ 0 → Ev X mi d b pc2 la st S Q) : Ev X mi d b pc la (.int x :: st) S Q := by
  intro p l e R s m args below meth c D cA A L ws H locs cells slots Qf ls st' hC hX hW hl hs hc hq hK
  obtain ⟨r_x, rfl, hs1⟩ := sr_int hs
  obtain ⟨hd, ht, rfl⟩ := hd
  exact lv_if_le hC.1 hC.2.1 hd ht (fun h => (kt h p l e R s m args below meth c D cA A L ws H locs cells slots Qf ls _ hC hX hW hl hs1 hc hq hK)) (fun h => (kf h p l e R s m args below meth c D cA A L ws H locs cells slots Qf ls _ hC hX hW hl hs1 hc hq hK))
theorem Ev_icmp_le {x y : Int32} {off : Int} {tg : Nat} (hd : bx mi.2.1 pc (.if_icmp .le off) off tg pc2) (kt : x ≤ y → Ev X mi d b tg la st S Q) (kf : ¬ x ≤ y → Ev X mi d b pc2 la st S Q) : Ev X mi d b pc la (.int y :: .int x :: st) S Q := by
  intro p l e R s m args below meth c D cA A L ws H locs cells slots Qf ls st' hC hX hW hl hs hc hq hK
  obtain ⟨r_y, rfl, hs1⟩ := sr_int hs
  obtain ⟨r_x, rfl, hs2⟩ := sr_int hs1
  obtain ⟨hd, ht, rfl⟩ := hd
  exact lv_icmp_le hC.1 hC.2.1 hd ht (fun h => (kt h p l e R s m args below meth c D cA A L ws H locs cells slots Qf ls _ hC hX hW hl hs2 hc hq hK)) (fun h => (kf h p l e R s m args below meth c D cA A L ws H locs cells slots Qf ls _ hC hX hW hl hs2 hc hq hK))
theorem Ev_goto {off : Int} {tg : Nat} (hd : bx mi.2.1 pc (.goto off) off tg pc2) (k : Ev X mi d b tg la st S Q) : Ev X mi d b pc la st S Q := by
  intro p l e R s m args below meth c D cA A L ws H locs cells slots Qf ls st' hC hX hW hl hs hc hq hK
  obtain ⟨hd, ht, rfl⟩ := hd
  exact lv_goto hC.1 hC.2.1 hd ht (k p l e R s m args below meth c D cA A L ws H locs cells slots Qf ls _ hC hX hW hl hs hc hq hK)
theorem Ev_ifnull {x : Nat} {off : Int} {tg : Nat} (hd : bx mi.2.1 pc (.ifnull off) off tg pc2) (k : Ev X mi d b pc2 la st S Q) : Ev X mi d b pc la (.ref x :: st) S Q := by
  intro p l e R s m args below meth c D cA A L ws H locs cells slots Qf ls st' hC hX hW hl hs hc hq hK
  obtain ⟨a, r_x, rfl, hax, hs1⟩ := sr_ref hs
  obtain ⟨hd, ht, rfl⟩ := hd
  exact lv_ifnull hC.1 hC.2.1 hd (k p l e R s m args below meth c D cA A L ws H locs cells slots Qf ls _ hC hX hW hl hs1 hc hq hK)
theorem Ev_ifnullN {off : Int} {tg : Nat} (hd : bx mi.2.1 pc (.ifnull off) off tg pc2) (k : Ev X mi d b tg la st S Q) : Ev X mi d b pc la (.null :: st) S Q := by
  intro p l e R s m args below meth c D cA A L ws H locs cells slots Qf ls st' hC hX hW hl hs hc hq hK
  obtain ⟨r_x, rfl, hs1⟩ := sr_null hs
  obtain ⟨hd, ht, rfl⟩ := hd
  exact lv_ifnullN hC.1 hC.2.1 hd ht (k p l e R s m args below meth c D cA A L ws H locs cells slots Qf ls _ hC hX hW hl hs1 hc hq hK)
theorem Ev_ifnonnull {x : Nat} {off : Int} {tg : Nat} (hd : bx mi.2.1 pc (.ifnonnull off) off tg pc2) (k : Ev X mi d b tg la st S Q) : Ev X mi d b pc la (.ref x :: st) S Q := by
  intro p l e R s m args below meth c D cA A L ws H locs cells slots Qf ls st' hC hX hW hl hs hc hq hK
  obtain ⟨a, r_x, rfl, hax, hs1⟩ := sr_ref hs
  obtain ⟨hd, ht, rfl⟩ := hd
  exact lv_ifnonnull hC.1 hC.2.1 hd ht (k p l e R s m args below meth c D cA A L ws H locs cells slots Qf ls _ hC hX hW hl hs1 hc hq hK)
theorem Ev_ifnonnullN {off : Int} {tg : Nat} (hd : bx mi.2.1 pc (.ifnonnull off) off tg pc2) (k : Ev X mi d b pc2 la st S Q) : Ev X mi d b pc la (.null :: st) S Q := by
  intro p l e R s m args below meth c D cA A L ws H locs cells slots Qf ls st' hC hX hW hl hs hc hq hK
  obtain ⟨r_x, rfl, hs1⟩ := sr_null hs
  obtain ⟨hd, ht, rfl⟩ := hd
  exact lv_ifnonnullN hC.1 hC.2.1 hd (k p l e R s m args below meth c D cA A L ws H locs cells slots Qf ls _ hC hX hW hl hs1 hc hq hK)
/-- a switch over a row of numbers from lo on: x is the i-th, or none -/
theorem Ev_tableIn {dflt lo hi : Int} {offs : Array Int} {len : Nat} {x : Int32} {off : Int} {tg : Nat} (i : Nat) (hd : nx mi.2.1 pc (.tableswitch dflt lo hi offs) len pc2) (hxi : x.toInt = lo + (i : Int)) (h2 : lo + (i : Int) ≤ hi) (ho : offs[i]? = some off) (ht : (pc : Int) + off = (tg : Int)) (k : Ev X mi d b tg la st S Q) : Ev X mi d b pc la (.int x :: st) S Q := by
  intro p l e R s m args below meth c D cA A L ws H locs cells slots Qf ls st' hC hX hW hl hs hc hq hK
  obtain ⟨r_x, rfl, hs1⟩ := sr_int hs
  exact lv_tableIn hC.1 hC.2.1 hd.1 (by omega) (by omega) (by rw [hxi, show lo + (i : Int) - lo = (i : Int) by omega]; exact ho) ht (k p l e R s m args below meth c D cA A L ws H locs cells slots Qf ls _ hC hX hW hl hs1 hc hq hK)
theorem Ev_tableOut {dflt lo hi : Int} {offs : Array Int} {len : Nat} {x : Int32} {tg : Nat} (hd : nx mi.2.1 pc (.tableswitch dflt lo hi offs) len pc2) (h : x.toInt < lo ∨ hi < x.toInt) (ht : (pc : Int) + dflt = (tg : Int)) (k : Ev X mi d b tg la st S Q) : Ev X mi d b pc la (.int x :: st) S Q := by
  intro p l e R s m args below meth c D cA A L ws H locs cells slots Qf ls st' hC hX hW hl hs hc hq hK
  obtain ⟨r_x, rfl, hs1⟩ := sr_int hs
  exact lv_tableOut hC.1 hC.2.1 hd.1 h ht (k p l e R s m args below meth c D cA A L ws H locs cells slots Qf ls _ hC hX hW hl hs1 hc hq hK)
theorem Ev_lookup {dflt : Int} {ps : Array (Int × Int)} {len : Nat} {x : Int32} {off : Int} {tg : Nat} (hd : nx mi.2.1 pc (.lookupswitch dflt ps) len pc2) (hp : (ps.toList.zip (ps.toList.drop 1)).all (fun (a, next) => a.1 < next.1) = true) (ho : Op.lookupswitch.offset ps.toList dflt x.toInt = off) (ht : (pc : Int) + off = (tg : Int)) (k : Ev X mi d b tg la st S Q) : Ev X mi d b pc la (.int x :: st) S Q := by
  intro p l e R s m args below meth c D cA A L ws H locs cells slots Qf ls st' hC hX hW hl hs hc hq hK
  obtain ⟨r_x, rfl, hs1⟩ := sr_int hs
  exact lv_lookup hC.1 hC.2.1 hd.1 hp ho ht (k p l e R s m args below meth c D cA A L ws H locs cells slots Qf ls _ hC hX hW hl hs1 hc hq hK)
/-- a name for what is on the stack -/
theorem Ev_topi {x y : Int32} (h : x = y) (k : Ev X mi d b pc la (.int y :: st) S Q) : Ev X mi d b pc la (.int x :: st) S Q := by rw [h]; exact k
theorem Ev_topl {x y : Int64} (h : x = y) (k : Ev X mi d b pc la (.long y :: st) S Q) : Ev X mi d b pc la (.long x :: st) S Q := by rw [h]; exact k
theorem Ev_mono {Q2 : Option Value → aS → Prop} (h : ∀ v S2, Q v S2 → Q2 v S2) (k : Ev X mi d b pc la st S Q) : Ev X mi d b pc la st S Q2 := by
  intro p l e R s m args below meth c D cA A L ws H locs cells slots Qf ls st' hC hX hW hl hs hc hq hK
  exact k p l e R s m args below meth c D cA A L ws H locs cells slots Qf ls _ hC hX hW hl hs hc hq (fun v S' M ws' H' locs' cells' slots' g h1 => hK v S' M ws' H' locs' cells' slots' g (h v S' h1))
/-- returns -/
theorem Ev_iret {x : Int32} {ty : FieldType} (hd : nx mi.2.1 pc .ireturn 1 pc2) (hr : mi.2.2.2 = some ty) (hn : narrow ty (.int x) = .int x) (k : Q (some (.int x)) S) : Ev X mi d b pc la [.int x] S Q := by
  intro p l e R s m args below meth c D cA A L ws H locs cells slots Qf ls st' hC hX hW hl hs hc hq hK
  obtain ⟨r_x, rfl, hs1⟩ := sr_int hs
  rw [sr_nil hs1]
  refine hK _ S [] ws H locs cells slots _ k ?_ (by omega) (by omega) ⟨pc, ls, Or.inl ⟨x, ty, rfl, hr, hn, hd.1, rfl⟩⟩
  rw [List.append_nil]; exact hW
theorem Ev_lret {x : Int64} (hd : nx mi.2.1 pc .lreturn 1 pc2) (hr : mi.2.2.2 = some .long) (k : Q (some (.long x)) S) : Ev X mi d b pc la [.long x] S Q := by
  intro p l e R s m args below meth c D cA A L ws H locs cells slots Qf ls st' hC hX hW hl hs hc hq hK
  obtain ⟨r_x, rfl, hs1⟩ := sr_long hs
  rw [sr_nil hs1]
  refine hK _ S [] ws H locs cells slots _ k ?_ (by omega) (by omega) ⟨pc, ls, Or.inr (Or.inl ⟨x, rfl, hr, hd.1, rfl⟩)⟩
  rw [List.append_nil]; exact hW
theorem Ev_aret {i : Nat} {n : String} (hd : nx mi.2.1 pc .areturn 1 pc2) (hr : mi.2.2.2 = some (.object n)) (k : Q (some (.ref i)) S) : Ev X mi d b pc la [.ref i] S Q := by
  intro p l e R s m args below meth c D cA A L ws H locs cells slots Qf ls st' hC hX hW hl hs hc hq hK
  obtain ⟨a, r_x, rfl, hax, hs1⟩ := sr_ref hs
  rw [sr_nil hs1]
  refine hK _ S [] ws H locs cells slots _ k ?_ (by omega) (by omega) ⟨pc, ls, Or.inr (Or.inr (Or.inl ⟨_, .ref a, n, rfl, ?_, Or.inr ⟨a, rfl⟩, hr, hd.1, rfl⟩))⟩
  · rw [List.append_nil]; exact hW
  · simp only [mv, List.append_nil, hax, Option.map_some]
theorem Ev_aretN {n : String} (hd : nx mi.2.1 pc .areturn 1 pc2) (hr : mi.2.2.2 = some (.object n)) (k : Q (some .null) S) : Ev X mi d b pc la [.null] S Q := by
  intro p l e R s m args below meth c D cA A L ws H locs cells slots Qf ls st' hC hX hW hl hs hc hq hK
  obtain ⟨r_x, rfl, hs1⟩ := sr_null hs
  rw [sr_nil hs1]
  refine hK _ S [] ws H locs cells slots _ k ?_ (by omega) (by omega) ⟨pc, ls, Or.inr (Or.inr (Or.inl ⟨_, .null, n, rfl, rfl, Or.inl rfl, hr, hd.1, rfl⟩))⟩
  rw [List.append_nil]; exact hW
theorem Ev_vret (hd : nx mi.2.1 pc .return_ 1 pc2) (hr : mi.2.2.2 = none) (k : Q none S) : Ev X mi d b pc la [] S Q := by
  intro p l e R s m args below meth c D cA A L ws H locs cells slots Qf ls st' hC hX hW hl hs hc hq hK
  rw [sr_nil hs]
  refine hK _ S [] ws H locs cells slots _ k ?_ (by omega) (by omega) ⟨pc, ls, Or.inr (Or.inr (Or.inr ⟨rfl, hr, hd.1, rfl⟩))⟩
  rw [List.append_nil]; exact hW
end EVR
