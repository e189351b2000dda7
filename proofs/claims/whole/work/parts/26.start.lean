/-! THE CLAIM OUT OF ONE WALK OF THE LAW'S BODY. Your part is whole_start (and what it stands on); all else here is the same for every law, but numbers. -/
def R_law : String := "HomeByFourLaw"
def lw_P (b : Addr) (xs : List Int32) (args : Array Value) (s : State) : Prop := args = #[.ref b] ∧ s.IntsAt b xs ∧ xs.length ≤ 384 ∧ (Jvm.Cond.and given_1 narrow_1).before args s = true
def lw_Q (_ : Array Value) (s : State) (o : Outcome) (t : State) : Prop := o = .returned (some (.int 1)) ∧ Framed s o t [] 600000 7302250
def lw_Z (below : List Frame) (a : Array Value) (s : State) : State → Prop := fun t => ∃ o, t.status = .running ∧ Ended t below o ∧ lw_Q a s o t
/-- the law's own end, with 1 on the stack, nothing written that was there before, its room as the claim has it -/
theorem lw_ret {p : Program} {l : Launch} {e : Env} {s : State} {m : MethodId} {below : List Frame} {meth : Method} {c : Code} {b : Nat} (hx : p.tables.exec = Jvm.exec) (hb : c.code = code) (hr : meth.sig.returnType = ret) (hlocks : meth.locks = false) {pc : Nat} {H : Heap} {ls : Array Slot} (hdg : decode code pc = .ok (.ireturn, 1)) : W p l e room_1 s m #[Value.ref b] below meth c H [] 600000 7302250 (lw_Z below #[Value.ref b] s) (F0 m pc ls [.int 1]) := by
  intro T hT X
  obtain ⟨fs, hret, hrun, hended, hW, hframe⟩ := X.leave (v := some (.int 1)) (hlocks := hlocks) (fun h => by rw [hr] at h; cases h)
  have hmeth' : T.vm.method? m = some meth := X.method'
  refine ⟨T.setFrames fs, ?_, .returned (some (.int 1)), hrun, hended, rfl, ⟨_, rfl⟩, hW, hframe⟩
  jvm_step X.here [X.here.top, hx, hb, hdg, hmeth', hr, ret, narrow_b1]
  (try refine ⟨rfl, ?_⟩); (try refine ⟨rfl, ?_⟩)
  first | (intro acts; rw [hret _ acts rfl rfl rfl]) | rw [hret _ _ rfl rfl rfl]
  exact Steps.refl _
/-- what holds at the law's entry: the machine, the code, the tables' words (any of lw_tbl by 'hts w (by decide +kernel)'), the script of L ints xs at the cell b, what the Statement gives of the start (any of its parts by flat_of_before) -/
def lw_At (p : Program) (s : State) (m : MethodId) (meth : Method) (c : Code) (b L : Nat) (xs : Nat → Int32) : Prop :=
  p.tables.exec = Jvm.exec ∧ c.code = code ∧ meth.sig.returnType = ret ∧ c.maxLocals = 4 ∧ s.vm.findClass R_law = some m.cls ∧ (∀ w ∈ lw_tbl, w.before #[Value.ref b] s = true) ∧ va_X b L xs s s.heap ∧ b < s.heap.size ∧ meth.locks = false ∧ (Jvm.Cond.and given_1 narrow_1).before #[Value.ref b] s = true ∧ meth.name = "law"
theorem wl_inst : okW [Cond.instantiable RX0 2, Cond.instantiable RX1 9, Cond.instantiable RX2 9, Cond.instantiable RX3 1, Cond.instantiable RX4 13, Cond.instantiable RX5 3, Cond.instantiable RX6 9, Cond.instantiable RX7 9, Cond.instantiable RX8 3, Cond.instantiable RX9 1, Cond.instantiable RX10 6, Cond.instantiable RX11 8, Cond.instantiable RX12 40] = true := by decide +kernel
theorem ex_cls {s : State} {args : Array Value} (hts : ∀ w ∈ BIG, w.before args s = true) : ∃ D : va_G, ∀ (k : Nat) (q : vw_C), vwCl[k]? = some q → u_Kn s q.1 q.2.1 q.2.2 (D.1 k) (D.2 k) := by
  have h : ∀ k : Nat, ∃ (c : ClassId) (i : Nat → Nat), ∀ q : vw_C, vwCl[k]? = some q → u_Kn s q.1 q.2.1 q.2.2 c i := by
    intro k
    cases hk : vwCl[k]? with
    | none => exact ⟨0, fun _ => 0, fun q h => by cases h⟩
    | some q =>
      obtain ⟨C, T, N⟩ := q
      have hi : Cond.instantiable C N ∈ BIG := by
        match k, hk with
        | 0, hk => cases hk; exact okW_in wl_inst _ (List.mem_of_getElem? (i := 0) rfl)
        | 1, hk => cases hk; exact okW_in wl_inst _ (List.mem_of_getElem? (i := 1) rfl)
        | 2, hk => cases hk; exact okW_in wl_inst _ (List.mem_of_getElem? (i := 2) rfl)
        | 3, hk => cases hk; exact okW_in wl_inst _ (List.mem_of_getElem? (i := 3) rfl)
        | 4, hk => cases hk; exact okW_in wl_inst _ (List.mem_of_getElem? (i := 4) rfl)
        | 5, hk => cases hk; exact okW_in wl_inst _ (List.mem_of_getElem? (i := 5) rfl)
        | 6, hk => cases hk; exact okW_in wl_inst _ (List.mem_of_getElem? (i := 6) rfl)
        | 7, hk => cases hk; exact okW_in wl_inst _ (List.mem_of_getElem? (i := 7) rfl)
        | 8, hk => cases hk; exact okW_in wl_inst _ (List.mem_of_getElem? (i := 8) rfl)
        | 9, hk => cases hk; exact okW_in wl_inst _ (List.mem_of_getElem? (i := 9) rfl)
        | 10, hk => cases hk; exact okW_in wl_inst _ (List.mem_of_getElem? (i := 10) rfl)
        | 11, hk => cases hk; exact okW_in wl_inst _ (List.mem_of_getElem? (i := 11) rfl)
        | 12, hk => cases hk; exact okW_in wl_inst _ (List.mem_of_getElem? (i := 12) rfl)
        | n + 13, hk => simp [vwCl] at hk
      obtain ⟨c, i, h1⟩ := u_known hts (cl_ok hk).1 (hts _ hi)
      exact ⟨c, i, fun q h => by cases h; exact h1⟩
  exact ⟨(fun k => Classical.choose (h k), fun k => Classical.choose (Classical.choose_spec (h k))), fun k q hq => Classical.choose_spec (Classical.choose_spec (h k)) q hq⟩
theorem ex_prim {s : State} {args : Array Value} {ty : FieldType} (h : (Cond.arrayClass ty).before args s = true) (hty : ty = .int ∨ ty = .long ∨ ty = .boolean) : ∃ c : ClassId, ArrOfT s c ty ∧ va_RA s c ty := by
  obtain ⟨c, k, comp, h1, h2, h3⟩ := Cond.arrayClass_spec h
  refine ⟨c, fun n z => ⟨fun k h => (by cases h), k, h2, comp, h3⟩, ?_⟩
  rcases hty with rfl | rfl | rfl <;> exact h1
theorem ex_obj {s : State} {C : String} (h : va_AO C s) : ∃ c : ClassId, ArrOfT s c (.object C) ∧ va_RA s c (.object C) := by
  obtain ⟨comp, c, k, h1, h2, h3, h4, h5⟩ := Cond.arrayOver_spec h
  exact ⟨c, fun n z => ⟨fun k h => (by cases h), k, h3, comp, h4⟩, k, comp, h3, h4, h1, h5⟩
theorem nc_in : (aNC.map fun q => Cond.not (.castable q.1 q.2)).all (fun w => decide (w ∈ flatC (Jvm.Cond.and given_1 narrow_1))) = true := by decide +kernel
theorem ao_in : (aAO.map fun C => Cond.arrayOver (.object C)).all (fun w => decide (w ∈ lw_tbl)) = true := by decide +kernel
theorem ca_in : (aCA.map fun q => Cond.castable q.1 q.2).all (fun w => decide (w ∈ lw_tbl)) = true := by decide +kernel
theorem ne_in : (aNE.map fun q => Cond.methodLinkNest q.1 q.2.1 q.2.2.1 q.2.2.2).all (fun w => decide (w ∈ lw_tbl)) = true := by decide +kernel
theorem all_in {α : Type} {l : List α} {f : α → Cond} {B : List Cond} (h : (l.map f).all (fun w => decide (w ∈ B)) = true) : ∀ q ∈ l, f q ∈ B := fun q hq => by
  have := List.all_eq_true.mp h (f q) (List.mem_map.mpr ⟨q, hq, rfl⟩)
  simpa using this
theorem whole_of (H : ALLP) {p : Program} {e : Env} {s : State} {m : MethodId} {below : List Frame} {meth : Method} {c : Code} (l : Launch) {b L : Nat} {xs : Nat → Int32} (hL : L ≤ 384) (C0 : lw_At p s m meth c b L xs) : W p l e room_1 s m #[Value.ref b] below meth c s.heap [] 0 0 (lw_Z below #[Value.ref b] s) (entryFrame m ([Value.ref b] : List Value).toArray 4) := by
  obtain ⟨hx, hb, hr, hml, hown, hts, hX, hbl, hlocks, hgv, hnm⟩ := C0
  have htB : ∀ w ∈ BIG, w.before #[Value.ref b] s = true := fun w hw => hts w (List.mem_filter.mp hw).1
  have hAO : ∀ C ∈ aAO, va_AO C s := fun C hC => va_AO.of (hts _ (all_in ao_in C hC))
  obtain ⟨D, hD⟩ := ex_cls htB
  obtain ⟨a0, p0⟩ := ex_prim (htB _ wl_arr_int) (Or.inl rfl)
  obtain ⟨a1, p1⟩ := ex_prim (htB _ wl_arr_long) (Or.inr (Or.inl rfl))
  obtain ⟨a2, p2⟩ := ex_prim (htB _ wl_arr_boolean) (Or.inr (Or.inr rfl))
  obtain ⟨a3, p3⟩ := ex_obj (hAO "HomeByFour$Sheet" (by decide))
  obtain ⟨a4, p4⟩ := ex_obj (hAO "HomeByFour$Stretch" (by decide))
  obtain ⟨a5, p5⟩ := ex_obj (hAO "HomeByFour$Walk" (by decide))
  have hK : va_K D vwCl (atys (fun k => [a0, a1, a2, a3, a4, a5].getD k 0)) s := by
    refine ⟨hD, fun k q hq => ?_⟩
    match k, hq with
    | 0, hq => cases hq; exact p0
    | 1, hq => cases hq; exact p1
    | 2, hq => cases hq; exact p2
    | 3, hq => cases hq; exact p3
    | 4, hq => cases hq; exact p4
    | 5, hq => cases hq; exact p5
    | n + 6, hq => simp [atys] at hq
  have hfl := flat_of_before _ hgv
  have hEX : EX D (fun k => [a0, a1, a2, a3, a4, a5].getD k 0) s := ⟨hK, hAO, fun q hq => va_Nc.of (hfl _ (all_in nc_in q hq)), fun q hq => va_Nw.of rfl (hts _ (all_in ca_in q hq)), fun q hq => va_Nw.of rfl (hts _ (all_in ne_in q hq))⟩
  have hl := lv_entry ([.ref b]) (n := 4) (Nat.le_of_ble_eq_true rfl)
  rw [lg_entry_eq]
  refine law_start (d := 100) (L := L) (xs := xs) H hL p l e room_1 s m #[Value.ref b] below meth c D (fun k => [a0, a1, a2, a3, a4, a5].getD k 0) (fun q => s.heap.size ≤ q) (b, []) [] s.heap [] 0 0 _ _ [] ⟨hx, hb, hr, hml, hown, htB, hlocks, hnm, hEX, by decide, by decide⟩ ?_ ⟨⟨rfl, rfl, fun i e h => by simp at h⟩, fun k q h => by simp at h, ⟨fun i j p q h => by simp at h, fun k q h => by simp at h⟩, va_S.rf, fun q h => h⟩ ⟨rfl, _, hl, ?_⟩ rfl (by decide) (by decide) ?_
  · intro n ys h
    cases h
    exact ⟨hX, hbl, Nat.not_le.mpr hbl⟩
  · intro i v hv
    match i, hv with
    | 0, hv => cases hv; exact ⟨_, rfl, List.mem_cons_self⟩
    | 1, hv => simp at hv
    | 2, hv => simp at hv
    | 3, hv => simp at hv
    | n + 4, hv => simp at hv
  · intro v S' M ws' H' locs' cells' slots' g hQ hW hc hq hR
    subst hQ
    obtain ⟨pc, ls, hR⟩ := hR
    rcases hR with ⟨x, ty, h1, r1, r2, r3, rfl⟩ | ⟨x, h1, r1, r3, rfl⟩ | ⟨u, u', n, h1, r0, r1, r2, r3, rfl⟩ | ⟨h1, r1, r3, rfl⟩
    · cases h1
      refine va_forget (fun q hq => hW.2.2.2.1.2.2 q hq) ?_
      refine W.widen (k := 600000) (n := 7302250) hc hq ?_
      exact lw_ret hx hb hr hlocks r3
    · cases h1
    · cases h1
      simp [mv] at r0
      rcases r1 with rfl | ⟨a, rfl⟩ <;> cases r0
    · cases h1
