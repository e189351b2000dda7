/-! ===== the classes, their fields ===== -/
def okW (ws : List Cond) : Bool := ws.all (fun w => decide (w ∈ lw_tbl) && goodWord w)
theorem okW_in {ws : List Cond} (h : okW ws = true) : ∀ w ∈ ws, w ∈ BIG := by
  intro w hw
  have h1 := List.all_eq_true.mp h w hw
  simp only [Bool.and_eq_true, decide_eq_true_eq] at h1
  exact big_of h1.1 h1.2
theorem okB {w : Cond} (h : okW [w] = true) : w ∈ BIG := okW_in h w List.mem_cons_self
set_option maxRecDepth 20000 in
theorem inB0 : ∀ w ∈ wsX00, w ∈ BIG := okW_in (by decide +kernel)
set_option maxRecDepth 20000 in
theorem inB1 : ∀ w ∈ wsX10, w ∈ BIG := okW_in (by decide +kernel)
set_option maxRecDepth 20000 in
theorem inB2 : ∀ w ∈ wsX20, w ∈ BIG := okW_in (by decide +kernel)
set_option maxRecDepth 20000 in
theorem inB3 : ∀ w ∈ wsX30, w ∈ BIG := okW_in (by decide +kernel)
set_option maxRecDepth 20000 in
theorem inB4 : ∀ w ∈ wsX40, w ∈ BIG := okW_in (by decide +kernel)
set_option maxRecDepth 20000 in
theorem inB5 : ∀ w ∈ wsX50, w ∈ BIG := okW_in (by decide +kernel)
set_option maxRecDepth 20000 in
theorem inB6 : ∀ w ∈ wsX60, w ∈ BIG := okW_in (by decide +kernel)
set_option maxRecDepth 20000 in
theorem inB7 : ∀ w ∈ wsX70, w ∈ BIG := okW_in (by decide +kernel)
set_option maxRecDepth 20000 in
theorem inB8 : ∀ w ∈ wsX80, w ∈ BIG := okW_in (by decide +kernel)
set_option maxRecDepth 20000 in
theorem inB9 : ∀ w ∈ wsX90, w ∈ BIG := okW_in (by decide +kernel)
set_option maxRecDepth 20000 in
theorem inB10 : ∀ w ∈ wsX100, w ∈ BIG := okW_in (by decide +kernel)
set_option maxRecDepth 20000 in
theorem inB11 : ∀ w ∈ wsX110, w ∈ BIG := okW_in (by decide +kernel)
set_option maxRecDepth 20000 in
theorem inB12 : ∀ w ∈ wsX120, w ∈ BIG := okW_in (by decide +kernel)
theorem cl_ok {ci : Nat} {C : String} {T : u_T} {N : Nat} (h : vwCl[ci]? = some (C, T, N)) : (∀ w ∈ u_ws C T N, w ∈ BIG) ∧ (∃ ty0 : Nat → FieldType, ∀ k, k < N → parseFieldDescriptor (T k).2.2.1 = some (ty0 k)) ∧ (∀ a, a < N → ∀ b, b < N → a ≠ b → (T a).2.1 ≠ (T b).2.1) := by
  match ci, h with
  | 0, h => cases h; exact ⟨inB0, ⟨tyX0, tyX0_ok⟩, nmX0⟩
  | 1, h => cases h; exact ⟨inB1, ⟨tyX1, tyX1_ok⟩, nmX1⟩
  | 2, h => cases h; exact ⟨inB2, ⟨tyX2, tyX2_ok⟩, nmX2⟩
  | 3, h => cases h; exact ⟨inB3, ⟨tyX3, tyX3_ok⟩, nmX3⟩
  | 4, h => cases h; exact ⟨inB4, ⟨tyX4, tyX4_ok⟩, nmX4⟩
  | 5, h => cases h; exact ⟨inB5, ⟨tyX5, tyX5_ok⟩, nmX5⟩
  | 6, h => cases h; exact ⟨inB6, ⟨tyX6, tyX6_ok⟩, nmX6⟩
  | 7, h => cases h; exact ⟨inB7, ⟨tyX7, tyX7_ok⟩, nmX7⟩
  | 8, h => cases h; exact ⟨inB8, ⟨tyX8, tyX8_ok⟩, nmX8⟩
  | 9, h => cases h; exact ⟨inB9, ⟨tyX9, tyX9_ok⟩, nmX9⟩
  | 10, h => cases h; exact ⟨inB10, ⟨tyX10, tyX10_ok⟩, nmX10⟩
  | 11, h => cases h; exact ⟨inB11, ⟨tyX11, tyX11_ok⟩, nmX11⟩
  | 12, h => cases h; exact ⟨inB12, ⟨tyX12, tyX12_ok⟩, nmX12⟩
  | n + 13, h => simp [vwCl] at h
theorem obj_inst : Cond.instanceMethod objectInit ∈ BIG := okW_in (ws := [_]) (by decide +kernel) _ List.mem_cons_self
theorem cpy_nat : Cond.native arraycopyName ∈ BIG := okW_in (ws := [_]) (by decide +kernel) _ List.mem_cons_self
theorem cpy_sta : Cond.static arraycopyName ∈ BIG := okW_in (ws := [_]) (by decide +kernel) _ List.mem_cons_self
theorem cpy_ini : Cond.initialized "java/lang/System" ∈ BIG := okW_in (ws := [_]) (by decide +kernel) _ List.mem_cons_self
theorem obj_code : Cond.code objectInit ⟨#[0xb1]⟩ 1 none ∈ BIG := big_of (by decide +kernel) rfl
/-- the pool's entry idx of the class own is field k of an object of class ci; its type; whether it is final, and then of own -/
def FR (own : String) (idx ci k : Nat) (ty : FieldType) (fin : Bool) : Prop := ∃ (C : String) (T : u_T) (N : Nat) (ref : String), vwCl[ci]? = some (C, T, N) ∧ k < N ∧ Cond.fieldLink own idx ref (T k).2.1 (T k).2.2.1 ∈ BIG ∧ (ref = (T k).1 ∨ Cond.sameField ref (T k).1 (T k).2.1 (T k).2.2.1 ∈ BIG) ∧ parseFieldDescriptor (T k).2.2.1 = some ty ∧ (T k).2.2.2 = fin ∧ (fin = true → (T k).1 = own)
/-- for reading alone -/
def FG (own : String) (idx ci k : Nat) : Prop := ∃ (C : String) (T : u_T) (N : Nat) (ref : String), vwCl[ci]? = some (C, T, N) ∧ k < N ∧ Cond.fieldLink own idx ref (T k).2.1 (T k).2.2.1 ∈ BIG ∧ (ref = (T k).1 ∨ Cond.sameField ref (T k).1 (T k).2.1 (T k).2.2.1 ∈ BIG)
theorem fs_get {L : aA} {fs fs' : List Value} (h : fs.map (mv L) = fs'.map some) {k : Nat} {v : Value} (hv : fs[k]? = some v) : ∃ v', fs'[k]? = some v' ∧ mv L v = some v' := by
  have h1 := congrArg (fun z : List (Option Value) => z[k]?) h
  simp only [List.getElem?_map, hv, Option.map_some] at h1
  cases h2 : fs'[k]? with
  | none => rw [h2] at h1; simp at h1
  | some v' => rw [h2] at h1; exact ⟨v', rfl, Option.some.inj h1⟩
theorem fs_set {L : aA} {fs fs' : List Value} (h : fs.map (mv L) = fs'.map some) {k : Nat} {v v' : Value} (hv : mv L v = some v') : (fs.set k v).map (mv L) = (fs'.set k v').map some := by
  rw [List.map_set, List.map_set, h, hv]
theorem mv_fit {L : aA} {v v' : Value} {ty : FieldType} (h : mv L v = some v') (hn : narrow ty v = v) (hf : fits ty v = true) : narrow ty v' = v' ∧ fits ty v' = true := by
  cases v with
  | ref i =>
    obtain ⟨a, -, rfl⟩ := mv_ref h
    cases ty <;> simp [fits, narrow] at hf ⊢
  | retAddr k => cases ty <;> simp [fits] at hf
  | _ => cases Option.some.inj h; exact ⟨hn, hf⟩
section EVH
variable {X : Option (Nat × (Nat → Int32))} {mi : MI} {d b pc pc2 : Nat} {la la2 : aL} {st : List Value} {S : aS} {Q : Option Value → aS → Prop}
theorem Ev_get {a ci j idx : Nat} {fs : List Value} {v : Value} (hd : nx mi.2.1 pc (.getfield idx) 3 pc2) (hf : FG mi.1.cls idx ci j) (ho : S[a]? = some (.inr (ci, fs))) (hv : fs[j]? = some v) (k : Ev X mi d b pc2 la (v :: st) S Q) : Ev X mi d b pc la (.ref a :: st) S Q := by
  intro p l e R s m args below meth c D cA A L ws H locs cells slots Qf ls st' hC hX hW hl hs hc hq hK
  obtain ⟨a1, r1, rfl, hax, hs1⟩ := sr_ref hs
  obtain ⟨hd, rfl⟩ := hd
  obtain ⟨C, T, N, ref, f1, f2, f3, f4⟩ := hf
  obtain ⟨a2, e', g1, g2, g3⟩ := rel_get hW.1 ho
  cases hax.symm.trans g3
  obtain ⟨fs', rfl, g4⟩ := g2
  obtain ⟨v', g5, g6⟩ := fs_get g4 hv
  have hts := hC.2.2.2.2.2.1
  refine va_get (D := D) (ci := ci) hC.1 hC.2.1 hts (cl_ok f1).1 hC.2.2.2.2.1 hC.2.2.2.2.2.2.2.2.1.1 hW.2.1 a g1 f1 j f2 (hts _ f3) ?_ g5 hd (k p l e R s m args below meth c D cA A L ws H locs cells slots Qf ls _ hC hX hW hl (sr_push g6 hs1) hc hq hK)
  rcases f4 with rfl | f4
  · exact fun _ h => h
  · exact fun z h => u_same (hts _ f4) z h
theorem Ev_put {a ci j idx : Nat} {fs fs2 : List Value} {v : Value} {ty : FieldType} (hd : nx mi.2.1 pc (.putfield idx) 3 pc2) (hf : FR mi.1.cls idx ci j ty false) (ho : S[a]? = some (.inr (ci, fs))) (hs2 : lset fs j v = some fs2) (hn : narrow ty v = v) (hfi : fits ty v = true) (k : Ev X mi d b pc2 la st (S.set a (.inr (ci, fs2))) Q) : Ev X mi d b pc la (v :: .ref a :: st) S Q := by
  intro p l e R s m args below meth c D cA A L ws H locs cells slots Qf ls st' hC hX hW hl hs hc hq hK
  obtain ⟨v', r0, rfl, hv, hs0⟩ := sr_cons hs
  obtain ⟨a1, r1, rfl, hax, hs1⟩ := sr_ref hs0
  obtain ⟨hd, rfl⟩ := hd
  obtain ⟨C, T, N, ref, f1, f2, f3, f4, f5, f6, -⟩ := hf
  obtain ⟨a2, e', g1, g2, g3⟩ := rel_get hW.1 ho
  cases hax.symm.trans g3
  obtain ⟨fs', rfl, g4⟩ := g2
  obtain ⟨hl2, rfl⟩ := lset_ok _ _ _ _ hs2
  obtain ⟨c1, ⟨ty0, c2⟩, c3⟩ := cl_ok f1
  obtain ⟨n1, n2⟩ := mv_fit hv hn hfi
  have hts := hC.2.2.2.2.2.1
  have hlen : fs'.length = fs.length := by have := congrArg List.length g4; simpa using this.symm
  refine va_put (D := D) (ci := ci) hC.1 hC.2.1 hts c1 ty0 c2 c3 hC.2.2.2.2.1 hC.2.2.2.2.2.2.2.2.1.1 hW.2.1 hW.2.2.1 hW.2.2.2.1 a g1 f1 j f2 (hts _ f3) ?_ f6 f5 n1 n2 (by rw [hlen]; exact hl2) hd (fun H1 locs1 h1 h2 h3 => k p l e R s m args below meth c D cA A L _ H1 locs1 cells slots Qf ls _ hC hX ⟨rel_set hW.1 g1 ⟨_, rfl, fs_set g4 hv⟩, h1, h2, h3, hW.2.2.2.2⟩ hl hs1 hc hq hK)
  rcases f4 with rfl | f4
  · exact fun _ h => h
  · exact fun z h => u_same (hts _ f4) z h
/-- a final field, in its class' own constructor -/
theorem Ev_putF {a ci j idx : Nat} {fs fs2 : List Value} {v : Value} {ty : FieldType} (hd : nx mi.2.1 pc (.putfield idx) 3 pc2) (hf : FR mi.1.cls idx ci j ty true) (hin : mi.1.name = "<init>") (ho : S[a]? = some (.inr (ci, fs))) (hs2 : lset fs j v = some fs2) (hn : narrow ty v = v) (hfi : fits ty v = true) (k : Ev X mi d b pc2 la st (S.set a (.inr (ci, fs2))) Q) : Ev X mi d b pc la (v :: .ref a :: st) S Q := by
  intro p l e R s m args below meth c D cA A L ws H locs cells slots Qf ls st' hC hX hW hl hs hc hq hK
  obtain ⟨v', r0, rfl, hv, hs0⟩ := sr_cons hs
  obtain ⟨a1, r1, rfl, hax, hs1⟩ := sr_ref hs0
  obtain ⟨hd, rfl⟩ := hd
  obtain ⟨C, T, N, ref, f1, f2, f3, f4, f5, f6, f7⟩ := hf
  obtain ⟨a2, e', g1, g2, g3⟩ := rel_get hW.1 ho
  cases hax.symm.trans g3
  obtain ⟨fs', rfl, g4⟩ := g2
  obtain ⟨hl2, rfl⟩ := lset_ok _ _ _ _ hs2
  obtain ⟨c1, ⟨ty0, c2⟩, c3⟩ := cl_ok f1
  obtain ⟨n1, n2⟩ := mv_fit hv hn hfi
  have hts := hC.2.2.2.2.2.1
  have hlen : fs'.length = fs.length := by have := congrArg List.length g4; simpa using this.symm
  refine va_putF (D := D) (ci := ci) hC.1 hC.2.1 hts c1 ty0 c2 c3 hC.2.2.2.2.1 hC.2.2.2.2.2.2.2.2.1.1 hW.2.1 hW.2.2.1 hW.2.2.2.1 a g1 f1 j f2 (hts _ f3) ?_ f6 (by rw [hC.2.2.2.2.2.2.2.1]; exact hin) (f7 rfl) f5 n1 n2 (by rw [hlen]; exact hl2) hd (fun H1 locs1 h1 h2 h3 => k p l e R s m args below meth c D cA A L _ H1 locs1 cells slots Qf ls _ hC hX ⟨rel_set hW.1 g1 ⟨_, rfl, fs_set g4 hv⟩, h1, h2, h3, hW.2.2.2.2⟩ hl hs1 hc hq hK)
  rcases f4 with rfl | f4
  · exact fun _ h => h
  · exact fun z h => u_same (hts _ f4) z h
theorem Ev_iaload {a n : Nat} {f : Nat → Int32} {i : Int32} (hd : nx mi.2.1 pc (.iaload) 1 pc2) (ho : S[a]? = some (.inl (0, n, .inl f))) (hin : vp_in i n) (k : Ev X mi d b pc2 la (.int (f i.toNatClampNeg) :: st) S Q) : Ev X mi d b pc la (.int i :: .ref a :: st) S Q := by
  intro p l e R s m args below meth c D cA A L ws H locs cells slots Qf ls st' hC hX hW hl hs hc hq hK
  obtain ⟨r0, rfl, hs0⟩ := sr_int hs
  obtain ⟨a1, r1, rfl, hax, hs1⟩ := sr_ref hs0
  obtain ⟨hd, rfl⟩ := hd
  obtain ⟨a2, e', g1, g2, g3⟩ := rel_get hW.1 ho
  cases hax.symm.trans g3
  cases g2
  exact va_iald (D := D) hC.1 hC.2.1 hC.2.2.2.2.2.2.2.2.1.1 hW.2.1 a 0 g1 rfl hin hd (k p l e R s m args below meth c D cA A L ws H locs cells slots Qf ls _ hC hX hW hl (sr_push rfl hs1) hc hq hK)
theorem Ev_zaload {a n : Nat} {f : Nat → Int32} {i : Int32} (hd : nx mi.2.1 pc (.baload) 1 pc2) (ho : S[a]? = some (.inl (2, n, .inl f))) (hin : vp_in i n) (k : Ev X mi d b pc2 la (.int (f i.toNatClampNeg) :: st) S Q) : Ev X mi d b pc la (.int i :: .ref a :: st) S Q := by
  intro p l e R s m args below meth c D cA A L ws H locs cells slots Qf ls st' hC hX hW hl hs hc hq hK
  obtain ⟨r0, rfl, hs0⟩ := sr_int hs
  obtain ⟨a1, r1, rfl, hax, hs1⟩ := sr_ref hs0
  obtain ⟨hd, rfl⟩ := hd
  obtain ⟨a2, e', g1, g2, g3⟩ := rel_get hW.1 ho
  cases hax.symm.trans g3
  cases g2
  exact va_zald (D := D) hC.1 hC.2.1 hC.2.2.2.2.2.2.2.2.1.1 hW.2.1 a 2 g1 rfl hin hd (k p l e R s m args below meth c D cA A L ws H locs cells slots Qf ls _ hC hX hW hl (sr_push rfl hs1) hc hq hK)
theorem Ev_laload {a n : Nat} {f : Nat → Int64} {i : Int32} (hd : nx mi.2.1 pc (.laload) 1 pc2) (ho : S[a]? = some (.inl (1, n, .inr (.inl f)))) (hin : vp_in i n) (k : Ev X mi d b pc2 la (.long (f i.toNatClampNeg) :: st) S Q) : Ev X mi d b pc la (.int i :: .ref a :: st) S Q := by
  intro p l e R s m args below meth c D cA A L ws H locs cells slots Qf ls st' hC hX hW hl hs hc hq hK
  obtain ⟨r0, rfl, hs0⟩ := sr_int hs
  obtain ⟨a1, r1, rfl, hax, hs1⟩ := sr_ref hs0
  obtain ⟨hd, rfl⟩ := hd
  obtain ⟨a2, e', g1, g2, g3⟩ := rel_get hW.1 ho
  cases hax.symm.trans g3
  cases g2
  exact va_lald (D := D) hC.1 hC.2.1 hC.2.2.2.2.2.2.2.2.1.1 hW.2.1 a 1 g1 rfl hin hd (k p l e R s m args below meth c D cA A L ws H locs cells slots Qf ls _ hC hX hW hl (sr_push rfl hs1) hc hq hK)
theorem Ev_iastore {a n : Nat} {f : Nat → Int32} {i : Int32} {x : Int32} (hd : nx mi.2.1 pc (.iastore) 1 pc2) (ho : S[a]? = some (.inl (0, n, .inl f))) (hin : vp_in i n) (k : Ev X mi d b pc2 la st (S.set a (.inl (0, n, .inl (upd f i.toNatClampNeg x)))) Q) : Ev X mi d b pc la (.int x :: .int i :: .ref a :: st) S Q := by
  intro p l e R s m args below meth c D cA A L ws H locs cells slots Qf ls st' hC hX hW hl hs hc hq hK
  obtain ⟨r9, rfl, hs9⟩ := sr_int hs
  obtain ⟨r0, rfl, hs0⟩ := sr_int hs9
  obtain ⟨a1, r1, rfl, hax, hs1⟩ := sr_ref hs0
  obtain ⟨hd, rfl⟩ := hd
  obtain ⟨a2, e', g1, g2, g3⟩ := rel_get hW.1 ho
  cases hax.symm.trans g3
  cases g2
  exact va_iast (D := D) hC.1 hC.2.1 hC.2.2.2.2.2.2.2.2.1.1 hW.2.1 hW.2.2.1 hW.2.2.2.1 a 0 g1 rfl hin hd (fun H1 locs1 h1 h2 h3 => k p l e R s m args below meth c D cA A L _ H1 locs1 cells slots Qf ls _ hC hX ⟨rel_set hW.1 g1 rfl, h1, h2, h3, hW.2.2.2.2⟩ hl hs1 hc hq hK)
theorem Ev_zastore {a n : Nat} {f : Nat → Int32} {i : Int32} {x : Int32} (hd : nx mi.2.1 pc (.bastore) 1 pc2) (ho : S[a]? = some (.inl (2, n, .inl f))) (hin : vp_in i n) (k : Ev X mi d b pc2 la st (S.set a (.inl (2, n, .inl (upd f i.toNatClampNeg (vp_nar .boolean x))))) Q) : Ev X mi d b pc la (.int x :: .int i :: .ref a :: st) S Q := by
  intro p l e R s m args below meth c D cA A L ws H locs cells slots Qf ls st' hC hX hW hl hs hc hq hK
  obtain ⟨r9, rfl, hs9⟩ := sr_int hs
  obtain ⟨r0, rfl, hs0⟩ := sr_int hs9
  obtain ⟨a1, r1, rfl, hax, hs1⟩ := sr_ref hs0
  obtain ⟨hd, rfl⟩ := hd
  obtain ⟨a2, e', g1, g2, g3⟩ := rel_get hW.1 ho
  cases hax.symm.trans g3
  cases g2
  exact va_zast (D := D) hC.1 hC.2.1 hC.2.2.2.2.2.2.2.2.1.1 hW.2.1 hW.2.2.1 hW.2.2.2.1 a 2 g1 rfl hin hd (fun H1 locs1 h1 h2 h3 => k p l e R s m args below meth c D cA A L _ H1 locs1 cells slots Qf ls _ hC hX ⟨rel_set hW.1 g1 rfl, h1, h2, h3, hW.2.2.2.2⟩ hl hs1 hc hq hK)
theorem Ev_lastore {a n : Nat} {f : Nat → Int64} {i : Int32} {x : Int64} (hd : nx mi.2.1 pc (.lastore) 1 pc2) (ho : S[a]? = some (.inl (1, n, .inr (.inl f)))) (hin : vp_in i n) (k : Ev X mi d b pc2 la st (S.set a (.inl (1, n, .inr (.inl (vp_updL f i.toNatClampNeg x))))) Q) : Ev X mi d b pc la (.long x :: .int i :: .ref a :: st) S Q := by
  intro p l e R s m args below meth c D cA A L ws H locs cells slots Qf ls st' hC hX hW hl hs hc hq hK
  obtain ⟨r9, rfl, hs9⟩ := sr_long hs
  obtain ⟨r0, rfl, hs0⟩ := sr_int hs9
  obtain ⟨a1, r1, rfl, hax, hs1⟩ := sr_ref hs0
  obtain ⟨hd, rfl⟩ := hd
  obtain ⟨a2, e', g1, g2, g3⟩ := rel_get hW.1 ho
  cases hax.symm.trans g3
  cases g2
  exact va_last (D := D) hC.1 hC.2.1 hC.2.2.2.2.2.2.2.2.1.1 hW.2.1 hW.2.2.1 hW.2.2.2.1 a 1 g1 rfl hin hd (fun H1 locs1 h1 h2 h3 => k p l e R s m args below meth c D cA A L _ H1 locs1 cells slots Qf ls _ hC hX ⟨rel_set hW.1 g1 rfl, h1, h2, h3, hW.2.2.2.2⟩ hl hs1 hc hq hK)
theorem mq_rf {L : aA} {r r' : Option Nat} (h : mq L r r') : mv L (va_rf r) = some (va_rf r') := by
  cases r with
  | none => rw [show r' = none from h]; rfl
  | some i =>
    obtain ⟨a, h1, rfl⟩ := h
    show (L.2[i]?).map Value.ref = _
    rw [h1]
    rfl
theorem Ev_aaload {a n t : Nat} {f : Nat → Option Nat} {i : Int32} (hd : nx mi.2.1 pc .aaload 1 pc2) (ho : S[a]? = some (.inl (t, n, .inr (.inr (.inr (.inr f)))))) (ht : t = 3 ∨ t = 4 ∨ t = 5) (hin : vp_in i n) (k : Ev X mi d b pc2 la (va_rf (f i.toNatClampNeg) :: st) S Q) : Ev X mi d b pc la (.int i :: .ref a :: st) S Q := by
  intro p l e R s m args below meth c D cA A L ws H locs cells slots Qf ls st' hC hX hW hl hs hc hq hK
  obtain ⟨r0, rfl, hs0⟩ := sr_int hs
  obtain ⟨a1, r1, rfl, hax, hs1⟩ := sr_ref hs0
  obtain ⟨hd, rfl⟩ := hd
  obtain ⟨a2, e', g1, g2, g3⟩ := rel_get hW.1 ho
  cases hax.symm.trans g3
  obtain ⟨f', rfl, g4⟩ := g2
  have hk := k p l e R s m args below meth c D cA A L ws H locs cells slots Qf ls _ hC hX hW hl (sr_push (mq_rf (g4 i.toNatClampNeg)) hs1) hc hq hK
  rcases ht with rfl | rfl | rfl
  · exact va_aldq (D := D) hC.1 hC.2.1 hC.2.2.2.2.2.2.2.2.1.1 hW.2.1 a 3 g1 rfl hin hd hk
  · exact va_aldq (D := D) hC.1 hC.2.1 hC.2.2.2.2.2.2.2.2.1.1 hW.2.1 a 4 g1 rfl hin hd hk
  · exact va_aldq (D := D) hC.1 hC.2.1 hC.2.2.2.2.2.2.2.2.1.1 hW.2.1 a 5 g1 rfl hin hd hk
/-- what may be put into a row of kind t: an object of class ci -/
def AS (t ci : Nat) : Prop := ∃ (C : String) (T : u_T) (N : Nat) (E : String), vwCl[ci]? = some (C, T, N) ∧ (atys (fun _ => 0))[t]? = some (0, .object E) ∧ (C = E ∨ (C, E) ∈ aCA)
theorem Ev_aastore {a n t ci v : Nat} {vs : List Value} {f : Nat → Option Nat} {i : Int32} (hd : nx mi.2.1 pc .aastore 1 pc2) (ho : S[a]? = some (.inl (t, n, .inr (.inr (.inr (.inr f)))))) (hv : S[v]? = some (.inr (ci, vs))) (has : AS t ci) (hin : vp_in i n) (k : Ev X mi d b pc2 la st (S.set a (.inl (t, n, .inr (.inr (.inr (.inr (va_up f i.toNatClampNeg (some v)))))))) Q) : Ev X mi d b pc la (.ref v :: .int i :: .ref a :: st) S Q := by
  intro p l e R s m args below meth c D cA A L ws H locs cells slots Qf ls st' hC hX hW hl hs hc hq hK
  obtain ⟨v1, r9, rfl, hvx, hs9⟩ := sr_ref hs
  obtain ⟨r0, rfl, hs0⟩ := sr_int hs9
  obtain ⟨a1, r1, rfl, hax, hs1⟩ := sr_ref hs0
  obtain ⟨hd, rfl⟩ := hd
  obtain ⟨a2, e', g1, g2, g3⟩ := rel_get hW.1 ho
  cases hax.symm.trans g3
  obtain ⟨f', rfl, g4⟩ := g2
  obtain ⟨v2, ev', q1, q2, q3⟩ := rel_get hW.1 hv
  cases hvx.symm.trans q3
  obtain ⟨vs', rfl, q4⟩ := q2
  obtain ⟨C, T, N, E, c1, c2, c3⟩ := has
  have hEX := hC.2.2.2.2.2.2.2.2.1
  have ht : (atys cA)[t]? = some (cA t, .object E) := by
    match t, c2 with
    | 0, c2 => cases c2
    | 1, c2 => cases c2
    | 2, c2 => cases c2
    | 3, c2 => cases c2; rfl
    | 4, c2 => cases c2; rfl
    | 5, c2 => cases c2; rfl
    | n + 6, c2 => simp [atys] at c2
  have hany : va_Any E s H v1 := by
    refine va_rAny hEX.1 hW.2.1 q1 c1 (fun comp c0 h1 h2 => ?_)
    rcases c3 with rfl | c3
    · cases h1.symm.trans h2
      exact va_assign (hEX.1.1 ci _ c1).2 |> fun z => by
        have := (hEX.1.1 ci _ c1).2.1
        cases h2.symm.trans this
        exact z
    · obtain ⟨c9, t9, f1, f2, f3⟩ := Cond.castable_spec (va_Nw.use (A := args) rfl (hEX.2.2.2.1 _ c3))
      cases h2.symm.trans f1
      cases h1.symm.trans f2
      exact f3
  refine va_astqM (D := D) hC.1 hC.2.1 hEX.1 hW.2.1 hW.2.2.1 hW.2.2.2.1 a t g1 ht hany hin hd (fun H1 locs1 h1 h2 h3 => k p l e R s m args below meth c D cA A L _ H1 locs1 cells slots Qf ls _ hC hX ⟨rel_set hW.1 g1 ⟨_, rfl, fun j => ?_⟩, h1, h2, h3, hW.2.2.2.2⟩ hl hs1 hc hq hK)
  by_cases hj : j = i.toNatClampNeg
  · subst hj
    simp only [va_up, if_pos]
    exact ⟨v1, hvx, rfl⟩
  · simp only [va_up, if_neg hj]
    exact g4 j
theorem Ev_alen {a t n : Nat} {x : vp_A} {z : Int32} (hd : nx mi.2.1 pc .arraylength 1 pc2) (ho : S[a]? = some (.inl (t, x))) (ht : t < 6) (hn : x.1 = n) (hz : Int32.ofNat n = z) (k : Ev X mi d b pc2 la (.int z :: st) S Q) : Ev X mi d b pc la (.ref a :: st) S Q := by
  intro p l e R s m args below meth c D cA A L ws H locs cells slots Qf ls st' hC hX hW hl hs hc hq hK
  obtain ⟨a1, r1, rfl, hax, hs1⟩ := sr_ref hs
  obtain ⟨hd, rfl⟩ := hd
  obtain ⟨a2, e', g1, g2, g3⟩ := rel_get hW.1 ho
  cases hax.symm.trans g3
  have he : ∃ x2 : vp_A, e' = .inl (cA t, x2) ∧ x2.1 = x.1 := by
    obtain ⟨nx1, f | f | f | f | f⟩ := x
    · cases g2; exact ⟨_, rfl, rfl⟩
    · cases g2; exact ⟨_, rfl, rfl⟩
    · cases g2; exact ⟨_, rfl, rfl⟩
    · cases g2; exact ⟨_, rfl, rfl⟩
    · obtain ⟨f', rfl, -⟩ := g2; exact ⟨_, rfl, rfl⟩
  obtain ⟨x2, rfl, hx2⟩ := he
  have hk := k p l e R s m args below meth c D cA A L ws H locs cells slots Qf ls _ hC hX hW hl (sr_push (v := .int z) (v' := .int z) rfl hs1) hc hq hK
  have ht : ∃ ty, (atys cA)[t]? = some (cA t, ty) := by
    match t, ht with
    | 0, _ => exact ⟨_, rfl⟩
    | 1, _ => exact ⟨_, rfl⟩
    | 2, _ => exact ⟨_, rfl⟩
    | 3, _ => exact ⟨_, rfl⟩
    | 4, _ => exact ⟨_, rfl⟩
    | 5, _ => exact ⟨_, rfl⟩
    | n + 6, h => omega
  obtain ⟨ty, ht⟩ := ht
  exact va_alen (D := D) hC.1 hC.2.1 hC.2.2.2.2.2.2.2.2.1.1 hW.2.1 a t g1 ht (by rw [hx2, hn]; exact hz) hd hk
/-- the script -/
theorem Ev_sld {n q : Nat} {xs : Nat → Int32} {i : Int32} (hx : X = some (n, xs)) (hd : nx mi.2.1 pc .iaload 1 pc2) (hin : vp_in i n) (k : Ev X mi d b pc2 la (.int (xs i.toNatClampNeg) :: st) S Q) : Ev X mi d b pc la (.int i :: .retAddr q :: st) S Q := by
  intro p l e R s m args below meth c D cA A L ws H locs cells slots Qf ls st' hC hX hW hl hs hc hq hK
  obtain ⟨r0, rfl, hs0⟩ := sr_int hs
  obtain ⟨r1, rfl, hs1⟩ := sr_scr hs0
  obtain ⟨hd, rfl⟩ := hd
  obtain ⟨x1, x2, x3⟩ := hX n xs hx
  exact va_sld hC.1 hC.2.1 x1 x2 x3 hW.2.2.2.1 hin hd (k p l e R s m args below meth c D cA A L ws H locs cells slots Qf ls _ hC hX hW hl (sr_push rfl hs1) hc hq hK)
theorem Ev_slen {n q : Nat} {xs : Nat → Int32} (hx : X = some (n, xs)) (hd : nx mi.2.1 pc .arraylength 1 pc2) (k : Ev X mi d b pc2 la (.int (Int32.ofNat n) :: st) S Q) : Ev X mi d b pc la (.retAddr q :: st) S Q := by
  intro p l e R s m args below meth c D cA A L ws H locs cells slots Qf ls st' hC hX hW hl hs hc hq hK
  obtain ⟨r1, rfl, hs1⟩ := sr_scr hs
  obtain ⟨hd, rfl⟩ := hd
  obtain ⟨x1, x2, x3⟩ := hX n xs hx
  exact va_slen hC.1 hC.2.1 x1 x2 x3 hW.2.2.2.1 hd (k p l e R s m args below meth c D cA A L ws H locs cells slots Qf ls _ hC hX hW hl (sr_push rfl hs1) hc hq hK)
/-- new objects -/
def NR (own : String) (idx ci : Nat) (fs : List Value) : Prop := ∃ (C : String) (T : u_T) (N : Nat) (ty : Nat → FieldType), vwCl[ci]? = some (C, T, N) ∧ Cond.classLink own idx C ∈ BIG ∧ Cond.instantiable C N ∈ BIG ∧ Cond.initialized C ∈ BIG ∧ (∀ k, k < N → parseFieldDescriptor (T k).2.2.1 = some (ty k)) ∧ (∀ j, j < N → defaultValue (ty j) = vp_V fs j) ∧ N ≤ 300 ∧ fs.all (fun v => match v with | .ref _ => false | .retAddr _ => false | _ => true) = true
theorem fs_plain {L : aA} {fs : List Value} (h : fs.all (fun v => match v with | .ref _ => false | .retAddr _ => false | _ => true) = true) : fs.map (mv L) = fs.map some := by
  apply List.map_congr_left
  intro v hv
  have := List.all_eq_true.mp h v hv
  cases v <;> first | rfl | simp at this
theorem Ev_new {ci idx : Nat} {fs : List Value} (hd : nx mi.2.1 pc (.new idx) 3 pc2) (hn : NR mi.1.cls idx ci fs) (k : Ev X mi d b pc2 la (.ref S.length :: st) (S ++ [.inr (ci, fs)]) Q) : Ev X mi d (b + 1) pc la st S Q := by
  intro p l e R s m args below meth c D cA A L ws H locs cells slots Qf ls st' hC hX hW hl hs hc hq hK
  obtain ⟨hd, rfl⟩ := hd
  obtain ⟨C, T, N, ty, c1, c2, c3, c4, c5, c6, c7, c8⟩ := hn
  have hts := hC.2.2.2.2.2.1
  refine va_new (D := D) (ci := ci) hC.1 hC.2.1 hts (cl_ok c1).1 ty c5 hC.2.2.2.2.1 (hts _ c2) (hts _ c3) (hts _ c4) hC.2.2.2.2.2.2.2.2.1.1 hW.2.1 hW.2.2.1 hW.2.2.2.1 hW.2.2.2.2 c1 c6 (by omega) (by omega) hd (fun q H1 h1 h2 h3 => ?_)
  refine k p l e R s m args below meth c D cA A (L.1, L.2 ++ [q]) _ H1 locs (cells + 1) (slots + N) Qf ls _ hC hX ⟨rel_push hW.1 ⟨_, rfl, fs_plain c8⟩, h1, h2, h3, hW.2.2.2.2⟩ (lr_ex hl) (sr_push ?_ (sr_ex hs)) (by omega) (by omega) (hK.ex [q])
  simp only [mv, rel_new hW.1 q, Option.map_some]
theorem ac_eq {cA : Nat → ClassId} {U : State} {D : va_G} {tys : List (ClassId × FieldType)} {t : Nat} {c1 : ClassId} {ty : FieldType} (hK : va_K D vwCl (tys ++ [(c1, ty)]) U) (hA : va_K D vwCl (atys cA) U) (ht : (atys cA)[t]? = some (cA t, ty)) (hty : ty = .int ∨ ty = .long ∨ ty = .boolean ∨ ∃ C, ty = .object C) : c1 = cA t := by
  have h1 := (hK.2 tys.length (c1, ty) (by simp)).2
  have h2 := (hA.2 t _ ht).2
  rcases hty with rfl | rfl | rfl | ⟨C, rfl⟩
  · exact Option.some.inj (h1.symm.trans h2)
  · exact Option.some.inj (h1.symm.trans h2)
  · exact Option.some.inj (h1.symm.trans h2)
  · obtain ⟨_, _, _, _, _, f1⟩ := h1
    obtain ⟨_, _, _, _, _, f2⟩ := h2
    exact Option.some.inj (f1.symm.trans f2)
theorem Ev_newarr_int {n : Int32} {N : Nat} (hd : nx mi.2.1 pc (.newarray .int) 2 pc2) (hw : Cond.arrayClass .int ∈ BIG) (hn : ¬ n < 0) (hN : n.toNatClampNeg = N) (hN2 : N ≤ 300) (k : Ev X mi d b pc2 la (.ref S.length :: st) (S ++ [.inl (0, N, .inl (fun _ => 0))]) Q) : Ev X mi d (b + 1) pc la (.int n :: st) S Q := by
  intro p l e R s m args below meth c D cA A L ws H locs cells slots Qf ls st' hC hX hW hl hs hc hq hK
  obtain ⟨r0, rfl, hs0⟩ := sr_int hs
  obtain ⟨hd, rfl⟩ := hd
  have hts := hC.2.2.2.2.2.1
  have hby : N * componentBytes .int ≤ 536870912 := by
    have h9 : componentBytes .int ≤ 8 := by decide
    have h8 := Nat.mul_le_mul hN2 h9
    omega
  refine va_newa (D := D) (atype := .int) (ty := .int) (a0 := (N, .inl (fun _ => 0))) (N' := N) hC.1 hC.2.1 (hts _ hw) rfl hC.2.2.2.2.2.2.2.2.1.1 hW.2.1 hW.2.2.1 hW.2.2.2.1 hW.2.2.2.2 (fun _ => rfl) hn hN hby (by omega) (by omega) hd (fun q c1 H1 h0 h1 h2 h3 => ?_)
  obtain rfl := ac_eq (t := 0) h0 hC.2.2.2.2.2.2.2.2.1.1 rfl (Or.inl rfl)
  refine k p l e R s m args below meth c D cA A (L.1, L.2 ++ [q]) _ H1 locs (cells + 1) (slots + N) Qf ls _ hC hX ⟨rel_push hW.1 rfl, h1, h2, h3, hW.2.2.2.2⟩ (lr_ex hl) (sr_push ?_ (sr_ex hs0)) (by omega) (by omega) (hK.ex [q])
  simp only [mv, rel_new hW.1 q, Option.map_some]
theorem Ev_newarr_long {n : Int32} {N : Nat} (hd : nx mi.2.1 pc (.newarray .long) 2 pc2) (hw : Cond.arrayClass .long ∈ BIG) (hn : ¬ n < 0) (hN : n.toNatClampNeg = N) (hN2 : N ≤ 300) (k : Ev X mi d b pc2 la (.ref S.length :: st) (S ++ [.inl (1, N, .inr (.inl (fun _ => 0)))]) Q) : Ev X mi d (b + 1) pc la (.int n :: st) S Q := by
  intro p l e R s m args below meth c D cA A L ws H locs cells slots Qf ls st' hC hX hW hl hs hc hq hK
  obtain ⟨r0, rfl, hs0⟩ := sr_int hs
  obtain ⟨hd, rfl⟩ := hd
  have hts := hC.2.2.2.2.2.1
  have hby : N * componentBytes .long ≤ 536870912 := by
    have h9 : componentBytes .long ≤ 8 := by decide
    have h8 := Nat.mul_le_mul hN2 h9
    omega
  refine va_newa (D := D) (atype := .long) (ty := .long) (a0 := (N, .inr (.inl (fun _ => 0)))) (N' := N) hC.1 hC.2.1 (hts _ hw) rfl hC.2.2.2.2.2.2.2.2.1.1 hW.2.1 hW.2.2.1 hW.2.2.2.1 hW.2.2.2.2 (fun _ => rfl) hn hN hby (by omega) (by omega) hd (fun q c1 H1 h0 h1 h2 h3 => ?_)
  obtain rfl := ac_eq (t := 1) h0 hC.2.2.2.2.2.2.2.2.1.1 rfl (Or.inr (Or.inl rfl))
  refine k p l e R s m args below meth c D cA A (L.1, L.2 ++ [q]) _ H1 locs (cells + 1) (slots + N) Qf ls _ hC hX ⟨rel_push hW.1 rfl, h1, h2, h3, hW.2.2.2.2⟩ (lr_ex hl) (sr_push ?_ (sr_ex hs0)) (by omega) (by omega) (hK.ex [q])
  simp only [mv, rel_new hW.1 q, Option.map_some]
theorem Ev_newarr_bool {n : Int32} {N : Nat} (hd : nx mi.2.1 pc (.newarray .boolean) 2 pc2) (hw : Cond.arrayClass .boolean ∈ BIG) (hn : ¬ n < 0) (hN : n.toNatClampNeg = N) (hN2 : N ≤ 300) (k : Ev X mi d b pc2 la (.ref S.length :: st) (S ++ [.inl (2, N, .inl (fun _ => 0))]) Q) : Ev X mi d (b + 1) pc la (.int n :: st) S Q := by
  intro p l e R s m args below meth c D cA A L ws H locs cells slots Qf ls st' hC hX hW hl hs hc hq hK
  obtain ⟨r0, rfl, hs0⟩ := sr_int hs
  obtain ⟨hd, rfl⟩ := hd
  have hts := hC.2.2.2.2.2.1
  have hby : N * componentBytes .boolean ≤ 536870912 := by
    have h9 : componentBytes .boolean ≤ 8 := by decide
    have h8 := Nat.mul_le_mul hN2 h9
    omega
  refine va_newa (D := D) (atype := .boolean) (ty := .boolean) (a0 := (N, .inl (fun _ => 0))) (N' := N) hC.1 hC.2.1 (hts _ hw) rfl hC.2.2.2.2.2.2.2.2.1.1 hW.2.1 hW.2.2.1 hW.2.2.2.1 hW.2.2.2.2 (fun _ => rfl) hn hN hby (by omega) (by omega) hd (fun q c1 H1 h0 h1 h2 h3 => ?_)
  obtain rfl := ac_eq (t := 2) h0 hC.2.2.2.2.2.2.2.2.1.1 rfl (Or.inr (Or.inr (Or.inl rfl)))
  refine k p l e R s m args below meth c D cA A (L.1, L.2 ++ [q]) _ H1 locs (cells + 1) (slots + N) Qf ls _ hC hX ⟨rel_push hW.1 rfl, h1, h2, h3, hW.2.2.2.2⟩ (lr_ex hl) (sr_push ?_ (sr_ex hs0)) (by omega) (by omega) (hK.ex [q])
  simp only [mv, rel_new hW.1 q, Option.map_some]
theorem Ev_anewarr {n : Int32} {N idx t : Nat} {C : String} (hd : nx mi.2.1 pc (.anewarray idx) 3 pc2) (hw : Cond.classLink mi.1.cls idx C ∈ BIG) (hao : C ∈ aAO) (ht : ∀ cA : Nat → ClassId, (atys cA)[t]? = some (cA t, .object C)) (hn : ¬ n < 0) (hN : n.toNatClampNeg = N) (hN2 : N ≤ 300) (k : Ev X mi d b pc2 la (.ref S.length :: st) (S ++ [.inl (t, N, .inr (.inr (.inr (.inr (fun _ => none)))))]) Q) : Ev X mi d (b + 1) pc la (.int n :: st) S Q := by
  intro p l e R s m args below meth c D cA A L ws H locs cells slots Qf ls st' hC hX hW hl hs hc hq hK
  obtain ⟨r0, rfl, hs0⟩ := sr_int hs
  obtain ⟨hd, rfl⟩ := hd
  have hts := hC.2.2.2.2.2.1
  have hEX := hC.2.2.2.2.2.2.2.2.1
  refine va_newq (D := D) (N' := N) hC.1 hC.2.1 hC.2.2.2.2.1 (hts _ hw) (hEX.2.1 C hao) hEX.1 hW.2.1 hW.2.2.1 hW.2.2.2.1 hW.2.2.2.2 hn hN (by omega) (by omega) (by omega) hd (fun q c1 H1 h0 h1 h2 h3 => ?_)
  obtain rfl := ac_eq (t := t) h0 hEX.1 (ht cA) (Or.inr (Or.inr (Or.inr ⟨C, rfl⟩)))
  refine k p l e R s m args below meth c D cA A (L.1, L.2 ++ [q]) _ H1 locs (cells + 1) (slots + N) Qf ls _ hC hX ⟨rel_push hW.1 ⟨_, rfl, fun _ => rfl⟩, h1, h2, h3, hW.2.2.2.2⟩ (lr_ex hl) (sr_push ?_ (sr_ex hs0)) (by omega) (by omega) (hK.ex [q])
  simp only [mv, rel_new hW.1 q, Option.map_some]
/-- instanceof of an object of class ci -/
def IR (own : String) (idx ci : Nat) (r : Int32) : Prop := ∃ (C : String) (T : u_T) (N : Nat) (nm : String), vwCl[ci]? = some (C, T, N) ∧ Cond.classLink own idx nm ∈ BIG ∧ ((r = 1 ∧ (C = nm ∨ (C, nm) ∈ aCA)) ∨ (r = 0 ∧ (C, nm) ∈ aNC))
theorem Ev_inst {a ci idx : Nat} {fs : List Value} {r : Int32} (hd : nx mi.2.1 pc (.instanceof idx) 3 pc2) (hi : IR mi.1.cls idx ci r) (ho : S[a]? = some (.inr (ci, fs))) (k : Ev X mi d b pc2 la (.int r :: st) S Q) : Ev X mi d b pc la (.ref a :: st) S Q := by
  intro p l e R s m args below meth c D cA A L ws H locs cells slots Qf ls st' hC hX hW hl hs hc hq hK
  obtain ⟨a1, r1, rfl, hax, hs1⟩ := sr_ref hs
  obtain ⟨hd, rfl⟩ := hd
  obtain ⟨C, T, N, nm, c1, c2, c3⟩ := hi
  obtain ⟨a2, e', g1, g2, g3⟩ := rel_get hW.1 ho
  cases hax.symm.trans g3
  obtain ⟨fs', rfl, g4⟩ := g2
  have hts := hC.2.2.2.2.2.1
  have hEX := hC.2.2.2.2.2.2.2.2.1
  have hr := va_recv hEX.1 hW.2.1 c1 g1
  have hk := k p l e R s m args below meth c D cA A L ws H locs cells slots Qf ls _ hC hX hW hl (sr_push (v := .int r) (v' := .int r) rfl hs1) hc hq hK
  rcases c3 with ⟨rfl, rfl | c3⟩ | ⟨rfl, c3⟩
  · exact va_instS hC.1 hC.2.1 hC.2.2.2.2.1 (hts _ c2) (hEX.1.1 ci _ c1).2 hr hd hk
  · exact va_instY hC.1 hC.2.1 hC.2.2.2.2.1 (hts _ c2) (hEX.2.2.2.1 _ c3) hr hd hk
  · exact va_instNo hC.1 hC.2.1 hC.2.2.2.2.1 (hts _ c2) (hEX.2.2.1 _ c3) hr hd hk
/-- Object's own constructor -/
theorem Ev_objInit {a idx : Nat} (hd : nx mi.2.1 pc (.invokespecial idx) 3 pc2) (hw : Cond.methodLink mi.1.cls idx objectInit ∈ BIG) (h8 : (st.map fun v => v.category).sum ≤ 8) (k : Ev X mi (d + 1) b pc2 la st S Q) : Ev X mi (d + 1) b pc la (.ref a :: st) S Q := by
  intro p l e R s m args below meth c D cA A L ws H locs cells slots Qf ls st' hC hX hW hl hs hc hq hK
  obtain ⟨a1, r1, rfl, hax, hs1⟩ := sr_ref hs
  obtain ⟨hd, rfl⟩ := hd
  have hts := hC.2.2.2.2.2.1
  have hfr := hC.2.2.2.2.2.2.2.2.2.1
  have hlo := hC.2.2.2.2.2.2.2.2.2.2
  obtain ⟨h0, lc, h1, h2⟩ := id hl
  refine W.objInit hC.1 hC.2.1 hC.2.2.2.2.1 (hts _ hw) (hts _ obj_inst) (hts _ obj_code) rfl (by rw [hC.2.2.2.1]; exact h1.1) rfl hd (by omega) ?_ (k p l e R s m args below meth c D cA A L ws H locs cells slots Qf ls _ hC hX hW hl hs1 hc hq hK)
  have h9 := lv_room (m := m) (pc := pc) (ls := ls) (rest := .ref a1 :: r1) (st := r1) (by rw [sr_cat hs1]; exact h8)
  omega
/-- System.arraycopy between rows of ints, or of longs (perhaps the same) -/
theorem Ev_copyi {a a0 n0 n1 idx : Nat} {f g : Nat → Int32} {sp dp n : Int32} (hd : nx mi.2.1 pc (.invokestatic idx) 3 pc2) (hw : Cond.methodLink mi.1.cls idx arraycopyName ∈ BIG) (h8 : (st.map fun v => v.category).sum ≤ 8) (ho0 : S[a0]? = some (.inl (0, n0, .inl f))) (ho1 : S[a]? = some (.inl (0, n1, .inl g))) (h1 : ¬ sp < 0) (h2 : ¬ dp < 0) (h3 : ¬ n < 0) (h4 : sp.toNatClampNeg + n.toNatClampNeg ≤ n0) (h5 : dp.toNatClampNeg + n.toNatClampNeg ≤ n1) (k : Ev X mi (d + 1) b pc2 la st (S.set a (.inl (0, n1, .inl (va_cpy f g sp.toNatClampNeg dp.toNatClampNeg n.toNatClampNeg)))) Q) : Ev X mi (d + 1) b pc la (.int n :: .int dp :: .ref a :: .int sp :: .ref a0 :: st) S Q := by
  intro p l e R s m args below meth c D cA A L ws H locs cells slots Qf ls st' hC hX hW hl hs hc hq hK
  obtain ⟨r0, rfl, hs0⟩ := sr_int hs
  obtain ⟨r1, rfl, hs1⟩ := sr_int hs0
  obtain ⟨b1, r2, rfl, hax, hs2⟩ := sr_ref hs1
  obtain ⟨r3, rfl, hs3⟩ := sr_int hs2
  obtain ⟨b0, r4, rfl, hax0, hs4⟩ := sr_ref hs3
  obtain ⟨hd, rfl⟩ := hd
  obtain ⟨a2, e', g1, g2, g3⟩ := rel_get hW.1 ho1
  cases hax.symm.trans g3
  cases g2
  obtain ⟨a3, e', g1b, g2b, g3b⟩ := rel_get hW.1 ho0
  cases hax0.symm.trans g3b
  cases g2b
  have hts := hC.2.2.2.2.2.1
  have hfr := hC.2.2.2.2.2.2.2.2.2.1
  have hlo := hC.2.2.2.2.2.2.2.2.2.2
  obtain ⟨h0, lc, hl1, hl2⟩ := id hl
  refine va_copyi (D := D) hC.1 hC.2.1 (by rw [hC.2.2.2.1]; exact hl1.1.symm) hC.2.2.2.2.1 (hts _ hw) (hts _ cpy_nat) (hts _ cpy_sta) (hts _ cpy_ini) hC.2.2.2.2.2.2.2.2.1.1 hW.2.1 hW.2.2.1 hW.2.2.2.1 a0 a 0 0 (ty := .int) g1b g1 rfl rfl rfl h1 h2 h3 h4 h5 (fun _ _ => rfl) (by omega) ?_ hd (fun H1 locs1 z1 z2 z3 => k p l e R s m args below meth c D cA A L _ H1 locs1 cells slots Qf ls _ hC hX ⟨rel_set hW.1 g1 rfl, z1, z2, z3, hW.2.2.2.2⟩ hl hs4 hc hq hK)
  rw [sr_cat hs4]
  have : nativeFrameWords "java/lang/System" "arraycopy" 5 + 11 ≤ 52 := by decide +kernel
  omega
theorem Ev_copyl {a a0 n0 n1 idx : Nat} {f g : Nat → Int64} {sp dp n : Int32} (hd : nx mi.2.1 pc (.invokestatic idx) 3 pc2) (hw : Cond.methodLink mi.1.cls idx arraycopyName ∈ BIG) (h8 : (st.map fun v => v.category).sum ≤ 8) (ho0 : S[a0]? = some (.inl (1, n0, .inr (.inl f)))) (ho1 : S[a]? = some (.inl (1, n1, .inr (.inl g)))) (h1 : ¬ sp < 0) (h2 : ¬ dp < 0) (h3 : ¬ n < 0) (h4 : sp.toNatClampNeg + n.toNatClampNeg ≤ n0) (h5 : dp.toNatClampNeg + n.toNatClampNeg ≤ n1) (k : Ev X mi (d + 1) b pc2 la st (S.set a (.inl (1, n1, .inr (.inl (va_cpy f g sp.toNatClampNeg dp.toNatClampNeg n.toNatClampNeg))))) Q) : Ev X mi (d + 1) b pc la (.int n :: .int dp :: .ref a :: .int sp :: .ref a0 :: st) S Q := by
  intro p l e R s m args below meth c D cA A L ws H locs cells slots Qf ls st' hC hX hW hl hs hc hq hK
  obtain ⟨r0, rfl, hs0⟩ := sr_int hs
  obtain ⟨r1, rfl, hs1⟩ := sr_int hs0
  obtain ⟨b1, r2, rfl, hax, hs2⟩ := sr_ref hs1
  obtain ⟨r3, rfl, hs3⟩ := sr_int hs2
  obtain ⟨b0, r4, rfl, hax0, hs4⟩ := sr_ref hs3
  obtain ⟨hd, rfl⟩ := hd
  obtain ⟨a2, e', g1, g2, g3⟩ := rel_get hW.1 ho1
  cases hax.symm.trans g3
  cases g2
  obtain ⟨a3, e', g1b, g2b, g3b⟩ := rel_get hW.1 ho0
  cases hax0.symm.trans g3b
  cases g2b
  have hts := hC.2.2.2.2.2.1
  have hfr := hC.2.2.2.2.2.2.2.2.2.1
  have hlo := hC.2.2.2.2.2.2.2.2.2.2
  obtain ⟨h0, lc, hl1, hl2⟩ := id hl
  refine va_copyl (D := D) hC.1 hC.2.1 (by rw [hC.2.2.2.1]; exact hl1.1.symm) hC.2.2.2.2.1 (hts _ hw) (hts _ cpy_nat) (hts _ cpy_sta) (hts _ cpy_ini) hC.2.2.2.2.2.2.2.2.1.1 hW.2.1 hW.2.2.1 hW.2.2.2.1 a0 a 1 1 (ty := .long) g1b g1 rfl rfl rfl h1 h2 h3 h4 h5 (fun _ _ => rfl) (by omega) ?_ hd (fun H1 locs1 z1 z2 z3 => k p l e R s m args below meth c D cA A L _ H1 locs1 cells slots Qf ls _ hC hX ⟨rel_set hW.1 g1 rfl, z1, z2, z3, hW.2.2.2.2⟩ hl hs4 hc hq hK)
  rw [sr_cat hs4]
  have : nativeFrameWords "java/lang/System" "arraycopy" 5 + 11 ≤ 52 := by decide +kernel
  omega
end EVH
