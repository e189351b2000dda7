/-! ===== the store, the values, how they stand for the machine's ===== -/
/-- a cell of the store: an array (its kind, its length, what it holds) or an object (its class' number, its fields); a reference is a place of the store -/
abbrev aE : Type := (Nat × vp_A) ⊕ (Nat × List Value)
abbrev aS : Type := List aE
/-- the script's address, and the addresses of the store's places -/
abbrev aA : Type := Nat × List Nat
abbrev aL : Type := List (Option Value)
def mv (L : aA) (v : Value) : Option Value := match v with
  | .ref i => (L.2[i]?).map Value.ref
  | .retAddr _ => some (.ref L.1)
  | w => some w
def mq (L : aA) (r r' : Option Nat) : Prop := match r with
  | none => r' = none
  | some i => ∃ a, L.2[i]? = some a ∧ r' = some a
def er (cA : Nat → ClassId) (L : aA) (e : aE) (e' : va_E) : Prop := match e with
  | .inl (t, n, .inr (.inr (.inr (.inr f)))) => ∃ f' : Nat → Option Nat, e' = .inl (cA t, n, .inr (.inr (.inr (.inr f')))) ∧ ∀ j, mq L (f j) (f' j)
  | .inl (t, n, .inl f) => e' = .inl (cA t, n, .inl f)
  | .inl (t, n, .inr (.inl f)) => e' = .inl (cA t, n, .inr (.inl f))
  | .inl (t, n, .inr (.inr (.inl f))) => e' = .inl (cA t, n, .inr (.inr (.inl f)))
  | .inl (t, n, .inr (.inr (.inr (.inl f)))) => e' = .inl (cA t, n, .inr (.inr (.inr (.inl f))))
  | .inr (ci, fs) => ∃ fs', e' = .inr (ci, fs') ∧ fs.map (mv L) = fs'.map some
def rel (cA : Nat → ClassId) (L : aA) (S : aS) (ws : va_W) : Prop := ws.map (fun q => q.1) = L.2 ∧ ws.length = S.length ∧ ∀ (i : Nat) (e : aE), S[i]? = some e → ∃ (a : Nat) (e' : va_E), ws[i]? = some (a, e') ∧ er cA L e e'
def sr (L : aA) (st st' : List Value) : Prop := st.map (mv L) = st'.map some
theorem sr_cons {L : aA} {v : Value} {st st' : List Value} (h : sr L (v :: st) st') : ∃ v' r, st' = v' :: r ∧ mv L v = some v' ∧ sr L st r := by
  cases st' with
  | nil => simp [sr] at h
  | cons w r =>
    simp only [sr, List.map_cons, List.cons.injEq] at h
    exact ⟨w, r, rfl, h.1, h.2⟩
theorem sr_int {L : aA} {x : Int32} {st st' : List Value} (h : sr L (.int x :: st) st') : ∃ r, st' = .int x :: r ∧ sr L st r := by
  obtain ⟨v', r, rfl, h1, h2⟩ := sr_cons h
  cases Option.some.inj h1
  exact ⟨r, rfl, h2⟩
theorem sr_long {L : aA} {x : Int64} {st st' : List Value} (h : sr L (.long x :: st) st') : ∃ r, st' = .long x :: r ∧ sr L st r := by
  obtain ⟨v', r, rfl, h1, h2⟩ := sr_cons h
  cases Option.some.inj h1
  exact ⟨r, rfl, h2⟩
theorem sr_null {L : aA} {st st' : List Value} (h : sr L (.null :: st) st') : ∃ r, st' = .null :: r ∧ sr L st r := by
  obtain ⟨v', r, rfl, h1, h2⟩ := sr_cons h
  cases Option.some.inj h1
  exact ⟨r, rfl, h2⟩
theorem sr_scr {L : aA} {k : Nat} {st st' : List Value} (h : sr L (.retAddr k :: st) st') : ∃ r, st' = .ref L.1 :: r ∧ sr L st r := by
  obtain ⟨v', r, rfl, h1, h2⟩ := sr_cons h
  cases Option.some.inj h1
  exact ⟨r, rfl, h2⟩
theorem mv_ref {L : aA} {i : Nat} {v : Value} (h : mv L (.ref i) = some v) : ∃ a, L.2[i]? = some a ∧ v = .ref a := by
  simp only [mv, Option.map_eq_some_iff] at h
  obtain ⟨a, h1, h2⟩ := h
  exact ⟨a, h1, h2.symm⟩
theorem sr_ref {L : aA} {i : Nat} {st st' : List Value} (h : sr L (.ref i :: st) st') : ∃ a r, st' = .ref a :: r ∧ L.2[i]? = some a ∧ sr L st r := by
  obtain ⟨v', r, rfl, h1, h2⟩ := sr_cons h
  obtain ⟨a, h3, rfl⟩ := mv_ref h1
  exact ⟨a, r, rfl, h3, h2⟩
theorem sr_push {L : aA} {v v' : Value} {st st' : List Value} (hv : mv L v = some v') (h : sr L st st') : sr L (v :: st) (v' :: st') := by
  simp only [sr, List.map_cons, hv]
  rw [show List.map (mv L) st = List.map some st' from h]
theorem sr_nil {L : aA} {st' : List Value} (h : sr L [] st') : st' = [] := by
  cases st' with
  | nil => rfl
  | cons w r => simp [sr] at h
theorem sr_nil0 {L : aA} : sr L [] [] := rfl
theorem sr_app {L : aA} {a b : List Value} {st' : List Value} (h : sr L (a ++ b) st') : ∃ a' b', st' = a' ++ b' ∧ sr L a a' ∧ sr L b b' := by
  induction a generalizing st' with
  | nil => exact ⟨[], st', rfl, rfl, h⟩
  | cons v a ih =>
    obtain ⟨v', r, rfl, h1, h2⟩ := sr_cons h
    obtain ⟨a', b', rfl, h3, h4⟩ := ih h2
    exact ⟨v' :: a', b', rfl, sr_push h1 h3, h4⟩
theorem sr_appI {L : aA} {a b a' b' : List Value} (h1 : sr L a a') (h2 : sr L b b') : sr L (a ++ b) (a' ++ b') := by
  simp only [sr, List.map_append]
  rw [show List.map (mv L) a = List.map some a' from h1, show List.map (mv L) b = List.map some b' from h2]
theorem sr_rev {L : aA} {a a' : List Value} (h : sr L a a') : sr L a.reverse a'.reverse := by
  simp only [sr, List.map_reverse]
  rw [show List.map (mv L) a = List.map some a' from h]
theorem sr_len {L : aA} {a a' : List Value} (h : sr L a a') : a'.length = a.length := by
  have := congrArg List.length h
  simpa using this.symm
theorem mv_cat {L : aA} {v v' : Value} (h : mv L v = some v') : v'.category = v.category := by
  cases v with
  | ref i => obtain ⟨a, -, rfl⟩ := mv_ref h; rfl
  | retAddr k => cases Option.some.inj h; rfl
  | _ => cases Option.some.inj h; rfl
theorem sr_cat {L : aA} {a a' : List Value} (h : sr L a a') : (a'.map fun v => v.category) = a.map fun v => v.category := by
  induction a generalizing a' with
  | nil => rw [sr_nil h]
  | cons v a ih =>
    obtain ⟨v', r, rfl, h1, h2⟩ := sr_cons h
    simp only [List.map_cons, mv_cat h1, ih h2]
theorem mv_ex {L : aA} {M : List Nat} {v v' : Value} (h : mv L v = some v') : mv (L.1, L.2 ++ M) v = some v' := by
  cases v with
  | ref i =>
    obtain ⟨a, h1, rfl⟩ := mv_ref h
    have hl := (List.getElem?_eq_some_iff.mp h1).1
    simp only [mv, List.getElem?_append_left hl, h1, Option.map_some]
  | retAddr k => exact h
  | _ => exact h
theorem sr_ex {L : aA} {M : List Nat} {st st' : List Value} (h : sr L st st') : sr (L.1, L.2 ++ M) st st' := by
  induction st generalizing st' with
  | nil => rw [sr_nil h]; rfl
  | cons v st ih =>
    obtain ⟨v', r, rfl, h1, h2⟩ := sr_cons h
    exact sr_push (mv_ex h1) (ih h2)
theorem mq_ex {L : aA} {M : List Nat} {r r' : Option Nat} (h : mq L r r') : mq (L.1, L.2 ++ M) r r' := by
  cases r with
  | none => exact h
  | some i =>
    obtain ⟨a, h1, h2⟩ := h
    have hl := (List.getElem?_eq_some_iff.mp h1).1
    exact ⟨a, by rw [List.getElem?_append_left hl]; exact h1, h2⟩
theorem er_ex {cA : Nat → ClassId} {L : aA} {M : List Nat} {e : aE} {e' : va_E} (h : er cA L e e') : er cA (L.1, L.2 ++ M) e e' := by
  rcases e with ⟨t, n, f | f | f | f | f⟩ | ⟨ci, fs⟩
  · exact h
  · exact h
  · exact h
  · exact h
  · obtain ⟨f', h1, h2⟩ := h
    exact ⟨f', h1, fun j => mq_ex (h2 j)⟩
  · obtain ⟨fs', h1, h2⟩ := h
    exact ⟨fs', h1, sr_ex (L := L) h2⟩
theorem rel_get {cA : Nat → ClassId} {L : aA} {S : aS} {ws : va_W} (h : rel cA L S ws) {i : Nat} {e : aE} (he : S[i]? = some e) : ∃ (a : Nat) (e' : va_E), ws[i]? = some (a, e') ∧ er cA L e e' ∧ L.2[i]? = some a := by
  obtain ⟨a, e', h1, h2⟩ := h.2.2 i e he
  refine ⟨a, e', h1, h2, ?_⟩
  rw [← h.1, List.getElem?_map, h1]
  rfl
theorem rel_lt {cA : Nat → ClassId} {L : aA} {S : aS} {ws : va_W} (h : rel cA L S ws) {i a : Nat} (ha : L.2[i]? = some a) : i < S.length := by
  have h1 := (List.getElem?_eq_some_iff.mp ha).1
  rw [← h.1, List.length_map] at h1
  rw [← h.2.1]
  exact h1
theorem rel_set {cA : Nat → ClassId} {L : aA} {S : aS} {ws : va_W} (h : rel cA L S ws) {i a : Nat} {e : aE} {e0 e' : va_E} (h0 : ws[i]? = some (a, e0)) (he : er cA L e e') : rel cA L (S.set i e) (ws.set i (a, e')) := by
  obtain ⟨h1, h2, h3⟩ := h
  have hl : i < ws.length := (List.getElem?_eq_some_iff.mp h0).1
  refine ⟨?_, by simp [h2], fun j e2 hj => ?_⟩
  · rw [← h1]
    apply List.ext_getElem?
    intro j
    simp only [List.getElem?_map]
    by_cases hij : i = j
    · subst hij
      rw [List.getElem?_set_self hl, h0]
      rfl
    · rw [List.getElem?_set_ne hij]
  · by_cases hij : i = j
    · subst hij
      rw [List.getElem?_set_self (by rw [← h2]; exact hl)] at hj
      cases hj
      exact ⟨a, e', List.getElem?_set_self hl, he⟩
    · rw [List.getElem?_set_ne hij] at hj
      rw [List.getElem?_set_ne hij]
      exact h3 j e2 hj
theorem rel_push {cA : Nat → ClassId} {L : aA} {S : aS} {ws : va_W} (h : rel cA L S ws) {q : Nat} {e : aE} {e' : va_E} (he : er cA (L.1, L.2 ++ [q]) e e') : rel cA (L.1, L.2 ++ [q]) (S ++ [e]) (ws ++ [(q, e')]) := by
  obtain ⟨h1, h2, h3⟩ := h
  refine ⟨by simp [h1], by simp [h2], fun j e2 hj => ?_⟩
  by_cases hl : j < S.length
  · rw [List.getElem?_append_left hl] at hj
    obtain ⟨a, e3, h4, h5⟩ := h3 j e2 hj
    exact ⟨a, e3, by rw [List.getElem?_append_left (by rw [h2]; exact hl)]; exact h4, er_ex h5⟩
  · rw [List.getElem?_append_right (by omega)] at hj
    have hz : j - S.length < 1 := (List.getElem?_eq_some_iff.mp hj).1
    have hj0 : j = S.length := by omega
    subst hj0
    rw [Nat.sub_self] at hj
    cases hj
    exact ⟨q, e', by rw [← h2, List.getElem?_append_right (Nat.le_refl _), Nat.sub_self]; rfl, he⟩
theorem rel_new {cA : Nat → ClassId} {L : aA} {S : aS} {ws : va_W} (h : rel cA L S ws) (q : Nat) : (L.2 ++ [q])[S.length]? = some q := by
  have : S.length = L.2.length := by rw [← h.2.1, ← h.1, List.length_map]
  rw [this, List.getElem?_append_right (Nat.le_refl _), Nat.sub_self]
  rfl
/-! ===== the locals ===== -/
def aset1 : aL → Nat → Value → Option aL
  | [], _, _ => none
  | x :: r, i, v => match i with
    | 0 => some (some v :: r)
    | i' + 1 => match aset1 r i' v with
      | none => none
      | some r' => match i', x with
        | 0, some (.long _) => some (none :: r')
        | 0, some (.double _) => some (none :: r')
        | _, y => some (y :: r')
def aset2 : aL → Nat → Value → Option aL
  | [], _, _ => none
  | x :: r, i, v => match i with
    | 0 => match r with
      | [] => none
      | _ :: r2 => some (some v :: none :: r2)
    | i' + 1 => match aset2 r i' v with
      | none => none
      | some r' => match i', x with
        | 0, some (.long _) => some (none :: r')
        | 0, some (.double _) => some (none :: r')
        | _, y => some (y :: r')
theorem acat {w : Value} (h : w.category = 2) : (∃ x, w = .long x) ∨ ∃ x, w = .double x := by
  cases w <;> simp [Value.category] at h <;> simp
theorem aset1_ok : ∀ (la : aL) (i : Nat) (v : Value) (la' : aL), aset1 la i v = some la' → la'.length = la.length ∧ i < la.length ∧ la'[i]? = some (some v) ∧ ∀ (j : Nat) (w : Value), j ≠ i → la'[j]? = some (some w) → la[j]? = some (some w) ∧ ¬ (j + 1 = i ∧ w.category = 2)
  | [], i, v, la', h => by simp [aset1] at h
  | x :: r, 0, v, la', h => by
    simp only [aset1, Option.some.injEq] at h
    subst h
    refine ⟨rfl, by simp, rfl, fun j w hj hw => ?_⟩
    cases j with
    | zero => exact absurd rfl hj
    | succ j => exact ⟨hw, by omega⟩
  | x :: r, i + 1, v, la', h => by
    simp only [aset1] at h
    cases hr : aset1 r i v with
    | none => rw [hr] at h; simp at h
    | some r' =>
      rw [hr] at h
      obtain ⟨e1, e2, e3, e4⟩ := aset1_ok r i v r' hr
      have fin : ∀ y : Option Value, la' = y :: r' → (∀ w, y = some w → x = some w ∧ ¬ (i = 0 ∧ w.category = 2)) → la'.length = (x :: r).length ∧ i + 1 < (x :: r).length ∧ la'[i + 1]? = some (some v) ∧ ∀ (j : Nat) (w : Value), j ≠ i + 1 → la'[j]? = some (some w) → (x :: r)[j]? = some (some w) ∧ ¬ (j + 1 = i + 1 ∧ w.category = 2) := by
        intro y hy hx
        subst hy
        refine ⟨by simp [e1], by simp [e2], by simpa using e3, fun j w hj hw => ?_⟩
        cases j with
        | zero =>
          simp only [List.getElem?_cons_zero, Option.some.injEq] at hw
          obtain ⟨h1, h2⟩ := hx w hw
          exact ⟨by simp [h1], fun q => h2 ⟨by omega, q.2⟩⟩
        | succ j =>
          simp only [List.getElem?_cons_succ] at hw
          obtain ⟨h1, h2⟩ := e4 j w (by omega) hw
          exact ⟨by simpa using h1, fun q => h2 ⟨by omega, q.2⟩⟩
      dsimp only at h
      split at h
      · cases h; exact fin none rfl (fun w hw => by cases hw)
      · cases h; exact fin none rfl (fun w hw => by cases hw)
      · rename_i n1 n2
        cases h
        refine fin _ rfl (fun w hw => ⟨hw, fun q => ?_⟩)
        obtain ⟨q1, q2⟩ := q
        subst q1
        rcases acat q2 with ⟨z, rfl⟩ | ⟨z, rfl⟩
        · exact n1 z rfl hw
        · exact n2 z rfl hw
theorem aset2_ok : ∀ (la : aL) (i : Nat) (v : Value) (la' : aL), aset2 la i v = some la' → la'.length = la.length ∧ i + 1 < la.length ∧ la'[i]? = some (some v) ∧ ∀ (j : Nat) (w : Value), j ≠ i → la'[j]? = some (some w) → la[j]? = some (some w) ∧ j ≠ i + 1 ∧ ¬ (j + 1 = i ∧ w.category = 2)
  | [], i, v, la', h => by simp [aset2] at h
  | [x], 0, v, la', h => by simp [aset2] at h
  | x :: y :: r, 0, v, la', h => by
    simp only [aset2, Option.some.injEq] at h
    subst h
    refine ⟨rfl, by simp, rfl, fun j w hj hw => ?_⟩
    match j, hj, hw with
    | 0, hj, _ => exact absurd rfl hj
    | 1, _, hw => simp at hw
    | j + 2, _, hw => exact ⟨by simpa using hw, by omega, by omega⟩
  | x :: r, i + 1, v, la', h => by
    simp only [aset2] at h
    cases hr : aset2 r i v with
    | none => rw [hr] at h; simp at h
    | some r' =>
      rw [hr] at h
      obtain ⟨e1, e2, e3, e4⟩ := aset2_ok r i v r' hr
      have fin : ∀ y : Option Value, la' = y :: r' → (∀ w, y = some w → x = some w ∧ ¬ (i = 0 ∧ w.category = 2)) → la'.length = (x :: r).length ∧ i + 1 + 1 < (x :: r).length ∧ la'[i + 1]? = some (some v) ∧ ∀ (j : Nat) (w : Value), j ≠ i + 1 → la'[j]? = some (some w) → (x :: r)[j]? = some (some w) ∧ j ≠ i + 1 + 1 ∧ ¬ (j + 1 = i + 1 ∧ w.category = 2) := by
        intro y hy hx
        subst hy
        refine ⟨by simp [e1], by simp; omega, by simpa using e3, fun j w hj hw => ?_⟩
        cases j with
        | zero =>
          simp only [List.getElem?_cons_zero, Option.some.injEq] at hw
          obtain ⟨h1, h2⟩ := hx w hw
          exact ⟨by simp [h1], by omega, fun q => h2 ⟨by omega, q.2⟩⟩
        | succ j =>
          simp only [List.getElem?_cons_succ] at hw
          obtain ⟨h1, h2, h3⟩ := e4 j w (by omega) hw
          exact ⟨by simpa using h1, by omega, fun q => h3 ⟨by omega, q.2⟩⟩
      dsimp only at h
      split at h
      · cases h; exact fin none rfl (fun w hw => by cases hw)
      · cases h; exact fin none rfl (fun w hw => by cases hw)
      · rename_i n1 n2
        cases h
        refine fin _ rfl (fun w hw => ⟨hw, fun q => ?_⟩)
        obtain ⟨q1, q2⟩ := q
        subst q1
        rcases acat q2 with ⟨z, rfl⟩ | ⟨z, rfl⟩
        · exact n1 z rfl hw
        · exact n2 z rfl hw
def lr (L : aA) (la : aL) (ls : Array Slot) (nL : Nat) : Prop := la.length = nL ∧ ∃ lc : List (Nat × Value), lv_has ls nL lc ∧ ∀ (i : Nat) (v : Value), la[i]? = some (some v) → ∃ v', mv L v = some v' ∧ (i, v') ∈ lc
theorem lr_get {L : aA} {la : aL} {ls : Array Slot} {nL i : Nat} {v : Value} (h : lr L la ls nL) (hv : la[i]? = some (some v)) : ∃ v', mv L v = some v' ∧ ls[i]? = some (.val v') := by
  obtain ⟨-, lc, h1, h2⟩ := h
  obtain ⟨v', h3, h4⟩ := h2 i v hv
  exact ⟨v', h3, h1.2.2 _ h4⟩
theorem lr_ex {L : aA} {M : List Nat} {la : aL} {ls : Array Slot} {nL : Nat} (h : lr L la ls nL) : lr (L.1, L.2 ++ M) la ls nL := by
  obtain ⟨h0, lc, h1, h2⟩ := h
  refine ⟨h0, lc, h1, fun i v hv => ?_⟩
  obtain ⟨v', h3, h4⟩ := h2 i v hv
  exact ⟨v', mv_ex h3, h4⟩
theorem lr_set1 {L : aA} {la la' : aL} {nL i : Nat} {v v' : Value} {lc : List (Nat × Value)} (h0 : la.length = nL) (h2 : ∀ (i : Nat) (v : Value), la[i]? = some (some v) → ∃ v', mv L v = some v' ∧ (i, v') ∈ lc) (hs : aset1 la i v = some la') (hv : mv L v = some v') {ls' : Array Slot} (h : lv_has ls' nL ((i, v') :: lc.filter (fun q => !(q.1 == i) && !(q.1 + 1 == i && q.2.category == 2)))) : lr L la' ls' nL := by
  obtain ⟨e1, e2, e3, e4⟩ := aset1_ok _ _ _ _ hs
  refine ⟨e1.trans h0, _, h, fun j w hw => ?_⟩
  by_cases hj : j = i
  · subst hj
    rw [e3] at hw
    cases hw
    exact ⟨v', hv, List.mem_cons_self⟩
  · obtain ⟨h3, h4⟩ := e4 j w hj hw
    obtain ⟨w', h5, h6⟩ := h2 j w h3
    refine ⟨w', h5, List.mem_cons_of_mem _ (List.mem_filter.mpr ⟨h6, ?_⟩)⟩
    simp only [Bool.and_eq_true, Bool.not_eq_true', beq_eq_false_iff_ne, ne_eq, Bool.and_eq_false_iff, mv_cat h5]
    refine ⟨hj, ?_⟩
    by_cases q : j + 1 = i
    · exact Or.inr (fun z => h4 ⟨q, z⟩)
    · exact Or.inl q
theorem lr_set2 {L : aA} {la la' : aL} {nL i : Nat} {v v' : Value} {lc : List (Nat × Value)} (h0 : la.length = nL) (h2 : ∀ (i : Nat) (v : Value), la[i]? = some (some v) → ∃ v', mv L v = some v' ∧ (i, v') ∈ lc) (hs : aset2 la i v = some la') (hv : mv L v = some v') {ls' : Array Slot} (h : lv_has ls' nL ((i, v') :: lc.filter (fun q => !(q.1 == i) && (!(q.1 == i + 1) && !(q.1 + 1 == i && q.2.category == 2))))) : lr L la' ls' nL := by
  obtain ⟨e1, e2, e3, e4⟩ := aset2_ok _ _ _ _ hs
  refine ⟨e1.trans h0, _, h, fun j w hw => ?_⟩
  by_cases hj : j = i
  · subst hj
    rw [e3] at hw
    cases hw
    exact ⟨v', hv, List.mem_cons_self⟩
  · obtain ⟨h3, h3b, h4⟩ := e4 j w hj hw
    obtain ⟨w', h5, h6⟩ := h2 j w h3
    refine ⟨w', h5, List.mem_cons_of_mem _ (List.mem_filter.mpr ⟨h6, ?_⟩)⟩
    simp only [Bool.and_eq_true, Bool.not_eq_true', beq_eq_false_iff_ne, ne_eq, Bool.and_eq_false_iff, mv_cat h5]
    refine ⟨hj, h3b, ?_⟩
    by_cases q : j + 1 = i
    · exact Or.inr (fun z => h4 ⟨q, z⟩)
    · exact Or.inl q
/-- the locals with which a method begins -/
def arep : Nat → Option aL
  | 0 => some []
  | n + 1 => match arep n with
    | none => none
    | some r => some (none :: r)
def aini : List Value → Nat → Option aL
  | [], n => arep n
  | v :: r, n => match v, n with
    | _, 0 => none
    | .long x, n + 1 => match n with
      | 0 => none
      | n2 + 1 => match aini r n2 with
        | none => none
        | some t => some (some (.long x) :: none :: t)
    | .double x, n + 1 => match n with
      | 0 => none
      | n2 + 1 => match aini r n2 with
        | none => none
        | some t => some (some (.double x) :: none :: t)
    | w, n + 1 => match aini r n with
      | none => none
      | some t => some (some w :: t)
theorem arep_ok : ∀ (n : Nat) (la : aL), arep n = some la → la.length = n ∧ ∀ (i : Nat) (v : Value), la[i]? ≠ some (some v)
  | 0, la, h => by cases h; exact ⟨rfl, fun i v => by simp⟩
  | n + 1, la, h => by
    simp only [arep] at h
    cases hr : arep n with
    | none => rw [hr] at h; cases h
    | some r =>
      rw [hr] at h
      cases h
      obtain ⟨e1, e2⟩ := arep_ok n r hr
      refine ⟨by simp [e1], fun i v => ?_⟩
      cases i with
      | zero => simp
      | succ i => simpa using e2 i v
theorem aini_ok {L : aA} : ∀ (as as' : List Value) (n o : Nat) (la : aL), sr L as as' → aini as n = some la → la.length = n ∧ (lg_sl as').length ≤ n ∧ ∀ (i : Nat) (v : Value), la[i]? = some (some v) → ∃ v', mv L v = some v' ∧ (o + i, v') ∈ lv_args o as'
  | [], as', n, o, la, hs, h => by
    rw [sr_nil hs]
    obtain ⟨e1, e2⟩ := arep_ok n la h
    exact ⟨e1, by simp [lg_sl], fun i v hv => absurd hv (e2 i v)⟩
  | v :: r, as', n, o, la, hs, h => by
    obtain ⟨v', r', rfl, hv, hr⟩ := sr_cons hs
    have two : ∀ n2 t, v.category = 2 → n = n2 + 2 → aini r n2 = some t → la = some v :: none :: t → la.length = n ∧ (lg_sl (v' :: r')).length ≤ n ∧ ∀ (i : Nat) (w : Value), la[i]? = some (some w) → ∃ w', mv L w = some w' ∧ (o + i, w') ∈ lv_args o (v' :: r') := by
      intro n2 t hc hn ht hla
      have hc' : v'.category = 2 := by rw [mv_cat hv]; exact hc
      obtain ⟨e1, e2, e3⟩ := aini_ok r r' n2 (o + 2) t hr ht
      subst hla
      refine ⟨by simp [e1, hn], ?_, fun i w hw => ?_⟩
      · have : lg_sl (v' :: r') = [.val v', .second] ++ lg_sl r' := by simp [lg_sl, hc']
        rw [this, List.length_append]
        simp only [List.length_cons, List.length_nil]
        omega
      · simp only [lv_args, if_pos hc']
        match i, hw with
        | 0, hw =>
          simp only [List.getElem?_cons_zero, Option.some.injEq] at hw
          subst hw
          exact ⟨v', hv, List.mem_cons_self⟩
        | 1, hw => simp at hw
        | i + 2, hw =>
          simp only [List.getElem?_cons_succ] at hw
          obtain ⟨w', h5, h6⟩ := e3 i w hw
          exact ⟨w', h5, List.mem_cons_of_mem _ (by rw [show o + (i + 2) = o + 2 + i by omega]; exact h6)⟩
    have one : ∀ n2 t, ¬ v.category = 2 → n = n2 + 1 → aini r n2 = some t → la = some v :: t → la.length = n ∧ (lg_sl (v' :: r')).length ≤ n ∧ ∀ (i : Nat) (w : Value), la[i]? = some (some w) → ∃ w', mv L w = some w' ∧ (o + i, w') ∈ lv_args o (v' :: r') := by
      intro n2 t hc hn ht hla
      have hc' : ¬ v'.category = 2 := by rw [mv_cat hv]; exact hc
      obtain ⟨e1, e2, e3⟩ := aini_ok r r' n2 (o + 1) t hr ht
      subst hla
      refine ⟨by simp [e1, hn], ?_, fun i w hw => ?_⟩
      · have : lg_sl (v' :: r') = [.val v'] ++ lg_sl r' := by simp [lg_sl, hc']
        rw [this, List.length_append]
        simp only [List.length_cons, List.length_nil]
        omega
      · simp only [lv_args, if_neg hc']
        match i, hw with
        | 0, hw =>
          simp only [List.getElem?_cons_zero, Option.some.injEq] at hw
          subst hw
          exact ⟨v', hv, List.mem_cons_self⟩
        | i + 1, hw =>
          simp only [List.getElem?_cons_succ] at hw
          obtain ⟨w', h5, h6⟩ := e3 i w hw
          exact ⟨w', h5, List.mem_cons_of_mem _ (by rw [show o + (i + 1) = o + 1 + i by omega]; exact h6)⟩
    cases n with
    | zero => cases v <;> simp [aini] at h
    | succ n =>
      cases v with
      | long x =>
        cases n with
        | zero => simp [aini] at h
        | succ n2 =>
          simp only [aini] at h
          cases ht : aini r n2 with
          | none => rw [ht] at h; cases h
          | some t => rw [ht] at h; cases h; exact two n2 t rfl rfl ht rfl
      | double x =>
        cases n with
        | zero => simp [aini] at h
        | succ n2 =>
          simp only [aini] at h
          cases ht : aini r n2 with
          | none => rw [ht] at h; cases h
          | some t => rw [ht] at h; cases h; exact two n2 t rfl rfl ht rfl
      | int x =>
        simp only [aini] at h
        cases ht : aini r n with
        | none => rw [ht] at h; cases h
        | some t => rw [ht] at h; cases h; exact one n t (by simp [Value.category]) rfl ht rfl
      | float x =>
        simp only [aini] at h
        cases ht : aini r n with
        | none => rw [ht] at h; cases h
        | some t => rw [ht] at h; cases h; exact one n t (by simp [Value.category]) rfl ht rfl
      | null =>
        simp only [aini] at h
        cases ht : aini r n with
        | none => rw [ht] at h; cases h
        | some t => rw [ht] at h; cases h; exact one n t (by simp [Value.category]) rfl ht rfl
      | ref x =>
        simp only [aini] at h
        cases ht : aini r n with
        | none => rw [ht] at h; cases h
        | some t => rw [ht] at h; cases h; exact one n t (by simp [Value.category]) rfl ht rfl
      | retAddr x =>
        simp only [aini] at h
        cases ht : aini r n with
        | none => rw [ht] at h; cases h
        | some t => rw [ht] at h; cases h; exact one n t (by simp [Value.category]) rfl ht rfl
/-! ===== small functions that are evaluated ===== -/
def pops : Nat → List Value → List Value → Option (List Value × List Value)
  | 0, st, acc => some (acc, st)
  | n + 1, st, acc => match st with
    | [] => none
    | v :: r => pops n r (v :: acc)
theorem pops_ok : ∀ (n : Nat) (st acc r rest : List Value), pops n st acc = some (r, rest) → ∃ as, r = as ++ acc ∧ as.length = n ∧ st = as.reverse ++ rest
  | 0, st, acc, r, rest, h => by
    simp only [pops, Option.some.injEq, Prod.mk.injEq] at h
    exact ⟨[], by simp [h.1], rfl, by simp [h.2]⟩
  | n + 1, [], acc, r, rest, h => by simp [pops] at h
  | n + 1, v :: st, acc, r, rest, h => by
    simp only [pops] at h
    obtain ⟨as, h1, h2, h3⟩ := pops_ok n st (v :: acc) r rest h
    exact ⟨as ++ [v], by simp [h1], by simp [h2], by simp [h3]⟩
def lset : List Value → Nat → Value → Option (List Value)
  | [], _, _ => none
  | x :: r, i, v => match i with
    | 0 => some (v :: r)
    | i' + 1 => match lset r i' v with
      | none => none
      | some r' => some (x :: r')
theorem lset_ok : ∀ (fs : List Value) (k : Nat) (v : Value) (fs' : List Value), lset fs k v = some fs' → k < fs.length ∧ fs' = fs.set k v
  | [], k, v, fs', h => by simp [lset] at h
  | x :: r, 0, v, fs', h => by simp only [lset, Option.some.injEq] at h; subst h; exact ⟨by simp, rfl⟩
  | x :: r, k + 1, v, fs', h => by
    simp only [lset] at h
    cases hr : lset r k v with
    | none => rw [hr] at h; cases h
    | some r' =>
      rw [hr] at h
      cases h
      obtain ⟨h1, h2⟩ := lset_ok r k v r' hr
      exact ⟨by simp [h1], by simp [h2]⟩
def pu (v : Option Value) (st : List Value) : List Value := match v with
  | none => st
  | some w => w :: st
