/-! ===== searching: what is found of walks, put together ===== -/
abbrev rB : Type := Option (Int × Nat × (Nat → Nat))
/-- how many were found, and the one that is kept: its score, its steps, its row -/
abbrev rV : Type := Nat × rB
def jb : rB → rB → rB
  | none, q => q
  | some a, none => some a
  | some a, some b => if a.1 < b.1 ∨ (a.1 = b.1 ∧ b.2.1 < a.2.1) then some b else some a
def jn (u v : rV) : rV := (u.1 + v.1, jb u.2 v.2)
def un : rV := (0, none)
theorem jb_n (u : rB) : jb u none = u := by cases u <;> rfl
theorem jb_y {a b : Int × Nat × (Nat → Nat)} (h : a.1 < b.1 ∨ (a.1 = b.1 ∧ b.2.1 < a.2.1)) : jb (some a) (some b) = some b := if_pos h
theorem jb_x {a b : Int × Nat × (Nat → Nat)} (h : ¬ (a.1 < b.1 ∨ (a.1 = b.1 ∧ b.2.1 < a.2.1))) : jb (some a) (some b) = some a := if_neg h
theorem jb_assoc (u v w : rB) : jb (jb u v) w = jb u (jb v w) := by
  cases u with
  | none => rfl
  | some a =>
    cases v with
    | none => rfl
    | some b =>
      cases w with
      | none => rw [jb_n, jb_n]
      | some c =>
        by_cases h1 : a.1 < b.1 ∨ (a.1 = b.1 ∧ b.2.1 < a.2.1)
        · by_cases h2 : b.1 < c.1 ∨ (b.1 = c.1 ∧ c.2.1 < b.2.1)
          · have h3 : a.1 < c.1 ∨ (a.1 = c.1 ∧ c.2.1 < a.2.1) := by omega
            rw [jb_y h1, jb_y h2, jb_y h3]
          · rw [jb_y h1, jb_x h2, jb_y h1]
        · by_cases h2 : b.1 < c.1 ∨ (b.1 = c.1 ∧ c.2.1 < b.2.1)
          · rw [jb_x h1, jb_y h2]
          · have h3 : ¬ (a.1 < c.1 ∨ (a.1 = c.1 ∧ c.2.1 < a.2.1)) := by omega
            rw [jb_x h1, jb_x h2, jb_x h1, jb_x h3]
theorem jn_assoc (u v w : rV) : jn (jn u v) w = jn u (jn v w) := by
  unfold jn
  simp only [Nat.add_assoc, jb_assoc]
theorem jn_un (u : rV) : jn u un = u := by
  obtain ⟨a, b⟩ := u
  simp only [jn, un, jb_n, Nat.add_zero]
theorem un_jn (u : rV) : jn un u = u := by
  obtain ⟨a, b⟩ := u
  simp only [jn, un, jb, Nat.zero_add]
theorem jb_some {p q : rB} {b : Int × Nat × (Nat → Nat)} (h : jb p q = some b) : p = some b ∨ q = some b := by
  cases p with
  | none => exact Or.inr h
  | some a =>
    cases q with
    | none => exact Or.inl h
    | some c =>
      by_cases h1 : a.1 < c.1 ∨ (a.1 = c.1 ∧ c.2.1 < a.2.1)
      · rw [jb_y h1] at h; exact Or.inr h
      · rw [jb_x h1] at h; exact Or.inl h
/-- what is kept has so many steps -/
def ofL (m : Nat) (v : rV) : Prop := ∀ b, v.2 = some b → b.2.1 = m
theorem ofL_un (m : Nat) : ofL m un := fun b h => by cases h
theorem ofL_jn {m : Nat} {u v : rV} (hu : ofL m u) (hv : ofL m v) : ofL m (jn u v) := by
  intro b hb
  rcases jb_some hb with h | h
  · exact hu b h
  · exact hv b h
theorem jn_comm {a b : Nat} {u v : rV} (hu : ofL a u) (hv : ofL b v) (h : a ≠ b) : jn u v = jn v u := by
  obtain ⟨u1, u2⟩ := u
  obtain ⟨v1, v2⟩ := v
  have h2 : jb u2 v2 = jb v2 u2 := by
    cases u2 with
    | none => exact (jb_n v2).symm
    | some x =>
      cases v2 with
      | none => rfl
      | some y =>
        have h3 : x.2.1 = a := hu x rfl
        have h4 : y.2.1 = b := hv y rfl
        by_cases h1 : x.1 < y.1 ∨ (x.1 = y.1 ∧ y.2.1 < x.2.1)
        · rw [jb_y h1, jb_x (by omega)]
        · rw [jb_x h1, jb_y (by omega)]
  show (u1 + v1, jb u2 v2) = (v1 + u1, jb v2 u2)
  rw [h2, Nat.add_comm]
/-- t of them, from k on -/
def ff (f : Nat → rV) : Nat → Nat → rV
  | 0, _ => un
  | t + 1, k => jn (f k) (ff f t (k + 1))
theorem ff_congr {f g : Nat → rV} : ∀ (t k : Nat), (∀ x, k ≤ x → x < k + t → f x = g x) → ff f t k = ff g t k
  | 0, _, _ => rfl
  | t + 1, k, h => by
    simp only [ff]
    rw [h k (Nat.le_refl _) (by omega), ff_congr t (k + 1) (fun x h1 h2 => h x (by omega) (by omega))]
theorem ff_un : ∀ (t k : Nat), ff (fun _ => un) t k = un
  | 0, _ => rfl
  | t + 1, k => by
    simp only [ff]
    rw [ff_un t (k + 1), jn_un]
theorem ff_ofL {m : Nat} {f : Nat → rV} (h : ∀ x, ofL m (f x)) : ∀ (t k : Nat), ofL m (ff f t k)
  | 0, _ => ofL_un m
  | t + 1, k => ofL_jn (h k) (ff_ofL h t (k + 1))
theorem ff_shift {g : Nat → rV} : ∀ (t k : Nat), ff g t (k + 1) = ff (fun x => g (x + 1)) t k
  | 0, _ => rfl
  | t + 1, k => by
    simp only [ff]
    rw [ff_shift t (k + 1)]
theorem ff_snoc {g : Nat → rV} : ∀ (t k : Nat), ff g (t + 1) k = jn (ff g t k) (g (k + t))
  | 0, k => by
    simp only [ff, Nat.add_zero]
    rw [jn_un, un_jn]
  | t + 1, k => by
    have h := ff_snoc (g := g) t (k + 1)
    show jn (g k) (ff g (t + 1) (k + 1)) = jn (jn (g k) (ff g t (k + 1))) (g (k + (t + 1)))
    rw [h, jn_assoc, show k + 1 + t = k + (t + 1) by omega]
theorem ff_comm {A : Nat → rV} {c b : Nat} {B : rV} (hB : ofL b B) : ∀ (t k : Nat), (∀ x, k ≤ x → ofL (c + x) (A x)) → b < c + k → jn (ff A t k) B = jn B (ff A t k)
  | 0, _, _, _ => by
    simp only [ff]
    rw [jn_un, un_jn]
  | t + 1, k, hA, hb => by
    simp only [ff]
    rw [jn_assoc, ff_comm hB t (k + 1) (fun x hx => hA x (by omega)) (by omega), ← jn_assoc, jn_comm (hA k (Nat.le_refl _)) hB (by omega), jn_assoc]
theorem ff_jn {A B : Nat → rV} {c : Nat} : ∀ (t k : Nat), (∀ x, k ≤ x → ofL (c + x) (A x)) → (∀ x, k ≤ x → ofL (c + x) (B x)) → jn (ff A t k) (ff B t k) = ff (fun x => jn (A x) (B x)) t k
  | 0, _, _, _ => by
    simp only [ff]
    rw [jn_un]
  | t + 1, k, hA, hB => by
    have ih := ff_jn (A := A) (B := B) (c := c) t (k + 1) (fun x hx => hA x (by omega)) (fun x hx => hB x (by omega))
    have hc := ff_comm (A := A) (c := c) (hB k (Nat.le_refl _)) t (k + 1) (fun x hx => hA x (by omega)) (by omega)
    simp only [ff]
    rw [← ih, jn_assoc, ← jn_assoc (ff A t (k + 1)) (B k), hc, jn_assoc (B k), ← jn_assoc (A k) (B k)]
theorem ff_swap {F : Nat → Nat → rV} {c : Nat} (hF : ∀ x k, ofL (c + x) (F x k)) (f : Nat) : ∀ (n k : Nat), ff (fun k => ff (fun x => F x k) f 0) n k = ff (fun x => ff (F x) n k) f 0
  | 0, k => by
    show un = ff (fun _ => un) f 0
    rw [ff_un]
  | n + 1, k => by
    show jn (ff (fun x => F x k) f 0) (ff (fun k => ff (fun x => F x k) f 0) n (k + 1)) = ff (fun x => jn (F x k) (ff (F x) n (k + 1))) f 0
    rw [ff_swap hF f n (k + 1)]
    exact ff_jn (c := c) f 0 (fun x _ => hF x k) (fun x _ => ff_ofL (hF x) n (k + 1))
/-! ===== the walks from a place on: by depth, and by their number of steps ===== -/
def tm (o : Option Nat) (g : Nat → rV) : rV := match o with
  | none => un
  | some q => g q
def hv (val : Nat → (Nat → Nat) → rV) (hm s : Nat) (r : Nat → Nat) (q : Nat) : rV := if q = hm then val s r else un
def tD (G : Nat → Nat → Nat) (cs hm : Nat) (val : Nat → (Nat → Nat) → rV) (D : Nat → (Nat → Nat) → Nat → rV) (s : Nat) (r : Nat → Nat) (p k : Nat) : rV := tm (gt G cs k p) (fun q => jn (hv val hm (s + 1) (uz r s k) q) (D (s + 1) (uz r s k) q))
def Dn (G : Nat → Nat → Nat) (cs n hm : Nat) (val : Nat → (Nat → Nat) → rV) : Nat → Nat → (Nat → Nat) → Nat → rV
  | 0, _, _, _ => un
  | f + 1, s, r, p => ff (tD G cs hm val (Dn G cs n hm val f) s r p) n 0
def tL0 (G : Nat → Nat → Nat) (cs hm : Nat) (val : Nat → (Nat → Nat) → rV) (s : Nat) (r : Nat → Nat) (p k : Nat) : rV := tm (gt G cs k p) (fun q => hv val hm (s + 1) (uz r s k) q)
def tL (G : Nat → Nat → Nat) (cs : Nat) (D : Nat → (Nat → Nat) → Nat → rV) (s : Nat) (r : Nat → Nat) (p k : Nat) : rV := tm (gt G cs k p) (fun q => D (s + 1) (uz r s k) q)
/-- the walks of s + x + 1 steps -/
def Ln (G : Nat → Nat → Nat) (cs n hm : Nat) (val : Nat → (Nat → Nat) → rV) : Nat → Nat → (Nat → Nat) → Nat → rV
  | 0, s, r, p => ff (tL0 G cs hm val s r p) n 0
  | x + 1, s, r, p => ff (tL G cs (Ln G cs n hm val x) s r p) n 0
def tX (G : Nat → Nat → Nat) (cs n hm : Nat) (val : Nat → (Nat → Nat) → rV) (s : Nat) (r : Nat → Nat) (p : Nat) : Nat → Nat → rV
  | 0 => tL0 G cs hm val s r p
  | x + 1 => tL G cs (Ln G cs n hm val x) s r p
theorem Ln_tX {G : Nat → Nat → Nat} {cs n hm : Nat} {val : Nat → (Nat → Nat) → rV} {s : Nat} {r : Nat → Nat} {p : Nat} : ∀ x, Ln G cs n hm val x s r p = ff (tX G cs n hm val s r p x) n 0
  | 0 => rfl
  | x + 1 => rfl
theorem ofL_hv {val : Nat → (Nat → Nat) → rV} (hval : ∀ s r, ofL s (val s r)) {hm s q : Nat} {r : Nat → Nat} : ofL s (hv val hm s r q) := by
  unfold hv
  split
  · exact hval s r
  · exact ofL_un s
theorem ofL_Ln {G : Nat → Nat → Nat} {cs n hm : Nat} {val : Nat → (Nat → Nat) → rV} (hval : ∀ s r, ofL s (val s r)) : ∀ (x s : Nat) (r : Nat → Nat) (p : Nat), ofL (s + 1 + x) (Ln G cs n hm val x s r p)
  | 0, s, r, p => by
    refine ff_ofL (fun k => ?_) n 0
    show ofL (s + 1) (tm (gt G cs k p) _)
    cases gt G cs k p with
    | none => exact ofL_un _
    | some q => exact ofL_hv hval
  | x + 1, s, r, p => by
    refine ff_ofL (fun k => ?_) n 0
    show ofL (s + 1 + (x + 1)) (tm (gt G cs k p) _)
    cases gt G cs k p with
    | none => exact ofL_un _
    | some q =>
      have h := ofL_Ln (G := G) (cs := cs) (n := n) (hm := hm) hval x (s + 1) (uz r s k) q
      rw [show s + 1 + 1 + x = s + 1 + (x + 1) by omega] at h
      exact h
theorem ofL_tX {G : Nat → Nat → Nat} {cs n hm : Nat} {val : Nat → (Nat → Nat) → rV} (hval : ∀ s r, ofL s (val s r)) {s : Nat} {r : Nat → Nat} {p : Nat} : ∀ (x k : Nat), ofL (s + 1 + x) (tX G cs n hm val s r p x k)
  | 0, k => by
    show ofL (s + 1) (tm (gt G cs k p) _)
    cases gt G cs k p with
    | none => exact ofL_un _
    | some q => exact ofL_hv hval
  | x + 1, k => by
    show ofL (s + 1 + (x + 1)) (tm (gt G cs k p) _)
    cases gt G cs k p with
    | none => exact ofL_un _
    | some q =>
      have h := ofL_Ln (G := G) (cs := cs) (n := n) (hm := hm) hval x (s + 1) (uz r s k) q
      rw [show s + 1 + 1 + x = s + 1 + (x + 1) by omega] at h
      exact h
theorem Dn_eq {G : Nat → Nat → Nat} {cs n hm : Nat} {val : Nat → (Nat → Nat) → rV} (hval : ∀ s r, ofL s (val s r)) : ∀ (f s : Nat) (r : Nat → Nat) (p : Nat), Dn G cs n hm val f s r p = ff (fun x => Ln G cs n hm val x s r p) f 0
  | 0, _, _, _ => rfl
  | f + 1, s, r, p => by
    have e1 : ∀ k, tD G cs hm val (Dn G cs n hm val f) s r p k = ff (fun x => tX G cs n hm val s r p x k) (f + 1) 0 := by
      intro k
      show _ = jn (tL0 G cs hm val s r p k) (ff (fun x => tX G cs n hm val s r p x k) f (0 + 1))
      rw [ff_shift]
      unfold tD tL0
      cases hg : gt G cs k p with
      | none =>
        rw [ff_congr (f := fun x => tX G cs n hm val s r p (x + 1) k) (g := fun _ => un) f 0 (fun x _ _ => by show tL G cs (Ln G cs n hm val x) s r p k = un; unfold tL; rw [hg]; rfl), ff_un]
        rfl
      | some q =>
        rw [ff_congr (f := fun x => tX G cs n hm val s r p (x + 1) k) (g := fun x => Ln G cs n hm val x (s + 1) (uz r s k) q) f 0 (fun x _ _ => by show tL G cs (Ln G cs n hm val x) s r p k = _; unfold tL; rw [hg]; rfl), ← Dn_eq hval f (s + 1) (uz r s k) q]
        rfl
    show ff (tD G cs hm val (Dn G cs n hm val f) s r p) n 0 = _
    rw [ff_congr (f := tD G cs hm val (Dn G cs n hm val f) s r p) (g := fun k => ff (fun x => tX G cs n hm val s r p x k) (f + 1) 0) n 0 (fun k _ _ => e1 k), ff_swap (c := s + 1) (ofL_tX hval) (f + 1) n 0]
    exact ff_congr (f + 1) 0 (fun x _ _ => (Ln_tX x).symm)
/-! how many at most -/
def cap (n : Nat) : Nat → Nat
  | 0 => 0
  | f + 1 => n * (1 + cap n f)
theorem cap_9 {n : Nat} (h : n ≤ 9) : ∀ f, cap n f ≤ cap 9 f
  | 0 => Nat.le_refl _
  | f + 1 => Nat.mul_le_mul h (Nat.add_le_add_left (cap_9 h f) 1)
theorem cap_5 : ∀ f, f < 6 → cap 9 f ≤ 66429 := by decide
theorem ff_cnt {f : Nat → rV} {m : Nat} (h : ∀ x, (f x).1 ≤ m) : ∀ (t k : Nat), (ff f t k).1 ≤ t * m
  | 0, _ => Nat.zero_le _
  | t + 1, k => by
    have h1 := h k
    have h2 := ff_cnt h t (k + 1)
    show (f k).1 + (ff f t (k + 1)).1 ≤ _
    rw [Nat.add_mul, Nat.one_mul]
    omega
theorem Dn_cnt {G : Nat → Nat → Nat} {cs n hm : Nat} {val : Nat → (Nat → Nat) → rV} (hval : ∀ s r, (val s r).1 ≤ 1) : ∀ (f s : Nat) (r : Nat → Nat) (p : Nat), (Dn G cs n hm val f s r p).1 ≤ cap n f
  | 0, _, _, _ => Nat.zero_le _
  | f + 1, s, r, p => by
    show (ff (tD G cs hm val (Dn G cs n hm val f) s r p) n 0).1 ≤ n * (1 + cap n f)
    refine ff_cnt (fun k => ?_) n 0
    show (tm (gt G cs k p) _).1 ≤ _
    cases gt G cs k p with
    | none => exact Nat.zero_le _
    | some q =>
      have h1 := Dn_cnt (G := G) (cs := cs) (n := n) (hm := hm) hval f (s + 1) (uz r s k) q
      have h2 : (hv val hm (s + 1) (uz r s k) q).1 ≤ 1 := by
        unfold hv
        split
        · exact hval _ _
        · exact Nat.zero_le _
      show (hv val hm (s + 1) (uz r s k) q).1 + (Dn G cs n hm val f (s + 1) (uz r s k) q).1 ≤ _
      omega
theorem Dn_small {G : Nat → Nat → Nat} {cs n hm : Nat} {val : Nat → (Nat → Nat) → rV} (hval : ∀ s r, (val s r).1 ≤ 1) (hn : n ≤ 9) {f : Nat} (hf : f ≤ 5) (s : Nat) (r : Nat → Nat) (p : Nat) : (Dn G cs n hm val f s r p).1 ≤ 66429 :=
  Nat.le_trans (Dn_cnt hval f s r p) (Nat.le_trans (cap_9 hn f) (cap_5 f (by omega)))
