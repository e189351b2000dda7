/-! ===== the quickest ways: their numbers ===== -/
def om : Option Nat → Option Nat → Option Nat
  | none, q => q
  | some a, none => some a
  | some a, some b => some (min a b)
def oad (p : Option Nat) (t : Nat) : Option Nat := p.map (· + t)
def rlx (t a b : Nat) (D : Nat → Option Nat) : Nat → Option Nat := fun x => if x = b then om (D b) (oad (D a) t) else if x = a then om (D a) (oad (D b) t) else D x
def rdO (G : Nat → Nat → Nat) (cs : Nat) (fz : Int) (D : Nat → Option Nat) : Nat → Nat → Option Nat
  | 0 => D
  | k + 1 => if cs.testBit k then rdO G cs fz D k else rlx (tk G fz k) (G 1 k) (G 2 k) (rdO G cs fz D k)
def bfO (G : Nat → Nat → Nat) (cs : Nat) (fz : Int) (n s : Nat) : Nat → Nat → Option Nat
  | 0 => fun x => if x = s then some 0 else none
  | r + 1 => rdO G cs fz (bfO G cs fz n s r) n
def ole (p q : Option Nat) : Prop := ∀ v, q = some v → ∃ u, p = some u ∧ u ≤ v
theorem ole_refl (p : Option Nat) : ole p p := fun v h => ⟨v, h, Nat.le_refl _⟩
theorem ole_trans {p q r : Option Nat} (h1 : ole p q) (h2 : ole q r) : ole p r := by
  intro v h
  obtain ⟨u, hu, hl⟩ := h2 v h
  obtain ⟨w, hw, hl2⟩ := h1 u hu
  exact ⟨w, hw, Nat.le_trans hl2 hl⟩
theorem om_l (p q : Option Nat) : ole (om p q) p := by
  intro v h
  cases p with
  | none => cases h
  | some a =>
    cases h
    cases q with
    | none => exact ⟨v, rfl, Nat.le_refl _⟩
    | some b => exact ⟨min v b, rfl, Nat.min_le_left _ _⟩
theorem om_r (p q : Option Nat) : ole (om p q) q := by
  intro v h
  cases q with
  | none => cases h
  | some a =>
    cases h
    cases p with
    | none => exact ⟨v, rfl, Nat.le_refl _⟩
    | some b => exact ⟨min b v, rfl, Nat.min_le_right _ _⟩
theorem om_some {p q : Option Nat} {v : Nat} (h : om p q = some v) : p = some v ∨ q = some v := by
  cases p with
  | none => exact Or.inr h
  | some a =>
    cases q with
    | none => exact Or.inl h
    | some b =>
      have h : min a b = v := by simpa [om] using h
      by_cases e : a ≤ b
      · rw [Nat.min_eq_left e] at h; exact Or.inl (by rw [h])
      · rw [Nat.min_eq_right (by omega)] at h; exact Or.inr (by rw [h])
theorem oad_some {p : Option Nat} {t v : Nat} (h : oad p t = some v) : ∃ u, p = some u ∧ v = u + t := by
  cases p with
  | none => cases h
  | some a => exact ⟨a, rfl, by simpa [oad] using h.symm⟩
theorem oad_mono {p q : Option Nat} {t : Nat} (h : ole p q) : ole (oad p t) (oad q t) := by
  intro v hv
  obtain ⟨u, hu, rfl⟩ := oad_some hv
  obtain ⟨w, hw, hl⟩ := h u hu
  exact ⟨w + t, by rw [hw]; rfl, by omega⟩
theorem rlx_le (t a b : Nat) (D : Nat → Option Nat) (x : Nat) : ole (rlx t a b D x) (D x) := by
  unfold rlx
  split
  · next h => subst h; exact om_l _ _
  · split
    · next h => subst h; exact om_l _ _
    · exact ole_refl _
theorem rlx_ab (t a b : Nat) (D : Nat → Option Nat) : ole (rlx t a b D b) (oad (D a) t) := by
  unfold rlx
  rw [if_pos rfl]
  exact om_r _ _
theorem rlx_ba {t a b : Nat} (h : a ≠ b) (D : Nat → Option Nat) : ole (rlx t a b D a) (oad (D b) t) := by
  unfold rlx
  rw [if_neg h, if_pos rfl]
  exact om_r _ _
theorem rlx_some {t a b : Nat} {D : Nat → Option Nat} {x v : Nat} (h : rlx t a b D x = some v) : D x = some v ∨ (x = b ∧ ∃ u, D a = some u ∧ v = u + t) ∨ (x = a ∧ ∃ u, D b = some u ∧ v = u + t) := by
  unfold rlx at h
  split at h
  · next e =>
    rcases om_some h with h | h
    · exact Or.inl (by rw [e]; exact h)
    · exact Or.inr (Or.inl ⟨e, oad_some h⟩)
  · split at h
    · next e =>
      rcases om_some h with h | h
      · exact Or.inl (by rw [e]; exact h)
      · exact Or.inr (Or.inr ⟨e, oad_some h⟩)
    · exact Or.inl h
def WkN (G : Nat → Nat → Nat) (cs : Nat) (fz : Int) (n s : Nat) : Nat → Nat → Nat → Prop
  | 0, x, v => x = s ∧ v = 0
  | r + 1, x, v => ∃ y u k, WkN G cs fz n s r y u ∧ k < n ∧ gt G cs k y = some x ∧ v = u + tk G fz k
def Wk (G : Nat → Nat → Nat) (cs : Nat) (fz : Int) (n s x v : Nat) : Prop := ∃ r, WkN G cs fz n s r x v
theorem Wk_nil {G : Nat → Nat → Nat} {cs n s : Nat} {fz : Int} : Wk G cs fz n s s 0 := ⟨0, rfl, rfl⟩
theorem Wk_step {G : Nat → Nat → Nat} {cs n s y v k x v2 : Nat} {fz : Int} (h : Wk G cs fz n s y v) (hk : k < n) (hg : gt G cs k y = some x) (hv : v2 = v + tk G fz k) : Wk G cs fz n s x v2 := by
  obtain ⟨r, h⟩ := h
  exact ⟨r + 1, y, v, k, h, hk, hg, hv⟩
theorem rdO_s {G : Nat → Nat → Nat} {cs : Nat} {fz : Int} {D : Nat → Option Nat} {k : Nat} (h : ¬ cs.testBit k = true) : rdO G cs fz D (k + 1) = rlx (tk G fz k) (G 1 k) (G 2 k) (rdO G cs fz D k) := by simp only [rdO]; rw [if_neg h]
theorem rdO_c {G : Nat → Nat → Nat} {cs : Nat} {fz : Int} {D : Nat → Option Nat} {k : Nat} (h : cs.testBit k = true) : rdO G cs fz D (k + 1) = rdO G cs fz D k := by simp only [rdO]; rw [if_pos h]
theorem rdO_sound {G : Nat → Nat → Nat} {cs pl n s : Nat} {fz : Int} {D : Nat → Option Nat} (hg : GD pl n G) (hD : ∀ x v, D x = some v → Wk G cs fz n s x v) : ∀ k, k ≤ n → ∀ x v, rdO G cs fz D k x = some v → Wk G cs fz n s x v
  | 0, _, x, v, h => hD x v h
  | k + 1, hk, x, v, h => by
    have ih := rdO_sound hg hD k (by omega)
    have hG := hg.2.2 k (by omega)
    by_cases hc : cs.testBit k = true
    · rw [rdO_c hc] at h; exact ih x v h
    · rw [rdO_s hc] at h
      rcases rlx_some h with h | ⟨e, u, hu, hv⟩ | ⟨e, u, hu, hv⟩
      · exact ih x v h
      · subst e
        exact Wk_step (ih _ _ hu) (show k < n by omega) (by unfold gt; rw [if_neg hc, if_pos rfl]) hv
      · subst e
        exact Wk_step (ih _ _ hu) (show k < n by omega) (by unfold gt; rw [if_neg hc, if_neg (by omega), if_pos rfl]) hv
theorem rdO_mono {G : Nat → Nat → Nat} {cs : Nat} {fz : Int} {D : Nat → Option Nat} {x k : Nat} : ∀ t, ole (rdO G cs fz D (k + t) x) (rdO G cs fz D k x)
  | 0 => ole_refl _
  | t + 1 => by
    refine ole_trans ?_ (rdO_mono t)
    by_cases hc : cs.testBit (k + t) = true
    · rw [← Nat.add_assoc, rdO_c hc]; exact ole_refl _
    · rw [← Nat.add_assoc, rdO_s hc]; exact rlx_le _ _ _ _ _
theorem rdO_edge {G : Nat → Nat → Nat} {cs pl n k x y : Nat} {fz : Int} {D : Nat → Option Nat} (hg : GD pl n G) (hk : k < n) (h : gt G cs k y = some x) : ole (rdO G cs fz D n x) (oad (D y) (tk G fz k)) := by
  obtain ⟨hc, -, -, hh⟩ := gt_some hg hk h
  have hc2 : ¬ cs.testBit k = true := by rw [hc]; decide
  have h1 := rdO_mono (G := G) (cs := cs) (fz := fz) (D := D) (x := x) (k := k + 1) (n - (k + 1))
  rw [show k + 1 + (n - (k + 1)) = n by omega, rdO_s hc2] at h1
  have h0 := rdO_mono (G := G) (cs := cs) (fz := fz) (D := D) (x := y) (k := 0) k
  rw [Nat.zero_add] at h0
  rcases hh with ⟨e1, e2⟩ | ⟨e0, e1, e2⟩
  · subst e1; subst e2
    exact ole_trans h1 (ole_trans (rlx_ab _ _ _ _) (oad_mono h0))
  · subst e1; subst e2
    exact ole_trans h1 (ole_trans (rlx_ba e0 _) (oad_mono h0))
theorem bfO_le {G : Nat → Nat → Nat} {cs n s x r : Nat} {fz : Int} : ole (bfO G cs fz n s (r + 1) x) (bfO G cs fz n s r x) := by
  have h := rdO_mono (G := G) (cs := cs) (fz := fz) (D := bfO G cs fz n s r) (x := x) (k := 0) n
  rw [Nat.zero_add] at h
  exact h
theorem bfO_sound {G : Nat → Nat → Nat} {cs pl n s : Nat} {fz : Int} (hg : GD pl n G) : ∀ r x v, bfO G cs fz n s r x = some v → Wk G cs fz n s x v
  | 0, x, v, h => by
    simp only [bfO] at h
    split at h
    · next e => cases h; rw [e]; exact Wk_nil
    · cases h
  | r + 1, x, v, h => rdO_sound hg (bfO_sound hg r) n (Nat.le_refl _) x v h
theorem bfO_src {G : Nat → Nat → Nat} {cs n s : Nat} {fz : Int} : ∀ r, bfO G cs fz n s r s = some 0
  | 0 => by simp [bfO]
  | r + 1 => by
    obtain ⟨u, hu, hl⟩ := bfO_le (G := G) (cs := cs) (n := n) (s := s) (x := s) (r := r) (fz := fz) 0 (bfO_src r)
    obtain rfl : u = 0 := by omega
    exact hu
def isM (G : Nat → Nat → Nat) (cs : Nat) (fz : Int) (n s x v : Nat) : Prop := Wk G cs fz n s x v ∧ ∀ u, Wk G cs fz n s x u → v ≤ u
def fnl (G : Nat → Nat → Nat) (cs : Nat) (fz : Int) (n s r x : Nat) : Prop := ∀ v, isM G cs fz n s x v → bfO G cs fz n s r x = some v
theorem isM_uni {G : Nat → Nat → Nat} {cs n s x v u : Nat} {fz : Int} (h : isM G cs fz n s x v) (h2 : isM G cs fz n s x u) : v = u := Nat.le_antisymm (h.2 u h2.1) (h2.2 v h.1)
theorem hit {G : Nat → Nat → Nat} {cs pl n s x v r : Nat} {fz : Int} (hg : GD pl n G) (h : isM G cs fz n s x v) (h2 : ole (bfO G cs fz n s r x) (some v)) : bfO G cs fz n s r x = some v := by
  obtain ⟨u, hu, hl⟩ := h2 v rfl
  have := h.2 u (bfO_sound hg r x u hu)
  obtain rfl : u = v := by omega
  exact hu
theorem fnl_mono {G : Nat → Nat → Nat} {cs pl n s r x : Nat} {fz : Int} (hg : GD pl n G) (h : fnl G cs fz n s r x) : fnl G cs fz n s (r + 1) x := by
  intro v hv
  refine hit hg hv ?_
  rw [← h v hv]
  exact bfO_le
theorem fnl_step {G : Nat → Nat → Nat} {cs pl n s r : Nat} {fz : Int} (hg : GD pl n G) (h : ¬ ∀ x, x < pl → fnl G cs fz n s r x) : ∃ x, x < pl ∧ ¬ fnl G cs fz n s r x ∧ fnl G cs fz n s (r + 1) x := by
  have hP : ∃ v x, x < pl ∧ isM G cs fz n s x v ∧ bfO G cs fz n s r x ≠ some v := by
    refine Classical.byContradiction (fun hn => h (fun x hx v hv => Classical.byContradiction (fun hne => hn ⟨v, x, hx, hv, hne⟩)))
  obtain ⟨v, ⟨x, hx, hv, hne⟩, hmin⟩ : ∃ v, (∃ x, x < pl ∧ isM G cs fz n s x v ∧ bfO G cs fz n s r x ≠ some v) ∧ ∀ u, u < v → ¬ ∃ x, x < pl ∧ isM G cs fz n s x u ∧ bfO G cs fz n s r x ≠ some u := by
    obtain ⟨v0, h0⟩ := hP
    revert h0
    induction v0 using Nat.strongRecOn with
    | _ v0 ih =>
      intro h0
      by_cases hl : ∃ u, u < v0 ∧ ∃ x, x < pl ∧ isM G cs fz n s x u ∧ bfO G cs fz n s r x ≠ some u
      · obtain ⟨u, hu, hh⟩ := hl
        exact ih u hu hh
      · exact ⟨v0, h0, fun u hu hh => hl ⟨u, hu, hh⟩⟩
  refine ⟨x, hx, fun hf => hne (hf v hv), fun u hu => ?_⟩
  obtain rfl := isM_uni hv hu
  obtain ⟨rr, hw⟩ := hv.1
  cases rr with
  | zero =>
    obtain ⟨e1, e2⟩ := hw
    subst e1; subst e2
    exact absurd (bfO_src r) hne
  | succ rr =>
    obtain ⟨y, w, k, hw, hk, hgt, he⟩ := hw
    have ht := (tk_le hg fz hk).2
    have hyM : isM G cs fz n s y w := ⟨⟨rr, hw⟩, fun w2 h2 => by have := hv.2 _ (Wk_step h2 hk hgt rfl); omega⟩
    have hyp : y < pl := (gt_some hg hk hgt).2.2.1
    have hyf : bfO G cs fz n s r y = some w := Classical.byContradiction (fun hn => hmin w (by omega) ⟨y, hyp, hyM, hn⟩)
    refine hit hg hv ?_
    have h1 := rdO_edge (fz := fz) (D := bfO G cs fz n s r) hg hk hgt
    rw [hyf] at h1
    rw [he]
    exact h1
theorem sumN_lt {f g : Nat → Nat} {j : Nat} : ∀ n, j < n → (∀ k, k < n → f k ≤ g k) → f j < g j → sumN f n < sumN g n
  | 0, h, _, _ => by omega
  | n + 1, h, hl, hj => by
    simp only [sumN]
    have hn := hl n (by omega)
    by_cases e : j = n
    · subst e
      have : ∀ m, m ≤ j → sumN f m ≤ sumN g m := by
        intro m
        induction m with
        | zero => intro _; exact Nat.le_refl _
        | succ m ih => intro hm; have := ih (by omega); have := hl m (by omega); simp only [sumN]; omega
      have := this j (Nat.le_refl _)
      omega
    · have := sumN_lt n (show j < n by omega) (fun k hk => hl k (by omega)) hj
      omega
theorem sumN_one : ∀ m, sumN (fun _ => 1) m = m
  | 0 => rfl
  | m + 1 => by simp only [sumN]; rw [sumN_one m]
noncomputable def fI (G : Nat → Nat → Nat) (cs : Nat) (fz : Int) (n s r x : Nat) : Nat := @ite Nat (fnl G cs fz n s r x) (Classical.propDecidable _) 1 0
theorem fI_1 {G : Nat → Nat → Nat} {cs n s r x : Nat} {fz : Int} (h : fnl G cs fz n s r x) : fI G cs fz n s r x = 1 := by unfold fI; rw [if_pos h]
theorem fI_0 {G : Nat → Nat → Nat} {cs n s r x : Nat} {fz : Int} (h : ¬ fnl G cs fz n s r x) : fI G cs fz n s r x = 0 := by unfold fI; rw [if_neg h]
noncomputable def cnF (G : Nat → Nat → Nat) (cs : Nat) (fz : Int) (n s pl r : Nat) : Nat := sumN (fI G cs fz n s r) pl
theorem cnF_ge {G : Nat → Nat → Nat} {cs pl n s : Nat} {fz : Int} (hg : GD pl n G) (hs : s < pl) : ∀ r, (∀ x, x < pl → fnl G cs fz n s r x) ∨ r + 1 ≤ cnF G cs fz n s pl r
  | 0 => by
    refine Or.inr ?_
    have h1 := sumN_ge (f := fI G cs fz n s 0) pl hs
    have h2 : fnl G cs fz n s 0 s := by
      intro v hv
      have := hv.2 0 Wk_nil
      obtain rfl : v = 0 := by omega
      exact bfO_src 0
    rw [fI_1 h2] at h1
    exact h1
  | r + 1 => by
    by_cases hall : ∀ x, x < pl → fnl G cs fz n s r x
    · exact Or.inl (fun x hx => fnl_mono hg (hall x hx))
    · have ih := (cnF_ge hg hs r).resolve_left hall
      obtain ⟨x, hx, h1, h2⟩ := fnl_step hg hall
      refine Or.inr ?_
      have h3 := sumN_lt (f := fI G cs fz n s r) (g := fI G cs fz n s (r + 1)) pl hx (fun k _ => by
        by_cases hk : fnl G cs fz n s r k
        · rw [fI_1 hk, fI_1 (fnl_mono hg hk)]; exact Nat.le_refl _
        · rw [fI_0 hk]; exact Nat.zero_le _) (by rw [fI_0 h1, fI_1 h2]; decide)
      unfold cnF at ih ⊢
      omega
theorem all_fnl {G : Nat → Nat → Nat} {cs pl n s : Nat} {fz : Int} (hg : GD pl n G) (hs : s < pl) : ∀ x, x < pl → fnl G cs fz n s (pl - 1) x := by
  rcases cnF_ge (cs := cs) (fz := fz) hg hs (pl - 1) with h | h
  · exact h
  · intro x hx
    refine Classical.byContradiction (fun hn => ?_)
    have h3 := sumN_lt (f := fI G cs fz n s (pl - 1)) (g := fun _ => 1) pl hx (fun k _ => by
      by_cases hk : fnl G cs fz n s (pl - 1) k
      · rw [fI_1 hk]; exact Nat.le_refl _
      · rw [fI_0 hk]; exact Nat.zero_le _) (by rw [fI_0 hn]; decide)
    rw [sumN_one] at h3
    unfold cnF at h
    omega
theorem Wk_least {G : Nat → Nat → Nat} {cs n s x v : Nat} {fz : Int} (h : Wk G cs fz n s x v) : ∃ u, isM G cs fz n s x u := by
  revert h
  induction v using Nat.strongRecOn with
  | _ v ih =>
    intro h
    by_cases hl : ∃ u, u < v ∧ Wk G cs fz n s x u
    · obtain ⟨u, hu, hh⟩ := hl
      exact ih u hu hh
    · exact ⟨v, h, fun u hu => Nat.le_of_not_lt (fun hlt => hl ⟨u, hlt, hu⟩)⟩
theorem bfO_iff {G : Nat → Nat → Nat} {cs pl n s x v : Nat} {fz : Int} (hg : GD pl n G) (hs : s < pl) (hx : x < pl) : bfO G cs fz n s (pl - 1) x = some v ↔ isM G cs fz n s x v := by
  constructor
  · intro h
    obtain ⟨u, hu⟩ := Wk_least (bfO_sound hg _ x v h)
    have h2 := all_fnl hg hs x hx u hu
    rw [h] at h2
    cases h2
    exact hu
  · exact all_fnl hg hs x hx v
theorem opt_ext {p q : Option Nat} (h : ∀ v, p = some v ↔ q = some v) : p = q := by
  cases p with
  | some a => exact ((h a).mp rfl).symm
  | none =>
    cases q with
    | none => rfl
    | some b => exact (h b).mpr rfl
theorem bfO_last {G : Nat → Nat → Nat} {cs pl n s x : Nat} {fz : Int} (hg : GD pl n G) (hs : s < pl) (hx : x < pl) : bfO G cs fz n s pl x = bfO G cs fz n s (pl - 1) x := by
  refine opt_ext (fun v => ?_)
  rw [bfO_iff hg hs hx]
  have hf := fnl_mono hg (all_fnl (cs := cs) (fz := fz) hg hs x hx)
  rw [show pl - 1 + 1 = pl by omega] at hf
  constructor
  · intro h
    obtain ⟨u, hu⟩ := Wk_least (bfO_sound hg _ x v h)
    have h2 := hf u hu
    rw [h] at h2
    cases h2
    exact hu
  · exact hf v
theorem gt_symm {G : Nat → Nat → Nat} {cs pl n k x y : Nat} (hg : GD pl n G) (hk : k < n) (h : gt G cs k y = some x) : gt G cs k x = some y := by
  obtain ⟨hc, -, -, hh⟩ := gt_some hg hk h
  have hG := hg.2.2 k hk
  have hc2 : ¬ cs.testBit k = true := by rw [hc]; decide
  unfold gt
  rw [if_neg hc2]
  rcases hh with ⟨e1, e2⟩ | ⟨e0, e1, e2⟩
  · rw [if_neg (by omega), if_pos e2, e1]
  · rw [if_pos e2, e1]
theorem Wk_pre {G : Nat → Nat → Nat} {cs n s s2 k : Nat} {fz : Int} (hk : k < n) (hgt : gt G cs k s2 = some s) : ∀ (r x v : Nat), WkN G cs fz n s r x v → Wk G cs fz n s2 x (v + tk G fz k)
  | 0, x, v, ⟨e1, e2⟩ => by subst e1; subst e2; exact Wk_step Wk_nil hk hgt rfl
  | r + 1, x, v, ⟨y, u, k2, h, hk2, hg2, hv⟩ => Wk_step (Wk_pre hk hgt r y u h) hk2 hg2 (by rw [hv]; omega)
theorem Wk_symN {G : Nat → Nat → Nat} {cs pl n s : Nat} {fz : Int} (hg : GD pl n G) : ∀ (r x v : Nat), WkN G cs fz n s r x v → Wk G cs fz n x s v
  | 0, x, v, ⟨e1, e2⟩ => by subst e1; subst e2; exact Wk_nil
  | r + 1, x, v, ⟨y, u, k2, h, hk2, hg2, hv⟩ => by
    obtain ⟨r2, h2⟩ := Wk_symN hg r y u h
    rw [hv]
    exact Wk_pre hk2 (gt_symm hg hk2 hg2) r2 s u h2
theorem Wk_symm {G : Nat → Nat → Nat} {cs pl n s x v : Nat} {fz : Int} (hg : GD pl n G) (h : Wk G cs fz n s x v) : Wk G cs fz n x s v := by
  obtain ⟨r, h⟩ := h
  exact Wk_symN hg r x v h
theorem isM_symm {G : Nat → Nat → Nat} {cs pl n s x v : Nat} {fz : Int} (hg : GD pl n G) (h : isM G cs fz n s x v) : isM G cs fz n x s v := ⟨Wk_symm hg h.1, fun u hu => h.2 u (Wk_symm hg hu)⟩
theorem bfO_symm {G : Nat → Nat → Nat} {cs pl n s x : Nat} {fz : Int} (hg : GD pl n G) (hs : s < pl) (hx : x < pl) : bfO G cs fz n s (pl - 1) x = bfO G cs fz n x (pl - 1) s := by
  refine opt_ext (fun v => ?_)
  rw [bfO_iff hg hs hx, bfO_iff hg hx hs]
  exact ⟨isM_symm hg, isM_symm hg⟩
/-! in arrays of numbers, M for none -/
def enc (M : Nat) (p : Option Nat) : Nat := p.getD M
def rlxN (t a b : Nat) (A : Nat → Nat) : Nat → Nat := fun x => if x = b then min (A b) (A a + t) else if x = a then min (A a) (A b + t) else A x
def rdA (G : Nat → Nat → Nat) (cs : Nat) (fz : Int) (A : Nat → Nat) : Nat → Nat → Nat
  | 0 => A
  | k + 1 => if cs.testBit k then rdA G cs fz A k else rlxN (tk G fz k) (G 1 k) (G 2 k) (rdA G cs fz A k)
def bfA (G : Nat → Nat → Nat) (cs : Nat) (fz : Int) (n M s : Nat) : Nat → Nat → Nat
  | 0 => fun x => if x = s then 0 else M
  | r + 1 => rdA G cs fz (bfA G cs fz n M s r) n
theorem enc_om {M t : Nat} {p q : Option Nat} (hp : ∀ v, p = some v → v ≤ M) (hq : ∀ v, q = some v → v + t ≤ M) : enc M (om p (oad q t)) = min (enc M p) (enc M q + t) := by
  cases p with
  | none =>
    cases q with
    | none => show M = min M (M + t); omega
    | some u => have := hq u rfl; show u + t = min M (u + t); omega
  | some a =>
    have := hp a rfl
    cases q with
    | none => show a = min a (M + t); omega
    | some u => rfl
theorem rd_enc {G : Nat → Nat → Nat} {cs pl n M B : Nat} {fz : Int} {D : Nat → Option Nat} {A : Nat → Nat} (hg : GD pl n G) (hM : B + 21 * n ≤ M) (hB : ∀ x v, D x = some v → v ≤ B) (hA : ∀ x, A x = enc M (D x)) : ∀ k, k ≤ n → (∀ x, rdA G cs fz A k x = enc M (rdO G cs fz D k x)) ∧ ∀ x v, rdO G cs fz D k x = some v → v ≤ B + 21 * k
  | 0, _ => ⟨hA, fun x v h => by have := hB x v h; omega⟩
  | k + 1, hk => by
    obtain ⟨h1, h2⟩ := rd_enc hg hM hB hA k (by omega)
    have ht := (tk_le hg fz (show k < n by omega)).1
    by_cases hc : cs.testBit k = true
    · rw [rdO_c hc]
      refine ⟨fun x => ?_, fun x v h => by have := h2 x v h; omega⟩
      simp only [rdA]
      rw [if_pos hc]
      exact h1 x
    · rw [rdO_s hc]
      refine ⟨fun x => ?_, fun x v h => ?_⟩
      · simp only [rdA]
        rw [if_neg hc]
        unfold rlxN rlx
        split
        · rw [enc_om (fun v h => by have := h2 _ v h; omega) (fun v h => by have := h2 _ v h; omega), h1, h1]
        · split
          · rw [enc_om (fun v h => by have := h2 _ v h; omega) (fun v h => by have := h2 _ v h; omega), h1, h1]
          · exact h1 x
      · rcases rlx_some h with h | ⟨-, u, hu, hv⟩ | ⟨-, u, hu, hv⟩
        · have := h2 x v h; omega
        · have := h2 _ u hu; omega
        · have := h2 _ u hu; omega
theorem bf_enc {G : Nat → Nat → Nat} {cs pl n M s : Nat} {fz : Int} (hg : GD pl n G) : ∀ r, 189 * r ≤ M → (∀ x, bfA G cs fz n M s r x = enc M (bfO G cs fz n s r x)) ∧ ∀ x v, bfO G cs fz n s r x = some v → v ≤ 189 * r
  | 0, _ => ⟨fun x => by simp only [bfA, bfO]; split <;> rfl, fun x v h => by simp only [bfO] at h; split at h <;> cases h; exact Nat.le_refl _⟩
  | r + 1, hr => by
    obtain ⟨h1, h2⟩ := bf_enc (cs := cs) (M := M) (s := s) (fz := fz) hg r (by omega)
    have hn := hg.2.1
    obtain ⟨h3, h4⟩ := rd_enc (cs := cs) (fz := fz) (M := M) (B := 189 * r) hg (by omega) h2 h1 n (Nat.le_refl _)
    exact ⟨h3, fun x v h => by have := h4 x v h; omega⟩
theorem rdA_le {G : Nat → Nat → Nat} {cs : Nat} {fz : Int} {A : Nat → Nat} {B : Nat} (h : ∀ x, A x ≤ B) : ∀ k x, rdA G cs fz A k x ≤ B
  | 0, x => h x
  | k + 1, x => by
    have ih := rdA_le (G := G) (cs := cs) (fz := fz) h k
    simp only [rdA]
    split
    · exact ih x
    · unfold rlxN
      split
      · have := ih (G 2 k); omega
      · split
        · have := ih (G 1 k); omega
        · exact ih x
theorem bfA_le {G : Nat → Nat → Nat} {cs n M s : Nat} {fz : Int} : ∀ r x, bfA G cs fz n M s r x ≤ M
  | 0, x => by simp only [bfA]; split <;> omega
  | r + 1, x => rdA_le (bfA_le r) n x
