/-! ===== the component's search: what it asks of a walk ===== -/
def rdS (ro : Nat → Nat) (rb : Nat → Bool) (b : Bool) : Nat → Nat
  | 0 => 0
  | x + 1 => if rb x = b then rdS ro rb b x ||| 2 ^ ro x else rdS ro rb b x
def mdS (G : Nat → Nat → Nat) : Nat → Nat
  | 0 => 0
  | k + 1 => if 0 < G 0 k then mdS G k ||| 2 ^ k else mdS G k
theorem rdS_y {ro : Nat → Nat} {rb : Nat → Bool} {b : Bool} {x : Nat} (h : rb x = b) : rdS ro rb b (x + 1) = rdS ro rb b x ||| 2 ^ ro x := by simp only [rdS]; rw [if_pos h]
theorem rdS_x {ro : Nat → Nat} {rb : Nat → Bool} {b : Bool} {x : Nat} (h : ¬ rb x = b) : rdS ro rb b (x + 1) = rdS ro rb b x := by simp only [rdS]; rw [if_neg h]
theorem mdS_y {G : Nat → Nat → Nat} {k : Nat} (h : 0 < G 0 k) : mdS G (k + 1) = mdS G k ||| 2 ^ k := by simp only [mdS]; rw [if_pos h]
theorem mdS_x {G : Nat → Nat → Nat} {k : Nat} (h : ¬ 0 < G 0 k) : mdS G (k + 1) = mdS G k := by simp only [mdS]; rw [if_neg h]
theorem rdS_lt {ro : Nat → Nat} {rb : Nat → Bool} {b : Bool} {n : Nat} : ∀ q, (∀ x, x < q → ro x < n) → rdS ro rb b q < 2 ^ n
  | 0, _ => Nat.two_pow_pos n
  | q + 1, h => by
    have h1 := rdS_lt (rb := rb) (b := b) q (fun x hx => h x (by omega))
    by_cases e : rb q = b
    · rw [rdS_y e]; exact or_lt h1 (Nat.pow_lt_pow_right (by decide) (h q (by omega)))
    · rw [rdS_x e]; exact h1
theorem mdS_lt {G : Nat → Nat → Nat} {n : Nat} : ∀ k, k ≤ n → mdS G k < 2 ^ n
  | 0, _ => Nat.two_pow_pos n
  | k + 1, h => by
    have h1 := mdS_lt (G := G) k (show k ≤ n by omega)
    by_cases e : 0 < G 0 k
    · rw [mdS_y e]; exact or_lt h1 (Nat.pow_lt_pow_right (by decide) (by omega))
    · rw [mdS_x e]; exact h1
theorem rdS_bit {ro : Nat → Nat} {rb : Nat → Bool} {b : Bool} {j : Nat} : ∀ q, (rdS ro rb b q).testBit j = true ↔ ∃ x, x < q ∧ rb x = b ∧ ro x = j
  | 0 => by
    constructor
    · intro h; simp [rdS] at h
    · rintro ⟨x, hx, -⟩; omega
  | q + 1 => by
    have ih := rdS_bit (ro := ro) (rb := rb) (b := b) (j := j) q
    by_cases e : rb q = b
    · rw [rdS_y e, Nat.testBit_or, Nat.testBit_two_pow, Bool.or_eq_true, ih, decide_eq_true_eq]
      constructor
      · rintro (⟨x, h1, h2, h3⟩ | h)
        · exact ⟨x, by omega, h2, h3⟩
        · exact ⟨q, by omega, e, h⟩
      · rintro ⟨x, h1, h2, h3⟩
        by_cases hx : x = q
        · subst hx; exact Or.inr h3
        · exact Or.inl ⟨x, by omega, h2, h3⟩
    · rw [rdS_x e, ih]
      constructor
      · rintro ⟨x, h1, h2, h3⟩
        exact ⟨x, by omega, h2, h3⟩
      · rintro ⟨x, h1, h2, h3⟩
        by_cases hx : x = q
        · subst hx; exact absurd h2 e
        · exact ⟨x, by omega, h2, h3⟩
theorem mdS_bit {G : Nat → Nat → Nat} {j : Nat} : ∀ k, (mdS G k).testBit j = true ↔ j < k ∧ 0 < G 0 j
  | 0 => by
    constructor
    · intro h; simp [mdS] at h
    · rintro ⟨h, -⟩; omega
  | k + 1 => by
    have ih := mdS_bit (G := G) (j := j) k
    by_cases e : 0 < G 0 k
    · rw [mdS_y e, Nat.testBit_or, Nat.testBit_two_pow, Bool.or_eq_true, ih, decide_eq_true_eq]
      constructor
      · rintro (⟨h1, h2⟩ | h)
        · exact ⟨by omega, h2⟩
        · subst h; exact ⟨by omega, e⟩
      · rintro ⟨h1, h2⟩
        by_cases hx : k = j
        · exact Or.inr hx
        · exact Or.inl ⟨by omega, h2⟩
    · rw [mdS_x e, ih]
      constructor
      · rintro ⟨h1, h2⟩; exact ⟨by omega, h2⟩
      · rintro ⟨h1, h2⟩
        by_cases hx : k = j
        · subst hx; exact absurd h2 e
        · exact ⟨by omega, h2⟩
/-- all readings are as the walk leaves them -/
def trB (G : Nat → Nat → Nat) (ro : Nat → Nat) (rb : Nat → Bool) (g : Nat) : Nat → Bool
  | 0 => true
  | x + 1 => trB G ro rb g x && ((g.testBit (ro x) && decide (0 < G 0 (ro x))) == rb x)
theorem trB_iff {G : Nat → Nat → Nat} {ro : Nat → Nat} {rb : Nat → Bool} {g : Nat} : ∀ q, trB G ro rb g q = true ↔ ∀ x, x < q → (g.testBit (ro x) && decide (0 < G 0 (ro x))) = rb x
  | 0 => ⟨fun _ x hx => by omega, fun _ => rfl⟩
  | q + 1 => by
    have ih := trB_iff (G := G) (ro := ro) (rb := rb) (g := g) q
    simp only [trB]
    rw [Bool.and_eq_true, ih, beq_iff_eq]
    constructor
    · rintro ⟨h1, h2⟩ x hx
      by_cases e : x = q
      · subst e; exact h2
      · exact h1 x (by omega)
    · intro h
      exact ⟨fun x hx => h x (by omega), h q (by omega)⟩
theorem tr_set {G : Nat → Nat → Nat} {ro : Nat → Nat} {rb : Nat → Bool} {g n q : Nat} (hro : ∀ x, x < q → ro x < n) : (g &&& mdS G n &&& rdS ro rb true q = rdS ro rb true q ∧ g &&& mdS G n &&& rdS ro rb false q = 0) ↔ trB G ro rb g q = true := by
  rw [trB_iff]
  constructor
  · rintro ⟨h1, h2⟩ x hx
    have hm := mdS_bit (G := G) (j := ro x) n
    cases hb : rb x with
    | true =>
      have hw : (rdS ro rb true q).testBit (ro x) = true := (rdS_bit q).mpr ⟨x, hx, hb, rfl⟩
      have h3 := congrArg (fun y => Nat.testBit y (ro x)) h1
      simp only [Nat.testBit_and, hw, Bool.and_true] at h3
      rw [Bool.and_eq_true] at h3
      rw [h3.1, Bool.true_and, decide_eq_true_eq]
      exact (hm.mp h3.2).2
    | false =>
      have hw : (rdS ro rb false q).testBit (ro x) = true := (rdS_bit q).mpr ⟨x, hx, hb, rfl⟩
      have h3 := congrArg (fun y => Nat.testBit y (ro x)) h2
      simp only [Nat.testBit_and, hw, Bool.and_true, Nat.zero_testBit] at h3
      cases hg : g.testBit (ro x) with
      | false => rfl
      | true =>
        rw [hg, Bool.true_and] at h3
        rw [Bool.true_and, decide_eq_false_iff_not]
        intro h0
        rw [hm.mpr ⟨hro x hx, h0⟩] at h3
        cases h3
  · intro h
    refine ⟨?_, ?_⟩
    · apply Nat.eq_of_testBit_eq
      intro j
      rw [Nat.testBit_and]
      cases hw : (rdS ro rb true q).testBit j with
      | false => rw [Bool.and_false]
      | true =>
        obtain ⟨x, hx, hb, rfl⟩ := (rdS_bit q).mp hw
        have h3 := h x hx
        rw [hb, Bool.and_eq_true, decide_eq_true_eq] at h3
        rw [Nat.testBit_and, h3.1, (mdS_bit n).mpr ⟨hro x hx, h3.2⟩]
        rfl
    · apply Nat.eq_of_testBit_eq
      intro j
      rw [Nat.testBit_and, Nat.zero_testBit]
      cases hw : (rdS ro rb false q).testBit j with
      | false => rw [Bool.and_false]
      | true =>
        obtain ⟨x, hx, hb, rfl⟩ := (rdS_bit q).mp hw
        have h3 := h x hx
        rw [hb] at h3
        rw [Nat.testBit_and, Bool.and_true]
        cases hg : g.testBit (ro x) with
        | false => rfl
        | true =>
          rw [hg, Bool.true_and, decide_eq_false_iff_not] at h3
          cases hm : (mdS G n).testBit (ro x) with
          | false => rfl
          | true => exact absurd ((mdS_bit n).mp hm).2 h3

set_option maxHeartbeats 4000000 in
set_option maxRecDepth 100000 in
theorem l_X2_readSet0 {d : Nat} {S : aS} {Q : Option Value → aS → Prop} {pl n q : Nat} {du lw fr : Int32} (hp7 : pl ≤ 7) (hn9 : n ≤ 9) (hq : q ≤ 8) (hN : S[10]? = some (nt (nI pl) (nI n) du lw fr (nI q))) {ro : Nat → Nat} {rb : Nat → Bool} {fo fw : Nat → Int32} (h12 : S[12]? = some (iA 8 fo)) (h13 : S[13]? = some (zA 8 fw)) (hrd : ∀ x, x < q → fo x = nI (ro x) ∧ fw x = bz (rb x)) (hro : ∀ x, x < q → ro x < n) (k : Q (some (.int (nI (rdS ro rb false q)))) S) : ∀ (t i : Nat) , i + t = q → Ev none mX2_readSet d 0 4 [some (.ref 10), some (.int 0), some (.int (nI (rdS ro rb false i))), some (.int (nI i))] [] S Q := by
  intro t
  induction t with
  | zero =>
    intro i  hi
    obtain rfl : i = q := by omega
    refine Ev_iload_n dX2_readSet_4 rfl ?_
    refine Ev_aload_n dX2_readSet_5 rfl ?_
    refine Ev_get dX2_readSet_6 fg_X2_58_2 hN rfl ?_
    refine Ev_icmp_ge dX2_readSet_9 (fun _ => ?_) (fun c => absurd ((nle (by omega) (by omega)).mpr (Nat.le_refl _)) c)
    refine Ev_iload_n dX2_readSet_45 rfl ?_
    refine Ev_iret dX2_readSet_46 rfl rfl ?_
    exact k
  | succ t ih =>
    intro i  hi
    have hri := hro i (by omega)
    refine Ev_iload_n dX2_readSet_4 rfl ?_
    refine Ev_aload_n dX2_readSet_5 rfl ?_
    refine Ev_get dX2_readSet_6 fg_X2_58_2 hN rfl ?_
    refine Ev_icmp_ge dX2_readSet_9 (fun c => absurd c (fun z => absurd ((nle (by omega) (by omega)).mp z) (by omega))) (fun _ => ?_)
    refine Ev_iload_n dX2_readSet_12 rfl ?_
    refine Ev_bipush (v := 8) dX2_readSet_13 (by decide) ?_
    refine Ev_icmp_ge dX2_readSet_15 (fun c => absurd c (fun z => absurd ((nle (a := 8) (by omega) (by omega)).mp z) (by omega))) (fun _ => ?_)
    refine Ev_aload_n dX2_readSet_18 rfl ?_
    refine Ev_get dX2_readSet_19 fg_X2_21_2 hN rfl ?_
    refine Ev_iload_n dX2_readSet_22 rfl ?_
    refine Ev_zaloadN (j := i) dX2_readSet_23 h13 (by omega) (by decide) ?_
    refine Ev_topi (y := bz (rb i)) (hrd _ (by omega)).2 ?_
    refine Ev_iload_n dX2_readSet_24 rfl ?_
    refine Ev_icmp_ne dX2_readSet_25 (fun c1 => ?_) (fun c1 => ?_)
    · skip
      have c9 : ¬ rb i = false := by intro hb; rw [hb] at c1; exact c1 rfl
      refine Ev_iinc (v := nI (i + 1)) dX2_readSet_39 rfl (nI_1 _) rfl ?_
      refine Ev_goto dX2_readSet_42 ?_
      have hh := ih (i + 1) (by omega)
      rw [rdS_x c9] at hh
      exact hh
    · skip
      have c9 : rb i = false := by cases hb : rb i with | false => rfl | true => rw [hb] at c1; exact absurd c1 (by decide)
      refine Ev_iload_n dX2_readSet_28 rfl ?_
      refine Ev_iconst (v := 1) dX2_readSet_29 (by decide) ?_
      refine Ev_aload_n dX2_readSet_30 rfl ?_
      refine Ev_get dX2_readSet_31 fg_X2_17_2 hN rfl ?_
      refine Ev_iload_n dX2_readSet_34 rfl ?_
      refine Ev_ialoadN (j := i) dX2_readSet_35 h12 (by omega) (by decide) ?_
      refine Ev_topi (y := nI (ro i)) (hrd _ (by omega)).1 ?_
      refine Ev_ishl dX2_readSet_36 ?_
      refine Ev_topi (y := nI (2 ^ (ro i))) (oneShl (by omega)) ?_
      refine Ev_ior dX2_readSet_37 ?_
      refine Ev_topi (y := nI ((rdS ro rb false i) ||| (2 ^ (ro i)))) (orN _ _) ?_
      refine Ev_istore_n dX2_readSet_38 rfl ?_
      refine Ev_iinc (v := nI (i + 1)) dX2_readSet_39 rfl (nI_1 _) rfl ?_
      refine Ev_goto dX2_readSet_42 ?_
      have hh := ih (i + 1) (by omega)
      rw [rdS_y c9] at hh
      exact hh

set_option maxHeartbeats 4000000 in
set_option maxRecDepth 100000 in
theorem c_X2_readSet0 {d : Nat} {S : aS} {Q : Option Value → aS → Prop} {pl n q : Nat} {du lw fr : Int32} (hp7 : pl ≤ 7) (hn9 : n ≤ 9) (hq : q ≤ 8) (hN : S[10]? = some (nt (nI pl) (nI n) du lw fr (nI q))) {ro : Nat → Nat} {rb : Nat → Bool} {fo fw : Nat → Int32} (h12 : S[12]? = some (iA 8 fo)) (h13 : S[13]? = some (zA 8 fw)) (hrd : ∀ x, x < q → fo x = nI (ro x) ∧ fw x = bz (rb x)) (hro : ∀ x, x < q → ro x < n) (k : Q (some (.int (nI (rdS ro rb false q)))) S) : Mth mX2_readSet d 0 [.ref 10, .int 0] S Q := by
  refine Mth_of (by decide) rfl ?_
  refine Ev_iconst (v := 0) dX2_readSet_0 (by decide) ?_
  refine Ev_istore_n dX2_readSet_1 rfl ?_
  refine Ev_iconst (v := 0) dX2_readSet_2 (by decide) ?_
  refine Ev_istore_n dX2_readSet_3 rfl ?_
  exact l_X2_readSet0 hp7 hn9 hq hN h12 h13 hrd hro k q 0 (by omega)

set_option maxHeartbeats 4000000 in
set_option maxRecDepth 100000 in
theorem l_X2_readSet1 {d : Nat} {S : aS} {Q : Option Value → aS → Prop} {pl n q : Nat} {du lw fr : Int32} (hp7 : pl ≤ 7) (hn9 : n ≤ 9) (hq : q ≤ 8) (hN : S[10]? = some (nt (nI pl) (nI n) du lw fr (nI q))) {ro : Nat → Nat} {rb : Nat → Bool} {fo fw : Nat → Int32} (h12 : S[12]? = some (iA 8 fo)) (h13 : S[13]? = some (zA 8 fw)) (hrd : ∀ x, x < q → fo x = nI (ro x) ∧ fw x = bz (rb x)) (hro : ∀ x, x < q → ro x < n) (k : Q (some (.int (nI (rdS ro rb true q)))) S) : ∀ (t i : Nat) , i + t = q → Ev none mX2_readSet d 0 4 [some (.ref 10), some (.int 1), some (.int (nI (rdS ro rb true i))), some (.int (nI i))] [] S Q := by
  intro t
  induction t with
  | zero =>
    intro i  hi
    obtain rfl : i = q := by omega
    refine Ev_iload_n dX2_readSet_4 rfl ?_
    refine Ev_aload_n dX2_readSet_5 rfl ?_
    refine Ev_get dX2_readSet_6 fg_X2_58_2 hN rfl ?_
    refine Ev_icmp_ge dX2_readSet_9 (fun _ => ?_) (fun c => absurd ((nle (by omega) (by omega)).mpr (Nat.le_refl _)) c)
    refine Ev_iload_n dX2_readSet_45 rfl ?_
    refine Ev_iret dX2_readSet_46 rfl rfl ?_
    exact k
  | succ t ih =>
    intro i  hi
    have hri := hro i (by omega)
    refine Ev_iload_n dX2_readSet_4 rfl ?_
    refine Ev_aload_n dX2_readSet_5 rfl ?_
    refine Ev_get dX2_readSet_6 fg_X2_58_2 hN rfl ?_
    refine Ev_icmp_ge dX2_readSet_9 (fun c => absurd c (fun z => absurd ((nle (by omega) (by omega)).mp z) (by omega))) (fun _ => ?_)
    refine Ev_iload_n dX2_readSet_12 rfl ?_
    refine Ev_bipush (v := 8) dX2_readSet_13 (by decide) ?_
    refine Ev_icmp_ge dX2_readSet_15 (fun c => absurd c (fun z => absurd ((nle (a := 8) (by omega) (by omega)).mp z) (by omega))) (fun _ => ?_)
    refine Ev_aload_n dX2_readSet_18 rfl ?_
    refine Ev_get dX2_readSet_19 fg_X2_21_2 hN rfl ?_
    refine Ev_iload_n dX2_readSet_22 rfl ?_
    refine Ev_zaloadN (j := i) dX2_readSet_23 h13 (by omega) (by decide) ?_
    refine Ev_topi (y := bz (rb i)) (hrd _ (by omega)).2 ?_
    refine Ev_iload_n dX2_readSet_24 rfl ?_
    refine Ev_icmp_ne dX2_readSet_25 (fun c1 => ?_) (fun c1 => ?_)
    · skip
      have c9 : ¬ rb i = true := by intro hb; rw [hb] at c1; exact c1 rfl
      refine Ev_iinc (v := nI (i + 1)) dX2_readSet_39 rfl (nI_1 _) rfl ?_
      refine Ev_goto dX2_readSet_42 ?_
      have hh := ih (i + 1) (by omega)
      rw [rdS_x c9] at hh
      exact hh
    · skip
      have c9 : rb i = true := by cases hb : rb i with | true => rfl | false => rw [hb] at c1; exact absurd c1 (by decide)
      refine Ev_iload_n dX2_readSet_28 rfl ?_
      refine Ev_iconst (v := 1) dX2_readSet_29 (by decide) ?_
      refine Ev_aload_n dX2_readSet_30 rfl ?_
      refine Ev_get dX2_readSet_31 fg_X2_17_2 hN rfl ?_
      refine Ev_iload_n dX2_readSet_34 rfl ?_
      refine Ev_ialoadN (j := i) dX2_readSet_35 h12 (by omega) (by decide) ?_
      refine Ev_topi (y := nI (ro i)) (hrd _ (by omega)).1 ?_
      refine Ev_ishl dX2_readSet_36 ?_
      refine Ev_topi (y := nI (2 ^ (ro i))) (oneShl (by omega)) ?_
      refine Ev_ior dX2_readSet_37 ?_
      refine Ev_topi (y := nI ((rdS ro rb true i) ||| (2 ^ (ro i)))) (orN _ _) ?_
      refine Ev_istore_n dX2_readSet_38 rfl ?_
      refine Ev_iinc (v := nI (i + 1)) dX2_readSet_39 rfl (nI_1 _) rfl ?_
      refine Ev_goto dX2_readSet_42 ?_
      have hh := ih (i + 1) (by omega)
      rw [rdS_y c9] at hh
      exact hh

set_option maxHeartbeats 4000000 in
set_option maxRecDepth 100000 in
theorem c_X2_readSet1 {d : Nat} {S : aS} {Q : Option Value → aS → Prop} {pl n q : Nat} {du lw fr : Int32} (hp7 : pl ≤ 7) (hn9 : n ≤ 9) (hq : q ≤ 8) (hN : S[10]? = some (nt (nI pl) (nI n) du lw fr (nI q))) {ro : Nat → Nat} {rb : Nat → Bool} {fo fw : Nat → Int32} (h12 : S[12]? = some (iA 8 fo)) (h13 : S[13]? = some (zA 8 fw)) (hrd : ∀ x, x < q → fo x = nI (ro x) ∧ fw x = bz (rb x)) (hro : ∀ x, x < q → ro x < n) (k : Q (some (.int (nI (rdS ro rb true q)))) S) : Mth mX2_readSet d 0 [.ref 10, .int 1] S Q := by
  refine Mth_of (by decide) rfl ?_
  refine Ev_iconst (v := 0) dX2_readSet_0 (by decide) ?_
  refine Ev_istore_n dX2_readSet_1 rfl ?_
  refine Ev_iconst (v := 0) dX2_readSet_2 (by decide) ?_
  refine Ev_istore_n dX2_readSet_3 rfl ?_
  exact l_X2_readSet1 hp7 hn9 hq hN h12 h13 hrd hro k q 0 (by omega)

set_option maxHeartbeats 4000000 in
set_option maxRecDepth 100000 in
theorem l_X2_muddySet {d : Nat} {S : aS} {Q : Option Value → aS → Prop} {pl n q : Nat} {du lw fr : Int32} (hp7 : pl ≤ 7) (hn9 : n ≤ 9) (hq : q ≤ 8) (hN : S[10]? = some (nt (nI pl) (nI n) du lw fr (nI q))) {cs : Nat} {G : Nat → Nat → Nat} (hg : GD pl n G) {sa : Nat → Option Nat} {ad : Nat → Nat} (hA : S[11]? = some (rA 4 9 sa)) (hsa : ∀ j, j < n → sa j = some (ad j)) {fz : Int} (hC : CN S n G cs fz ad) (k : Q (some (.int (nI (mdS G n)))) S) : ∀ (t i : Nat) , i + t = n → Ev none mX2_muddySet (d + 1) 0 4 [some (.ref 10), some (.int (nI (mdS G i))), some (.int (nI i))] [] S Q := by
  intro t
  induction t with
  | zero =>
    intro i  hi
    obtain rfl : i = n := by omega
    refine Ev_iload_n dX2_muddySet_4 rfl ?_
    refine Ev_aload_n dX2_muddySet_5 rfl ?_
    refine Ev_get dX2_muddySet_6 fg_X2_45_2 hN rfl ?_
    refine Ev_icmp_ge dX2_muddySet_9 (fun _ => ?_) (fun c => absurd ((nle (by omega) (by omega)).mpr (Nat.le_refl _)) c)
    refine Ev_iload_n dX2_muddySet_35 rfl ?_
    refine Ev_iret dX2_muddySet_36 rfl rfl ?_
    exact k
  | succ t ih =>
    intro i  hi
    have hjG := hg.2.2 i (by omega)
    refine Ev_iload_n dX2_muddySet_4 rfl ?_
    refine Ev_aload_n dX2_muddySet_5 rfl ?_
    refine Ev_get dX2_muddySet_6 fg_X2_45_2 hN rfl ?_
    refine Ev_icmp_ge dX2_muddySet_9 (fun c => absurd c (fun z => absurd ((nle (by omega) (by omega)).mp z) (by omega))) (fun _ => ?_)
    refine Ev_aload_n dX2_muddySet_12 rfl ?_
    refine Ev_iload_n dX2_muddySet_13 rfl ?_
    refine Ev_callV (bc := 0) (b := 0) dX2_muddySet_14 cv_X2_65 rfl hN (Nat.le_of_ble_eq_true rfl) (by omega) ?_
    refine c_X2_stretchAt hp7 hn9 hq hN hA hsa (j := i) (by omega) ?_
    rcases (show G 0 i = 0 ∨ G 0 i = 1 ∨ G 0 i = 2 by omega) with h0 | h0 | h0
    · skip
      refine Ev_inst dX2_muddySet_17 ir_X2_71_7 (by rw [← kc_0 h0]; exact (hC _ (by omega)).1) ?_
      refine Ev_if_eq dX2_muddySet_20 (fun _ => ?_) (fun c => absurd (by decide) c)
      refine Ev_iinc (v := nI (i + 1)) dX2_muddySet_29 rfl (nI_1 _) rfl ?_
      refine Ev_goto dX2_muddySet_32 ?_
      have hh := ih (i + 1) (by omega)
      rw [mdS_x (G := G) (k := i) (by omega)] at hh
      exact hh
    · skip
      refine Ev_inst dX2_muddySet_17 ir_X2_71_1 (by rw [← kc_1 h0]; exact (hC _ (by omega)).1) ?_
      refine Ev_if_eq dX2_muddySet_20 (fun c => absurd c (by decide)) (fun _ => ?_)
      refine Ev_iload_n dX2_muddySet_23 rfl ?_
      refine Ev_iconst (v := 1) dX2_muddySet_24 (by decide) ?_
      refine Ev_iload_n dX2_muddySet_25 rfl ?_
      refine Ev_ishl dX2_muddySet_26 ?_
      refine Ev_topi (y := nI (2 ^ i)) (oneShl (by omega)) ?_
      refine Ev_ior dX2_muddySet_27 ?_
      refine Ev_topi (y := nI ((mdS G i) ||| (2 ^ i))) (orN _ _) ?_
      refine Ev_istore_n dX2_muddySet_28 rfl ?_
      refine Ev_iinc (v := nI (i + 1)) dX2_muddySet_29 rfl (nI_1 _) rfl ?_
      refine Ev_goto dX2_muddySet_32 ?_
      have hh := ih (i + 1) (by omega)
      rw [mdS_y (G := G) (k := i) (by omega)] at hh
      exact hh
    · skip
      refine Ev_inst dX2_muddySet_17 ir_X2_71_6 (by rw [← kc_2 h0]; exact (hC _ (by omega)).1) ?_
      refine Ev_if_eq dX2_muddySet_20 (fun c => absurd c (by decide)) (fun _ => ?_)
      refine Ev_iload_n dX2_muddySet_23 rfl ?_
      refine Ev_iconst (v := 1) dX2_muddySet_24 (by decide) ?_
      refine Ev_iload_n dX2_muddySet_25 rfl ?_
      refine Ev_ishl dX2_muddySet_26 ?_
      refine Ev_topi (y := nI (2 ^ i)) (oneShl (by omega)) ?_
      refine Ev_ior dX2_muddySet_27 ?_
      refine Ev_topi (y := nI ((mdS G i) ||| (2 ^ i))) (orN _ _) ?_
      refine Ev_istore_n dX2_muddySet_28 rfl ?_
      refine Ev_iinc (v := nI (i + 1)) dX2_muddySet_29 rfl (nI_1 _) rfl ?_
      refine Ev_goto dX2_muddySet_32 ?_
      have hh := ih (i + 1) (by omega)
      rw [mdS_y (G := G) (k := i) (by omega)] at hh
      exact hh

set_option maxHeartbeats 4000000 in
set_option maxRecDepth 100000 in
theorem c_X2_muddySet {d : Nat} {S : aS} {Q : Option Value → aS → Prop} {pl n q : Nat} {du lw fr : Int32} (hp7 : pl ≤ 7) (hn9 : n ≤ 9) (hq : q ≤ 8) (hN : S[10]? = some (nt (nI pl) (nI n) du lw fr (nI q))) {cs : Nat} {G : Nat → Nat → Nat} (hg : GD pl n G) {sa : Nat → Option Nat} {ad : Nat → Nat} (hA : S[11]? = some (rA 4 9 sa)) (hsa : ∀ j, j < n → sa j = some (ad j)) {fz : Int} (hC : CN S n G cs fz ad) (k : Q (some (.int (nI (mdS G n)))) S) : Mth mX2_muddySet (d + 1) 0 [.ref 10] S Q := by
  refine Mth_of (by decide) rfl ?_
  refine Ev_iconst (v := 0) dX2_muddySet_0 (by decide) ?_
  refine Ev_istore_n dX2_muddySet_1 rfl ?_
  refine Ev_iconst (v := 0) dX2_muddySet_2 (by decide) ?_
  refine Ev_istore_n dX2_muddySet_3 rfl ?_
  exact l_X2_muddySet hp7 hn9 hq hN hg hA hsa hC k n 0 (by omega)

abbrev sC (ks fo sc go mo mi wa uw mu : Int32) : aE := .inr (4, [.ref 16, .ref 23, .ref 24, .int ks, .int fo, .int sc, .ref 10, .int go, .int mo, .int mi, .int wa, .int uw, .int mu])
/-- what is kept, as the search's fields have it -/
def kpC (acc : rV) (ks fo sc : Int32) (K : Nat → Int32) : Prop := fo = nI acc.1 ∧ (acc.2 = none → acc.1 = 0 ∧ ks = 0) ∧ ∀ z s r, acc.2 = some (z, s, r) → 0 < acc.1 ∧ sc = iZ z ∧ ks = nI s ∧ 1 ≤ s ∧ s ≤ 5 ∧ -50000 ≤ z ∧ z ≤ 2000000 ∧ ∀ x, x < s → K x = nI (r x)

set_option maxHeartbeats 4000000 in
set_option maxRecDepth 100000 in
theorem c_X4_isTrail {d : Nat} {S : aS} {Q : Option Value → aS → Prop} {ks fo sc go mo : Int32} {tt wa uw mu a m g : Nat} {x1 x2 x4 : Int32} {x6 : Int64} (h15 : S[15]? = some (sC ks fo sc go mo (nI tt) (nI wa) (nI uw) (nI mu))) (hW : S[a]? = some (wkc x1 x2 (nI m) x4 (nI g) x6)) (ht : tt ≤ 200) (hm : m ≤ 300) (hg : g < 512) (hwa : wa < 512) (kt : m ≤ tt → g &&& mu &&& wa = wa ∧ g &&& mu &&& uw = 0 → Q (some (.int 1)) S) (kf : ¬ (m ≤ tt ∧ (g &&& mu &&& wa = wa ∧ g &&& mu &&& uw = 0)) → Q (some (.int 0)) S) : Mth mX4_isTrail d 0 [.ref 15, .ref a] S Q := by
  have b1 : g &&& mu &&& wa < 512 := Nat.lt_of_le_of_lt Nat.and_le_right hwa
  have b2 : g &&& mu &&& uw < 512 := Nat.lt_of_le_of_lt Nat.and_le_left (Nat.lt_of_le_of_lt Nat.and_le_left hg)
  refine Mth_of (by decide) rfl ?_
  refine Ev_aload_n dX4_isTrail_0 rfl ?_
  refine Ev_get dX4_isTrail_1 fg_X4_124_10 hW rfl ?_
  refine Ev_aload_n dX4_isTrail_4 rfl ?_
  refine Ev_get dX4_isTrail_5 fg_X4_61_4 h15 rfl ?_
  refine Ev_iand dX4_isTrail_8 ?_
  refine Ev_topi (y := nI (g &&& mu)) (andN _ _) ?_
  refine Ev_istore_n dX4_isTrail_9 rfl ?_
  refine Ev_aload_n dX4_isTrail_10 rfl ?_
  refine Ev_get dX4_isTrail_11 fg_X4_127_10 hW rfl ?_
  refine Ev_aload_n dX4_isTrail_14 rfl ?_
  refine Ev_get dX4_isTrail_15 fg_X4_42_4 h15 rfl ?_
  refine Ev_icmp_gt dX4_isTrail_18 (fun c1 => ?_) (fun c1 => ?_)
  · skip
    have c1 : tt < m := (nlt (a := tt) (b := m) (by omega) (by omega)).mp c1
    refine Ev_iconst (v := 0) dX4_isTrail_47 (by decide) ?_
    refine Ev_iret dX4_isTrail_48 rfl (by decide) ?_
    exact kf (fun z => absurd z.1 (by omega))
  · skip
    have c1 : ¬ (tt < m) := fun z => c1 ((nlt (a := tt) (b := m) (by omega) (by omega)).mpr z)
    refine Ev_iload_n dX4_isTrail_21 rfl ?_
    refine Ev_aload_n dX4_isTrail_22 rfl ?_
    refine Ev_get dX4_isTrail_23 fg_X4_51_4 h15 rfl ?_
    refine Ev_iand dX4_isTrail_26 ?_
    refine Ev_topi (y := nI ((g &&& mu) &&& wa)) (andN _ _) ?_
    refine Ev_aload_n dX4_isTrail_27 rfl ?_
    refine Ev_get dX4_isTrail_28 fg_X4_51_4 h15 rfl ?_
    refine Ev_icmp_ne dX4_isTrail_31 (fun c2 => ?_) (fun c2 => ?_)
    · skip
      have c2 : ¬ (((g &&& mu) &&& wa) = wa) := fun z => c2 ((nIinj (a := (g &&& mu) &&& wa) (b := wa) (by omega) (by omega)).mpr z)
      refine Ev_iconst (v := 0) dX4_isTrail_47 (by decide) ?_
      refine Ev_iret dX4_isTrail_48 rfl (by decide) ?_
      exact kf (fun z => c2 z.2.1)
    · skip
      have c2 : ((g &&& mu) &&& wa) = wa := (nIinj (a := (g &&& mu) &&& wa) (b := wa) (by omega) (by omega)).mp c2
      refine Ev_iload_n dX4_isTrail_34 rfl ?_
      refine Ev_aload_n dX4_isTrail_35 rfl ?_
      refine Ev_get dX4_isTrail_36 fg_X4_54_4 h15 rfl ?_
      refine Ev_iand dX4_isTrail_39 ?_
      refine Ev_topi (y := nI ((g &&& mu) &&& uw)) (andN _ _) ?_
      refine Ev_if_ne dX4_isTrail_40 (fun c3 => ?_) (fun c3 => ?_)
      · skip
        have c3 : ¬ (((g &&& mu) &&& uw) = 0) := fun z => c3 ((nIinj (a := (g &&& mu) &&& uw) (b := 0) (by omega) (by omega)).mpr z)
        refine Ev_iconst (v := 0) dX4_isTrail_47 (by decide) ?_
        refine Ev_iret dX4_isTrail_48 rfl (by decide) ?_
        exact kf (fun z => c3 z.2.2)
      · skip
        have c3 : ((g &&& mu) &&& uw) = 0 := (nIinj (a := (g &&& mu) &&& uw) (b := 0) (by omega) (by omega)).mp c3
        refine Ev_iconst (v := 1) dX4_isTrail_43 (by decide) ?_
        refine Ev_goto dX4_isTrail_44 ?_
        refine Ev_iret dX4_isTrail_48 rfl (by decide) ?_
        exact kt (by omega) ⟨c2, c3⟩

set_option maxHeartbeats 4000000 in
set_option maxRecDepth 100000 in
theorem c_scoreOf0 {d : Nat} {S : aS} {Q : Option Value → aS → Prop} {ks fo sc mo mi wa uw mu : Int32} (h15 : S[15]? = some (sC ks fo sc 0 mo mi wa uw mu)) {pl n q : Nat} {du lw fr : Int32} (hp7 : pl ≤ 7) (hn9 : n ≤ 9) (hq : q ≤ 8) (hN : S[10]? = some (nt (nI pl) (nI n) du lw fr (nI q))) (hlw : 0 ≤ lw.toInt ∧ lw.toInt ≤ 2) (hdu : 0 ≤ du.toInt ∧ du.toInt ≤ 99) {a p s mi2 sg g t : Nat} (hW : S[a]? = some (wkc (nI p) (nI s) (nI mi2) (nI sg) (nI g) (lN t))) (hmi : mi2 ≤ 300) (hsg : sg ≤ 300) (k : Q (some (.int (iZ (jy lw.toInt du.toInt (sg : Int) (mi2 : Int))))) S) : Mth mX4_scoreOf (d + 2) 0 [.ref 15, .ref a] S Q := by
  refine Mth_of (by decide) rfl ?_
  refine Ev_aload_n dX4_scoreOf_0 rfl ?_
  refine Ev_get dX4_scoreOf_1 fg_X4_29_4 h15 rfl ?_
  refine Ev_lookup (off := 28) (tg := 32) dX4_scoreOf_4 (by decide) (by decide) (by decide) ?_
  refine Ev_aload_n dX4_scoreOf_32 rfl ?_
  refine Ev_get dX4_scoreOf_33 fg_X4_25_4 h15 rfl ?_
  refine Ev_aload_n dX4_scoreOf_36 rfl ?_
  refine Ev_callV (bc := 0) (b := 0) dX4_scoreOf_37 cv_X4_128 rfl hN (Nat.le_of_ble_eq_true rfl) (by omega) ?_
  refine c_X2_joyOf hp7 hn9 hq hN hlw hdu hW hmi hsg ?_
  refine Ev_iret dX4_scoreOf_40 rfl rfl ?_
  exact k

theorem s5 {t s : Nat} (hs : s ≤ 5) (ht : t ≤ 10 ^ s) : t * 10 ^ (5 - s) ≤ 100000 := by
  have h := Nat.mul_le_mul_right (10 ^ (5 - s)) ht
  rw [← Nat.pow_add, show s + (5 - s) = 5 by omega] at h
  exact h
theorem l2iN {x : Nat} (h : x < 2147483648) : (lN x).toInt32 = iZ (x : Int) := by
  refine toZ ?_
  rw [show (lN x).toInt32 = nI x from ?_, nIt h]
  apply Int32.toBitVec_inj.1
  show BitVec.signExtend 32 (BitVec.ofNat 64 x) = BitVec.ofNat 32 x
  apply BitVec.eq_of_toNat_eq
  rw [BitVec.signExtend_eq_setWidth_of_le _ (by decide), BitVec.toNat_setWidth, BitVec.toNat_ofNat, BitVec.toNat_ofNat]
  omega

set_option maxHeartbeats 4000000 in
set_option maxRecDepth 100000 in
theorem c_scoreOf1 {d : Nat} {S : aS} {Q : Option Value → aS → Prop} {ks fo sc mo mi wa uw mu : Int32} (h15 : S[15]? = some (sC ks fo sc 1 mo mi wa uw mu)) {a p s mi2 sg g t : Nat} (hW : S[a]? = some (wkc (nI p) (nI s) (nI mi2) (nI sg) (nI g) (lN t))) (hs : s ≤ 5) (ht : t ≤ 10 ^ s) (k : Q (some (.int (iZ ((t * 10 ^ (5 - s) : Nat) : Int)))) S) : Mth mX4_scoreOf (d + 2) 0 [.ref 15, .ref a] S Q := by
  have h5 := s5 hs ht
  refine Mth_of (by decide) rfl ?_
  refine Ev_aload_n dX4_scoreOf_0 rfl ?_
  refine Ev_get dX4_scoreOf_1 fg_X4_29_4 h15 rfl ?_
  refine Ev_lookup (off := 37) (tg := 41) dX4_scoreOf_4 (by decide) (by decide) (by decide) ?_
  refine Ev_aload_n dX4_scoreOf_41 rfl ?_
  refine Ev_get dX4_scoreOf_42 fg_X4_131_10 hW rfl ?_
  refine Ev_ldc2 dX4_scoreOf_45 wl_X4_135 ?_
  refine Ev_iconst (v := 5) dX4_scoreOf_48 (by decide) ?_
  refine Ev_aload_n dX4_scoreOf_49 rfl ?_
  refine Ev_get dX4_scoreOf_50 fg_X4_115_10 hW rfl ?_
  refine Ev_isub dX4_scoreOf_53 ?_
  refine Ev_topi (y := nI (5 - s)) (nsub (a := 5) hs) ?_
  refine Ev_callS (bc := 0) (b := 0) dX4_scoreOf_54 cs_X4_137 rfl (Nat.le_of_ble_eq_true rfl) (by omega) ?_
  refine c_X11_powerOf (c := 10) (show 5 - s ≤ 12 by omega) ?_
  refine Ev_lmul dX4_scoreOf_57 ?_
  refine Ev_topl (y := lN (t * (10 ^ (5 - s)))) (lmulN _ _) ?_
  refine Ev_l2i dX4_scoreOf_58 ?_
  refine Ev_topi (y := iZ ((t * 10 ^ (5 - s) : Nat) : Int)) (l2iN (by omega)) ?_
  refine Ev_iret dX4_scoreOf_59 rfl rfl ?_
  exact k

set_option maxHeartbeats 4000000 in
set_option maxRecDepth 100000 in
theorem c_scoreOf2 {d : Nat} {S : aS} {Q : Option Value → aS → Prop} {ks fo sc mo mi wa uw mu : Int32} (h15 : S[15]? = some (sC ks fo sc 2 mo mi wa uw mu)) {a : Nat} (k : Q (some (.int 0)) S) : Mth mX4_scoreOf (d + 2) 0 [.ref 15, .ref a] S Q := by
  refine Mth_of (by decide) rfl ?_
  refine Ev_aload_n dX4_scoreOf_0 rfl ?_
  refine Ev_get dX4_scoreOf_1 fg_X4_29_4 h15 rfl ?_
  refine Ev_lookup (off := 56) (tg := 60) dX4_scoreOf_4 (by decide) (by decide) (by decide) ?_
  refine Ev_iconst (v := 0) dX4_scoreOf_60 (by decide) ?_
  refine Ev_iret dX4_scoreOf_61 rfl rfl ?_
  exact k

set_option maxHeartbeats 4000000 in
set_option maxRecDepth 100000 in
theorem c_weigh0_0 {d : Nat} {S : aS} {Q : Option Value → aS → Prop} {ks sc mo mi wa uw mu : Int32} (h15 : S[15]? = some (sC ks 0 sc 0 mo mi wa uw mu)) {a s : Nat} {x1 x3 x4 x5 : Int32} {x6 : Int64} (hW : S[a]? = some (wkc x1 (nI s) x3 x4 x5 x6)) (ha : 16 < a ∧ a < 23) {R K : Nat → Int32} (h23 : S[23]? = some (iA 5 R)) (h24 : S[24]? = some (iA 5 K)) (hs : 1 ≤ s ∧ s ≤ 5) {v : Int} (hsc : ∀ Q2 : Option Value → aS → Prop, Q2 (some (.int (iZ v))) S → Mth mX4_scoreOf (d + 3) 0 [.ref 15, .ref a] S Q2) (k : Q none ((S.set 24 (iA 5 (va_cpy R K 0 0 s))).set 15 (sC (nI s) 1 (iZ v) 0 mo mi wa uw mu))) : Mth mX4_weigh (d + 4) 0 [.ref 15, .ref a] S Q := by
  refine Mth_of (by decide) rfl ?_
  refine Ev_aload_n dX4_weigh_0 rfl ?_
  refine Ev_get dX4_weigh_1 fg_X4_29_4 h15 rfl ?_
  refine Ev_iconst (v := 2) dX4_weigh_4 (by decide) ?_
  refine Ev_icmp_ne dX4_weigh_5 (fun _ => ?_) (fun c => absurd c (by decide))
  refine Ev_aload_n dX4_weigh_17 rfl ?_
  refine Ev_aload_n dX4_weigh_18 rfl ?_
  refine Ev_callV (bc := 0) (b := 0) dX4_weigh_19 cv_X4_111 rfl h15 (Nat.le_of_ble_eq_true rfl) (by omega) ?_
  refine hsc _ ?_
  refine Ev_istore_n dX4_weigh_22 rfl ?_
  refine Ev_aload_n dX4_weigh_23 rfl ?_
  refine Ev_get dX4_weigh_24 fg_X4_64_4 h15 rfl ?_
  refine Ev_if_eq dX4_weigh_27 (fun _ => ?_) (fun c => absurd (by decide) c)
  refine Ev_aload_n dX4_weigh_57 rfl ?_
  refine Ev_iload_n dX4_weigh_58 rfl ?_
  refine Ev_put dX4_weigh_59 fr_X4_67_4 h15 rfl rfl rfl ?_
  refine Ev_aload_n dX4_weigh_62 rfl ?_
  refine Ev_aload_n dX4_weigh_63 rfl ?_
  refine Ev_get dX4_weigh_64 fg_X4_115_10 (gn (by omega) hW) rfl ?_
  refine Ev_iconst (v := 5) dX4_weigh_67 (by decide) ?_
  refine Ev_minN (u := s) (v := 5) dX4_weigh_68 wm_X4_33 (Nat.le_of_ble_eq_true rfl) (by omega) (by omega) ?_
  refine Ev_topi (y := nI s) (by rw [Nat.min_eq_left (by omega)]) ?_
  refine Ev_put dX4_weigh_71 fr_X4_70_4 (gs h15) rfl rfl rfl ?_
  refine Ev_st gss ?_
  refine Ev_aload_n dX4_weigh_74 rfl ?_
  refine Ev_get dX4_weigh_75 fg_X4_18_4 (gs h15) rfl ?_
  refine Ev_iconst (v := 0) dX4_weigh_78 (by decide) ?_
  refine Ev_aload_n dX4_weigh_79 rfl ?_
  refine Ev_get dX4_weigh_80 fg_X4_22_4 (gs h15) rfl ?_
  refine Ev_iconst (v := 0) dX4_weigh_83 (by decide) ?_
  refine Ev_aload_n dX4_weigh_84 rfl ?_
  refine Ev_get dX4_weigh_85 fg_X4_70_4 (gs h15) rfl ?_
  refine Ev_copyi dX4_weigh_88 wl_X4_118 (Nat.le_of_ble_eq_true rfl) (gn (by decide) h23) (gn (by decide) h24) (by decide) (by decide) (nI_pos (by omega)) (by rw [show (0 : Int32).toNatClampNeg = 0 from rfl, ncl (by omega)]; omega) (by rw [show (0 : Int32).toNatClampNeg = 0 from rfl, ncl (by omega)]; omega) ?_
  rw [show (0 : Int32).toNatClampNeg = 0 from rfl, ncl (show s < 2147483648 by omega)]
  refine Ev_aload_n dX4_weigh_91 rfl ?_
  refine Ev_dup dX4_weigh_92 rfl ?_
  refine Ev_get dX4_weigh_93 fg_X4_64_4 (gn (by decide) (gs h15)) rfl ?_
  refine Ev_iconst (v := 1) dX4_weigh_96 (by decide) ?_
  refine Ev_iadd dX4_weigh_97 ?_
  refine Ev_topi (y := 1) (by decide) ?_
  refine Ev_put dX4_weigh_98 fr_X4_64_4 (gn (by decide) (gs h15)) rfl rfl rfl ?_
  refine Ev_vret dX4_weigh_101 rfl ?_
  rw [gc (show (15 : Nat) ≠ 24 by decide), gss]
  exact k

set_option maxHeartbeats 4000000 in
set_option maxRecDepth 100000 in
theorem c_weigh0_1 {d : Nat} {S : aS} {Q : Option Value → aS → Prop} {mo mi wa uw mu : Int32} {c s0 : Nat} {z : Int} (h15 : S[15]? = some (sC (nI s0) (nI c) (iZ z) 0 mo mi wa uw mu)) (hc : 0 < c ∧ c < 2147483647) (hs0 : s0 ≤ 5) (hz : -50000 ≤ z ∧ z ≤ 2000000) {a s : Nat} {x1 x3 x4 x5 : Int32} {x6 : Int64} (hW : S[a]? = some (wkc x1 (nI s) x3 x4 x5 x6)) (ha : 16 < a ∧ a < 23) {R K : Nat → Int32} (h23 : S[23]? = some (iA 5 R)) (h24 : S[24]? = some (iA 5 K)) (hs : 1 ≤ s ∧ s ≤ 5) {v : Int} (hsc : ∀ Q2 : Option Value → aS → Prop, Q2 (some (.int (iZ v))) S → Mth mX4_scoreOf (d + 3) 0 [.ref 15, .ref a] S Q2) (hvv : -50000 ≤ v ∧ v ≤ 2000000) (ky : (z < v ∨ (z = v ∧ s < s0)) → Q none ((S.set 24 (iA 5 (va_cpy R K 0 0 s))).set 15 (sC (nI s) (nI (c + 1)) (iZ v) 0 mo mi wa uw mu))) (kn : ¬ (z < v ∨ (z = v ∧ s < s0)) → Q none (S.set 15 (sC (nI s0) (nI (c + 1)) (iZ z) 0 mo mi wa uw mu))) : Mth mX4_weigh (d + 4) 0 [.ref 15, .ref a] S Q := by
  refine Mth_of (by decide) rfl ?_
  refine Ev_aload_n dX4_weigh_0 rfl ?_
  refine Ev_get dX4_weigh_1 fg_X4_29_4 h15 rfl ?_
  refine Ev_iconst (v := 2) dX4_weigh_4 (by decide) ?_
  refine Ev_icmp_ne dX4_weigh_5 (fun _ => ?_) (fun c => absurd c (by decide))
  refine Ev_aload_n dX4_weigh_17 rfl ?_
  refine Ev_aload_n dX4_weigh_18 rfl ?_
  refine Ev_callV (bc := 0) (b := 0) dX4_weigh_19 cv_X4_111 rfl h15 (Nat.le_of_ble_eq_true rfl) (by omega) ?_
  refine hsc _ ?_
  refine Ev_istore_n dX4_weigh_22 rfl ?_
  refine Ev_aload_n dX4_weigh_23 rfl ?_
  refine Ev_get dX4_weigh_24 fg_X4_64_4 h15 rfl ?_
  refine Ev_if_eq dX4_weigh_27 (fun c1 => ?_) (fun c1 => ?_)
  · skip
    exact absurd ((nIinj (a := c) (b := 0) (by omega) (by omega)).mp c1) (by omega)
  · skip
    refine Ev_iload_n dX4_weigh_30 rfl ?_
    refine Ev_aload_n dX4_weigh_31 rfl ?_
    refine Ev_get dX4_weigh_32 fg_X4_67_4 h15 rfl ?_
    refine Ev_icmp_gt dX4_weigh_35 (fun c2 => ?_) (fun c2 => ?_)
    · skip
      rw [xlt] at c2
      simp only [iZt (show -2147483648 ≤ v ∧ v ≤ 2147483647 by omega), iZt (show -2147483648 ≤ z ∧ z ≤ 2147483647 by omega)] at c2
      refine Ev_aload_n dX4_weigh_57 rfl ?_
      refine Ev_iload_n dX4_weigh_58 rfl ?_
      refine Ev_put dX4_weigh_59 fr_X4_67_4 h15 rfl rfl rfl ?_
      refine Ev_aload_n dX4_weigh_62 rfl ?_
      refine Ev_aload_n dX4_weigh_63 rfl ?_
      refine Ev_get dX4_weigh_64 fg_X4_115_10 (gn (by omega) hW) rfl ?_
      refine Ev_iconst (v := 5) dX4_weigh_67 (by decide) ?_
      refine Ev_minN (u := s) (v := 5) dX4_weigh_68 wm_X4_33 (Nat.le_of_ble_eq_true rfl) (by omega) (by omega) ?_
      refine Ev_topi (y := nI s) (by rw [Nat.min_eq_left (by omega)]) ?_
      refine Ev_put dX4_weigh_71 fr_X4_70_4 (gs h15) rfl rfl rfl ?_
      refine Ev_st gss ?_
      refine Ev_aload_n dX4_weigh_74 rfl ?_
      refine Ev_get dX4_weigh_75 fg_X4_18_4 (gs h15) rfl ?_
      refine Ev_iconst (v := 0) dX4_weigh_78 (by decide) ?_
      refine Ev_aload_n dX4_weigh_79 rfl ?_
      refine Ev_get dX4_weigh_80 fg_X4_22_4 (gs h15) rfl ?_
      refine Ev_iconst (v := 0) dX4_weigh_83 (by decide) ?_
      refine Ev_aload_n dX4_weigh_84 rfl ?_
      refine Ev_get dX4_weigh_85 fg_X4_70_4 (gs h15) rfl ?_
      refine Ev_copyi dX4_weigh_88 wl_X4_118 (Nat.le_of_ble_eq_true rfl) (gn (by decide) h23) (gn (by decide) h24) (by decide) (by decide) (nI_pos (by omega)) (by rw [show (0 : Int32).toNatClampNeg = 0 from rfl, ncl (by omega)]; omega) (by rw [show (0 : Int32).toNatClampNeg = 0 from rfl, ncl (by omega)]; omega) ?_
      rw [show (0 : Int32).toNatClampNeg = 0 from rfl, ncl (show s < 2147483648 by omega)]
      refine Ev_aload_n dX4_weigh_91 rfl ?_
      refine Ev_dup dX4_weigh_92 rfl ?_
      refine Ev_get dX4_weigh_93 fg_X4_64_4 (gn (by decide) (gs h15)) rfl ?_
      refine Ev_iconst (v := 1) dX4_weigh_96 (by decide) ?_
      refine Ev_iadd dX4_weigh_97 ?_
      refine Ev_topi (y := nI (c + 1)) (nI_add _ _) ?_
      refine Ev_put dX4_weigh_98 fr_X4_64_4 (gn (by decide) (gs h15)) rfl rfl rfl ?_
      refine Ev_vret dX4_weigh_101 rfl ?_
      rw [gc (show (15 : Nat) ≠ 24 by decide), gss]
      exact ky (by omega)
    · skip
      rw [xlt] at c2
      simp only [iZt (show -2147483648 ≤ v ∧ v ≤ 2147483647 by omega), iZt (show -2147483648 ≤ z ∧ z ≤ 2147483647 by omega)] at c2
      refine Ev_iload_n dX4_weigh_38 rfl ?_
      refine Ev_aload_n dX4_weigh_39 rfl ?_
      refine Ev_get dX4_weigh_40 fg_X4_67_4 h15 rfl ?_
      refine Ev_icmp_ne dX4_weigh_43 (fun c3 => ?_) (fun c3 => ?_)
      · skip
        rw [xeq] at c3
        simp only [iZt (show -2147483648 ≤ v ∧ v ≤ 2147483647 by omega), iZt (show -2147483648 ≤ z ∧ z ≤ 2147483647 by omega)] at c3
        refine Ev_aload_n dX4_weigh_91 rfl ?_
        refine Ev_dup dX4_weigh_92 rfl ?_
        refine Ev_get dX4_weigh_93 fg_X4_64_4 h15 rfl ?_
        refine Ev_iconst (v := 1) dX4_weigh_96 (by decide) ?_
        refine Ev_iadd dX4_weigh_97 ?_
        refine Ev_topi (y := nI (c + 1)) (nI_add _ _) ?_
        refine Ev_put dX4_weigh_98 fr_X4_64_4 h15 rfl rfl rfl ?_
        refine Ev_vret dX4_weigh_101 rfl ?_
        exact kn (by omega)
      · skip
        rw [xeq] at c3
        simp only [iZt (show -2147483648 ≤ v ∧ v ≤ 2147483647 by omega), iZt (show -2147483648 ≤ z ∧ z ≤ 2147483647 by omega)] at c3
        refine Ev_aload_n dX4_weigh_46 rfl ?_
        refine Ev_get dX4_weigh_47 fg_X4_115_10 hW rfl ?_
        refine Ev_aload_n dX4_weigh_50 rfl ?_
        refine Ev_get dX4_weigh_51 fg_X4_70_4 h15 rfl ?_
        refine Ev_icmp_ge dX4_weigh_54 (fun c4 => ?_) (fun c4 => ?_)
        · skip
          have c4 : s0 ≤ s := (nle (a := s0) (b := s) (by omega) (by omega)).mp c4
          refine Ev_aload_n dX4_weigh_91 rfl ?_
          refine Ev_dup dX4_weigh_92 rfl ?_
          refine Ev_get dX4_weigh_93 fg_X4_64_4 h15 rfl ?_
          refine Ev_iconst (v := 1) dX4_weigh_96 (by decide) ?_
          refine Ev_iadd dX4_weigh_97 ?_
          refine Ev_topi (y := nI (c + 1)) (nI_add _ _) ?_
          refine Ev_put dX4_weigh_98 fr_X4_64_4 h15 rfl rfl rfl ?_
          refine Ev_vret dX4_weigh_101 rfl ?_
          exact kn (by omega)
        · skip
          have c4 : ¬ (s0 ≤ s) := fun z => c4 ((nle (a := s0) (b := s) (by omega) (by omega)).mpr z)
          refine Ev_aload_n dX4_weigh_57 rfl ?_
          refine Ev_iload_n dX4_weigh_58 rfl ?_
          refine Ev_put dX4_weigh_59 fr_X4_67_4 h15 rfl rfl rfl ?_
          refine Ev_aload_n dX4_weigh_62 rfl ?_
          refine Ev_aload_n dX4_weigh_63 rfl ?_
          refine Ev_get dX4_weigh_64 fg_X4_115_10 (gn (by omega) hW) rfl ?_
          refine Ev_iconst (v := 5) dX4_weigh_67 (by decide) ?_
          refine Ev_minN (u := s) (v := 5) dX4_weigh_68 wm_X4_33 (Nat.le_of_ble_eq_true rfl) (by omega) (by omega) ?_
          refine Ev_topi (y := nI s) (by rw [Nat.min_eq_left (by omega)]) ?_
          refine Ev_put dX4_weigh_71 fr_X4_70_4 (gs h15) rfl rfl rfl ?_
          refine Ev_st gss ?_
          refine Ev_aload_n dX4_weigh_74 rfl ?_
          refine Ev_get dX4_weigh_75 fg_X4_18_4 (gs h15) rfl ?_
          refine Ev_iconst (v := 0) dX4_weigh_78 (by decide) ?_
          refine Ev_aload_n dX4_weigh_79 rfl ?_
          refine Ev_get dX4_weigh_80 fg_X4_22_4 (gs h15) rfl ?_
          refine Ev_iconst (v := 0) dX4_weigh_83 (by decide) ?_
          refine Ev_aload_n dX4_weigh_84 rfl ?_
          refine Ev_get dX4_weigh_85 fg_X4_70_4 (gs h15) rfl ?_
          refine Ev_copyi dX4_weigh_88 wl_X4_118 (Nat.le_of_ble_eq_true rfl) (gn (by decide) h23) (gn (by decide) h24) (by decide) (by decide) (nI_pos (by omega)) (by rw [show (0 : Int32).toNatClampNeg = 0 from rfl, ncl (by omega)]; omega) (by rw [show (0 : Int32).toNatClampNeg = 0 from rfl, ncl (by omega)]; omega) ?_
          rw [show (0 : Int32).toNatClampNeg = 0 from rfl, ncl (show s < 2147483648 by omega)]
          refine Ev_aload_n dX4_weigh_91 rfl ?_
          refine Ev_dup dX4_weigh_92 rfl ?_
          refine Ev_get dX4_weigh_93 fg_X4_64_4 (gn (by decide) (gs h15)) rfl ?_
          refine Ev_iconst (v := 1) dX4_weigh_96 (by decide) ?_
          refine Ev_iadd dX4_weigh_97 ?_
          refine Ev_topi (y := nI (c + 1)) (nI_add _ _) ?_
          refine Ev_put dX4_weigh_98 fr_X4_64_4 (gn (by decide) (gs h15)) rfl rfl rfl ?_
          refine Ev_vret dX4_weigh_101 rfl ?_
          rw [gc (show (15 : Nat) ≠ 24 by decide), gss]
          exact ky (by omega)

theorem c_weighV0 {d : Nat} {S : aS} {Q : Option Value → aS → Prop} {ks fo sc mo mi wa uw mu : Int32} (h15 : S[15]? = some (sC ks fo sc 0 mo mi wa uw mu)) {a s : Nat} {x1 x3 x4 x5 : Int32} {x6 : Int64} (hW : S[a]? = some (wkc x1 (nI s) x3 x4 x5 x6)) (ha : 16 < a ∧ a < 23) {R K : Nat → Int32} (h23 : S[23]? = some (iA 5 R)) (h24 : S[24]? = some (iA 5 K)) (hs : 1 ≤ s ∧ s ≤ 5) {v : Int} (hsc : ∀ Q2 : Option Value → aS → Prop, Q2 (some (.int (iZ v))) S → Mth mX4_scoreOf (d + 3) 0 [.ref 15, .ref a] S Q2) (hvv : -50000 ≤ v ∧ v ≤ 2000000) {acc : rV} {r : Nat → Nat} (hkp : kpC acc ks fo sc K) (hR : ∀ x, x < s → R x = nI (r x)) (hcn : acc.1 + 1 < 2147483647) (k : ∀ ks2 fo2 sc2 K2, kpC (jn acc (1, some (v, s, r))) ks2 fo2 sc2 K2 → Q none ((S.set 24 (iA 5 K2)).set 15 (sC ks2 fo2 sc2 0 mo mi wa uw mu))) : Mth mX4_weigh (d + 4) 0 [.ref 15, .ref a] S Q := by
  obtain ⟨c, bb⟩ := acc
  obtain ⟨k1, k2, k3⟩ := hkp
  have hcp : ∀ x, x < s → (va_cpy R K 0 0 s) x = nI (r x) := by
    intro x hx
    simp only [va_cpy]
    rw [if_pos ⟨Nat.zero_le _, by omega⟩, Nat.sub_zero, Nat.zero_add]
    exact hR x hx
  cases bb with
  | none =>
    obtain ⟨e1, e2⟩ := k2 rfl
    have e1 : c = 0 := e1
    subst e1
    have k1 : fo = 0 := k1
    subst k1
    refine c_weigh0_0 h15 hW ha h23 h24 hs hsc ?_
    refine k _ _ _ _ ⟨rfl, fun h => (by cases h), fun z2 s2 r2 h => ?_⟩
    cases h
    exact ⟨Nat.succ_pos 0, rfl, rfl, hs.1, hs.2, hvv.1, hvv.2, hcp⟩
  | some b =>
    obtain ⟨z, s0, r0⟩ := b
    obtain ⟨f1, f2, f3, f4, f5, f6, f7, f8⟩ := k3 z s0 r0 rfl
    have f1 : 0 < c := f1
    have k1 : fo = nI c := k1
    have hcn : c + 1 < 2147483647 := hcn
    subst k1
    subst f2
    subst f3
    refine c_weigh0_1 h15 (by omega) f5 ⟨f6, f7⟩ hW ha h23 h24 hs hsc hvv (fun hy => ?_) (fun hn => ?_)
    · refine k _ _ _ _ ?_
      have e : jn (c, some (z, s0, r0)) (1, some (v, s, r)) = (c + 1, some (v, s, r)) := by
        unfold jn
        rw [jb_y hy]
      rw [e]
      refine ⟨rfl, fun h => (by cases h), fun z2 s2 r2 h => ?_⟩
      cases h
      exact ⟨Nat.succ_pos c, rfl, rfl, hs.1, hs.2, hvv.1, hvv.2, hcp⟩
    · have h := k (nI s0) (nI (c + 1)) (iZ z) K (by
        have e : jn (c, some (z, s0, r0)) (1, some (v, s, r)) = (c + 1, some (z, s0, r0)) := by
          unfold jn
          rw [jb_x hn]
        rw [e]
        refine ⟨rfl, fun h => (by cases h), fun z2 s2 r2 h => ?_⟩
        cases h
        exact ⟨Nat.succ_pos c, rfl, rfl, f4, f5, f6, f7, f8⟩)
      rw [gid h24] at h
      exact h

set_option maxHeartbeats 4000000 in
set_option maxRecDepth 100000 in
theorem c_weigh1_0 {d : Nat} {S : aS} {Q : Option Value → aS → Prop} {ks sc mo mi wa uw mu : Int32} (h15 : S[15]? = some (sC ks 0 sc 1 mo mi wa uw mu)) {a s : Nat} {x1 x3 x4 x5 : Int32} {x6 : Int64} (hW : S[a]? = some (wkc x1 (nI s) x3 x4 x5 x6)) (ha : 16 < a ∧ a < 23) {R K : Nat → Int32} (h23 : S[23]? = some (iA 5 R)) (h24 : S[24]? = some (iA 5 K)) (hs : 1 ≤ s ∧ s ≤ 5) {v : Int} (hsc : ∀ Q2 : Option Value → aS → Prop, Q2 (some (.int (iZ v))) S → Mth mX4_scoreOf (d + 3) 0 [.ref 15, .ref a] S Q2) (k : Q none ((S.set 24 (iA 5 (va_cpy R K 0 0 s))).set 15 (sC (nI s) 1 (iZ v) 1 mo mi wa uw mu))) : Mth mX4_weigh (d + 4) 0 [.ref 15, .ref a] S Q := by
  refine Mth_of (by decide) rfl ?_
  refine Ev_aload_n dX4_weigh_0 rfl ?_
  refine Ev_get dX4_weigh_1 fg_X4_29_4 h15 rfl ?_
  refine Ev_iconst (v := 2) dX4_weigh_4 (by decide) ?_
  refine Ev_icmp_ne dX4_weigh_5 (fun _ => ?_) (fun c => absurd c (by decide))
  refine Ev_aload_n dX4_weigh_17 rfl ?_
  refine Ev_aload_n dX4_weigh_18 rfl ?_
  refine Ev_callV (bc := 0) (b := 0) dX4_weigh_19 cv_X4_111 rfl h15 (Nat.le_of_ble_eq_true rfl) (by omega) ?_
  refine hsc _ ?_
  refine Ev_istore_n dX4_weigh_22 rfl ?_
  refine Ev_aload_n dX4_weigh_23 rfl ?_
  refine Ev_get dX4_weigh_24 fg_X4_64_4 h15 rfl ?_
  refine Ev_if_eq dX4_weigh_27 (fun _ => ?_) (fun c => absurd (by decide) c)
  refine Ev_aload_n dX4_weigh_57 rfl ?_
  refine Ev_iload_n dX4_weigh_58 rfl ?_
  refine Ev_put dX4_weigh_59 fr_X4_67_4 h15 rfl rfl rfl ?_
  refine Ev_aload_n dX4_weigh_62 rfl ?_
  refine Ev_aload_n dX4_weigh_63 rfl ?_
  refine Ev_get dX4_weigh_64 fg_X4_115_10 (gn (by omega) hW) rfl ?_
  refine Ev_iconst (v := 5) dX4_weigh_67 (by decide) ?_
  refine Ev_minN (u := s) (v := 5) dX4_weigh_68 wm_X4_33 (Nat.le_of_ble_eq_true rfl) (by omega) (by omega) ?_
  refine Ev_topi (y := nI s) (by rw [Nat.min_eq_left (by omega)]) ?_
  refine Ev_put dX4_weigh_71 fr_X4_70_4 (gs h15) rfl rfl rfl ?_
  refine Ev_st gss ?_
  refine Ev_aload_n dX4_weigh_74 rfl ?_
  refine Ev_get dX4_weigh_75 fg_X4_18_4 (gs h15) rfl ?_
  refine Ev_iconst (v := 0) dX4_weigh_78 (by decide) ?_
  refine Ev_aload_n dX4_weigh_79 rfl ?_
  refine Ev_get dX4_weigh_80 fg_X4_22_4 (gs h15) rfl ?_
  refine Ev_iconst (v := 0) dX4_weigh_83 (by decide) ?_
  refine Ev_aload_n dX4_weigh_84 rfl ?_
  refine Ev_get dX4_weigh_85 fg_X4_70_4 (gs h15) rfl ?_
  refine Ev_copyi dX4_weigh_88 wl_X4_118 (Nat.le_of_ble_eq_true rfl) (gn (by decide) h23) (gn (by decide) h24) (by decide) (by decide) (nI_pos (by omega)) (by rw [show (0 : Int32).toNatClampNeg = 0 from rfl, ncl (by omega)]; omega) (by rw [show (0 : Int32).toNatClampNeg = 0 from rfl, ncl (by omega)]; omega) ?_
  rw [show (0 : Int32).toNatClampNeg = 0 from rfl, ncl (show s < 2147483648 by omega)]
  refine Ev_aload_n dX4_weigh_91 rfl ?_
  refine Ev_dup dX4_weigh_92 rfl ?_
  refine Ev_get dX4_weigh_93 fg_X4_64_4 (gn (by decide) (gs h15)) rfl ?_
  refine Ev_iconst (v := 1) dX4_weigh_96 (by decide) ?_
  refine Ev_iadd dX4_weigh_97 ?_
  refine Ev_topi (y := 1) (by decide) ?_
  refine Ev_put dX4_weigh_98 fr_X4_64_4 (gn (by decide) (gs h15)) rfl rfl rfl ?_
  refine Ev_vret dX4_weigh_101 rfl ?_
  rw [gc (show (15 : Nat) ≠ 24 by decide), gss]
  exact k

set_option maxHeartbeats 4000000 in
set_option maxRecDepth 100000 in
theorem c_weigh1_1 {d : Nat} {S : aS} {Q : Option Value → aS → Prop} {mo mi wa uw mu : Int32} {c s0 : Nat} {z : Int} (h15 : S[15]? = some (sC (nI s0) (nI c) (iZ z) 1 mo mi wa uw mu)) (hc : 0 < c ∧ c < 2147483647) (hs0 : s0 ≤ 5) (hz : -50000 ≤ z ∧ z ≤ 2000000) {a s : Nat} {x1 x3 x4 x5 : Int32} {x6 : Int64} (hW : S[a]? = some (wkc x1 (nI s) x3 x4 x5 x6)) (ha : 16 < a ∧ a < 23) {R K : Nat → Int32} (h23 : S[23]? = some (iA 5 R)) (h24 : S[24]? = some (iA 5 K)) (hs : 1 ≤ s ∧ s ≤ 5) {v : Int} (hsc : ∀ Q2 : Option Value → aS → Prop, Q2 (some (.int (iZ v))) S → Mth mX4_scoreOf (d + 3) 0 [.ref 15, .ref a] S Q2) (hvv : -50000 ≤ v ∧ v ≤ 2000000) (ky : (z < v ∨ (z = v ∧ s < s0)) → Q none ((S.set 24 (iA 5 (va_cpy R K 0 0 s))).set 15 (sC (nI s) (nI (c + 1)) (iZ v) 1 mo mi wa uw mu))) (kn : ¬ (z < v ∨ (z = v ∧ s < s0)) → Q none (S.set 15 (sC (nI s0) (nI (c + 1)) (iZ z) 1 mo mi wa uw mu))) : Mth mX4_weigh (d + 4) 0 [.ref 15, .ref a] S Q := by
  refine Mth_of (by decide) rfl ?_
  refine Ev_aload_n dX4_weigh_0 rfl ?_
  refine Ev_get dX4_weigh_1 fg_X4_29_4 h15 rfl ?_
  refine Ev_iconst (v := 2) dX4_weigh_4 (by decide) ?_
  refine Ev_icmp_ne dX4_weigh_5 (fun _ => ?_) (fun c => absurd c (by decide))
  refine Ev_aload_n dX4_weigh_17 rfl ?_
  refine Ev_aload_n dX4_weigh_18 rfl ?_
  refine Ev_callV (bc := 0) (b := 0) dX4_weigh_19 cv_X4_111 rfl h15 (Nat.le_of_ble_eq_true rfl) (by omega) ?_
  refine hsc _ ?_
  refine Ev_istore_n dX4_weigh_22 rfl ?_
  refine Ev_aload_n dX4_weigh_23 rfl ?_
  refine Ev_get dX4_weigh_24 fg_X4_64_4 h15 rfl ?_
  refine Ev_if_eq dX4_weigh_27 (fun c1 => ?_) (fun c1 => ?_)
  · skip
    exact absurd ((nIinj (a := c) (b := 0) (by omega) (by omega)).mp c1) (by omega)
  · skip
    refine Ev_iload_n dX4_weigh_30 rfl ?_
    refine Ev_aload_n dX4_weigh_31 rfl ?_
    refine Ev_get dX4_weigh_32 fg_X4_67_4 h15 rfl ?_
    refine Ev_icmp_gt dX4_weigh_35 (fun c2 => ?_) (fun c2 => ?_)
    · skip
      rw [xlt] at c2
      simp only [iZt (show -2147483648 ≤ v ∧ v ≤ 2147483647 by omega), iZt (show -2147483648 ≤ z ∧ z ≤ 2147483647 by omega)] at c2
      refine Ev_aload_n dX4_weigh_57 rfl ?_
      refine Ev_iload_n dX4_weigh_58 rfl ?_
      refine Ev_put dX4_weigh_59 fr_X4_67_4 h15 rfl rfl rfl ?_
      refine Ev_aload_n dX4_weigh_62 rfl ?_
      refine Ev_aload_n dX4_weigh_63 rfl ?_
      refine Ev_get dX4_weigh_64 fg_X4_115_10 (gn (by omega) hW) rfl ?_
      refine Ev_iconst (v := 5) dX4_weigh_67 (by decide) ?_
      refine Ev_minN (u := s) (v := 5) dX4_weigh_68 wm_X4_33 (Nat.le_of_ble_eq_true rfl) (by omega) (by omega) ?_
      refine Ev_topi (y := nI s) (by rw [Nat.min_eq_left (by omega)]) ?_
      refine Ev_put dX4_weigh_71 fr_X4_70_4 (gs h15) rfl rfl rfl ?_
      refine Ev_st gss ?_
      refine Ev_aload_n dX4_weigh_74 rfl ?_
      refine Ev_get dX4_weigh_75 fg_X4_18_4 (gs h15) rfl ?_
      refine Ev_iconst (v := 0) dX4_weigh_78 (by decide) ?_
      refine Ev_aload_n dX4_weigh_79 rfl ?_
      refine Ev_get dX4_weigh_80 fg_X4_22_4 (gs h15) rfl ?_
      refine Ev_iconst (v := 0) dX4_weigh_83 (by decide) ?_
      refine Ev_aload_n dX4_weigh_84 rfl ?_
      refine Ev_get dX4_weigh_85 fg_X4_70_4 (gs h15) rfl ?_
      refine Ev_copyi dX4_weigh_88 wl_X4_118 (Nat.le_of_ble_eq_true rfl) (gn (by decide) h23) (gn (by decide) h24) (by decide) (by decide) (nI_pos (by omega)) (by rw [show (0 : Int32).toNatClampNeg = 0 from rfl, ncl (by omega)]; omega) (by rw [show (0 : Int32).toNatClampNeg = 0 from rfl, ncl (by omega)]; omega) ?_
      rw [show (0 : Int32).toNatClampNeg = 0 from rfl, ncl (show s < 2147483648 by omega)]
      refine Ev_aload_n dX4_weigh_91 rfl ?_
      refine Ev_dup dX4_weigh_92 rfl ?_
      refine Ev_get dX4_weigh_93 fg_X4_64_4 (gn (by decide) (gs h15)) rfl ?_
      refine Ev_iconst (v := 1) dX4_weigh_96 (by decide) ?_
      refine Ev_iadd dX4_weigh_97 ?_
      refine Ev_topi (y := nI (c + 1)) (nI_add _ _) ?_
      refine Ev_put dX4_weigh_98 fr_X4_64_4 (gn (by decide) (gs h15)) rfl rfl rfl ?_
      refine Ev_vret dX4_weigh_101 rfl ?_
      rw [gc (show (15 : Nat) ≠ 24 by decide), gss]
      exact ky (by omega)
    · skip
      rw [xlt] at c2
      simp only [iZt (show -2147483648 ≤ v ∧ v ≤ 2147483647 by omega), iZt (show -2147483648 ≤ z ∧ z ≤ 2147483647 by omega)] at c2
      refine Ev_iload_n dX4_weigh_38 rfl ?_
      refine Ev_aload_n dX4_weigh_39 rfl ?_
      refine Ev_get dX4_weigh_40 fg_X4_67_4 h15 rfl ?_
      refine Ev_icmp_ne dX4_weigh_43 (fun c3 => ?_) (fun c3 => ?_)
      · skip
        rw [xeq] at c3
        simp only [iZt (show -2147483648 ≤ v ∧ v ≤ 2147483647 by omega), iZt (show -2147483648 ≤ z ∧ z ≤ 2147483647 by omega)] at c3
        refine Ev_aload_n dX4_weigh_91 rfl ?_
        refine Ev_dup dX4_weigh_92 rfl ?_
        refine Ev_get dX4_weigh_93 fg_X4_64_4 h15 rfl ?_
        refine Ev_iconst (v := 1) dX4_weigh_96 (by decide) ?_
        refine Ev_iadd dX4_weigh_97 ?_
        refine Ev_topi (y := nI (c + 1)) (nI_add _ _) ?_
        refine Ev_put dX4_weigh_98 fr_X4_64_4 h15 rfl rfl rfl ?_
        refine Ev_vret dX4_weigh_101 rfl ?_
        exact kn (by omega)
      · skip
        rw [xeq] at c3
        simp only [iZt (show -2147483648 ≤ v ∧ v ≤ 2147483647 by omega), iZt (show -2147483648 ≤ z ∧ z ≤ 2147483647 by omega)] at c3
        refine Ev_aload_n dX4_weigh_46 rfl ?_
        refine Ev_get dX4_weigh_47 fg_X4_115_10 hW rfl ?_
        refine Ev_aload_n dX4_weigh_50 rfl ?_
        refine Ev_get dX4_weigh_51 fg_X4_70_4 h15 rfl ?_
        refine Ev_icmp_ge dX4_weigh_54 (fun c4 => ?_) (fun c4 => ?_)
        · skip
          have c4 : s0 ≤ s := (nle (a := s0) (b := s) (by omega) (by omega)).mp c4
          refine Ev_aload_n dX4_weigh_91 rfl ?_
          refine Ev_dup dX4_weigh_92 rfl ?_
          refine Ev_get dX4_weigh_93 fg_X4_64_4 h15 rfl ?_
          refine Ev_iconst (v := 1) dX4_weigh_96 (by decide) ?_
          refine Ev_iadd dX4_weigh_97 ?_
          refine Ev_topi (y := nI (c + 1)) (nI_add _ _) ?_
          refine Ev_put dX4_weigh_98 fr_X4_64_4 h15 rfl rfl rfl ?_
          refine Ev_vret dX4_weigh_101 rfl ?_
          exact kn (by omega)
        · skip
          have c4 : ¬ (s0 ≤ s) := fun z => c4 ((nle (a := s0) (b := s) (by omega) (by omega)).mpr z)
          refine Ev_aload_n dX4_weigh_57 rfl ?_
          refine Ev_iload_n dX4_weigh_58 rfl ?_
          refine Ev_put dX4_weigh_59 fr_X4_67_4 h15 rfl rfl rfl ?_
          refine Ev_aload_n dX4_weigh_62 rfl ?_
          refine Ev_aload_n dX4_weigh_63 rfl ?_
          refine Ev_get dX4_weigh_64 fg_X4_115_10 (gn (by omega) hW) rfl ?_
          refine Ev_iconst (v := 5) dX4_weigh_67 (by decide) ?_
          refine Ev_minN (u := s) (v := 5) dX4_weigh_68 wm_X4_33 (Nat.le_of_ble_eq_true rfl) (by omega) (by omega) ?_
          refine Ev_topi (y := nI s) (by rw [Nat.min_eq_left (by omega)]) ?_
          refine Ev_put dX4_weigh_71 fr_X4_70_4 (gs h15) rfl rfl rfl ?_
          refine Ev_st gss ?_
          refine Ev_aload_n dX4_weigh_74 rfl ?_
          refine Ev_get dX4_weigh_75 fg_X4_18_4 (gs h15) rfl ?_
          refine Ev_iconst (v := 0) dX4_weigh_78 (by decide) ?_
          refine Ev_aload_n dX4_weigh_79 rfl ?_
          refine Ev_get dX4_weigh_80 fg_X4_22_4 (gs h15) rfl ?_
          refine Ev_iconst (v := 0) dX4_weigh_83 (by decide) ?_
          refine Ev_aload_n dX4_weigh_84 rfl ?_
          refine Ev_get dX4_weigh_85 fg_X4_70_4 (gs h15) rfl ?_
          refine Ev_copyi dX4_weigh_88 wl_X4_118 (Nat.le_of_ble_eq_true rfl) (gn (by decide) h23) (gn (by decide) h24) (by decide) (by decide) (nI_pos (by omega)) (by rw [show (0 : Int32).toNatClampNeg = 0 from rfl, ncl (by omega)]; omega) (by rw [show (0 : Int32).toNatClampNeg = 0 from rfl, ncl (by omega)]; omega) ?_
          rw [show (0 : Int32).toNatClampNeg = 0 from rfl, ncl (show s < 2147483648 by omega)]
          refine Ev_aload_n dX4_weigh_91 rfl ?_
          refine Ev_dup dX4_weigh_92 rfl ?_
          refine Ev_get dX4_weigh_93 fg_X4_64_4 (gn (by decide) (gs h15)) rfl ?_
          refine Ev_iconst (v := 1) dX4_weigh_96 (by decide) ?_
          refine Ev_iadd dX4_weigh_97 ?_
          refine Ev_topi (y := nI (c + 1)) (nI_add _ _) ?_
          refine Ev_put dX4_weigh_98 fr_X4_64_4 (gn (by decide) (gs h15)) rfl rfl rfl ?_
          refine Ev_vret dX4_weigh_101 rfl ?_
          rw [gc (show (15 : Nat) ≠ 24 by decide), gss]
          exact ky (by omega)

theorem c_weighV1 {d : Nat} {S : aS} {Q : Option Value → aS → Prop} {ks fo sc mo mi wa uw mu : Int32} (h15 : S[15]? = some (sC ks fo sc 1 mo mi wa uw mu)) {a s : Nat} {x1 x3 x4 x5 : Int32} {x6 : Int64} (hW : S[a]? = some (wkc x1 (nI s) x3 x4 x5 x6)) (ha : 16 < a ∧ a < 23) {R K : Nat → Int32} (h23 : S[23]? = some (iA 5 R)) (h24 : S[24]? = some (iA 5 K)) (hs : 1 ≤ s ∧ s ≤ 5) {v : Int} (hsc : ∀ Q2 : Option Value → aS → Prop, Q2 (some (.int (iZ v))) S → Mth mX4_scoreOf (d + 3) 0 [.ref 15, .ref a] S Q2) (hvv : -50000 ≤ v ∧ v ≤ 2000000) {acc : rV} {r : Nat → Nat} (hkp : kpC acc ks fo sc K) (hR : ∀ x, x < s → R x = nI (r x)) (hcn : acc.1 + 1 < 2147483647) (k : ∀ ks2 fo2 sc2 K2, kpC (jn acc (1, some (v, s, r))) ks2 fo2 sc2 K2 → Q none ((S.set 24 (iA 5 K2)).set 15 (sC ks2 fo2 sc2 1 mo mi wa uw mu))) : Mth mX4_weigh (d + 4) 0 [.ref 15, .ref a] S Q := by
  obtain ⟨c, bb⟩ := acc
  obtain ⟨k1, k2, k3⟩ := hkp
  have hcp : ∀ x, x < s → (va_cpy R K 0 0 s) x = nI (r x) := by
    intro x hx
    simp only [va_cpy]
    rw [if_pos ⟨Nat.zero_le _, by omega⟩, Nat.sub_zero, Nat.zero_add]
    exact hR x hx
  cases bb with
  | none =>
    obtain ⟨e1, e2⟩ := k2 rfl
    have e1 : c = 0 := e1
    subst e1
    have k1 : fo = 0 := k1
    subst k1
    refine c_weigh1_0 h15 hW ha h23 h24 hs hsc ?_
    refine k _ _ _ _ ⟨rfl, fun h => (by cases h), fun z2 s2 r2 h => ?_⟩
    cases h
    exact ⟨Nat.succ_pos 0, rfl, rfl, hs.1, hs.2, hvv.1, hvv.2, hcp⟩
  | some b =>
    obtain ⟨z, s0, r0⟩ := b
    obtain ⟨f1, f2, f3, f4, f5, f6, f7, f8⟩ := k3 z s0 r0 rfl
    have f1 : 0 < c := f1
    have k1 : fo = nI c := k1
    have hcn : c + 1 < 2147483647 := hcn
    subst k1
    subst f2
    subst f3
    refine c_weigh1_1 h15 (by omega) f5 ⟨f6, f7⟩ hW ha h23 h24 hs hsc hvv (fun hy => ?_) (fun hn => ?_)
    · refine k _ _ _ _ ?_
      have e : jn (c, some (z, s0, r0)) (1, some (v, s, r)) = (c + 1, some (v, s, r)) := by
        unfold jn
        rw [jb_y hy]
      rw [e]
      refine ⟨rfl, fun h => (by cases h), fun z2 s2 r2 h => ?_⟩
      cases h
      exact ⟨Nat.succ_pos c, rfl, rfl, hs.1, hs.2, hvv.1, hvv.2, hcp⟩
    · have h := k (nI s0) (nI (c + 1)) (iZ z) K (by
        have e : jn (c, some (z, s0, r0)) (1, some (v, s, r)) = (c + 1, some (z, s0, r0)) := by
          unfold jn
          rw [jb_x hn]
        rw [e]
        refine ⟨rfl, fun h => (by cases h), fun z2 s2 r2 h => ?_⟩
        cases h
        exact ⟨Nat.succ_pos c, rfl, rfl, f4, f5, f6, f7, f8⟩)
      rw [gid h24] at h
      exact h

set_option maxHeartbeats 4000000 in
set_option maxRecDepth 100000 in
theorem c_weigh2_0 {d : Nat} {S : aS} {Q : Option Value → aS → Prop} {ks sc mo mi wa uw mu : Int32} (h15 : S[15]? = some (sC ks 0 sc 2 mo mi wa uw mu)) {a s : Nat} {x1 x3 x4 x5 : Int32} {x6 : Int64} (hW : S[a]? = some (wkc x1 (nI s) x3 x4 x5 x6)) (ha : 16 < a ∧ a < 23) {R K : Nat → Int32} (h23 : S[23]? = some (iA 5 R)) (h24 : S[24]? = some (iA 5 K)) (hs : 1 ≤ s ∧ s ≤ 5) {v : Int} (hsc : ∀ Q2 : Option Value → aS → Prop, Q2 (some (.int (iZ v))) S → Mth mX4_scoreOf (d + 3) 0 [.ref 15, .ref a] S Q2) (htr : ∀ Q2 : Option Value → aS → Prop, Q2 (some (.int 1)) S → Mth mX4_isTrail (d + 3) 0 [.ref 15, .ref a] S Q2) (k : Q none ((S.set 24 (iA 5 (va_cpy R K 0 0 s))).set 15 (sC (nI s) 1 (iZ v) 2 mo mi wa uw mu))) : Mth mX4_weigh (d + 4) 0 [.ref 15, .ref a] S Q := by
  refine Mth_of (by decide) rfl ?_
  refine Ev_aload_n dX4_weigh_0 rfl ?_
  refine Ev_get dX4_weigh_1 fg_X4_29_4 h15 rfl ?_
  refine Ev_iconst (v := 2) dX4_weigh_4 (by decide) ?_
  refine Ev_icmp_ne dX4_weigh_5 (fun c => absurd (by decide) c) (fun _ => ?_)
  refine Ev_aload_n dX4_weigh_8 rfl ?_
  refine Ev_aload_n dX4_weigh_9 rfl ?_
  refine Ev_callV (bc := 0) (b := 0) dX4_weigh_10 cv_X4_107 rfl h15 (Nat.le_of_ble_eq_true rfl) (by omega) ?_
  refine htr _ ?_
  refine Ev_if_ne dX4_weigh_13 (fun _ => ?_) (fun c => absurd c (by decide))
  refine Ev_aload_n dX4_weigh_17 rfl ?_
  refine Ev_aload_n dX4_weigh_18 rfl ?_
  refine Ev_callV (bc := 0) (b := 0) dX4_weigh_19 cv_X4_111 rfl h15 (Nat.le_of_ble_eq_true rfl) (by omega) ?_
  refine hsc _ ?_
  refine Ev_istore_n dX4_weigh_22 rfl ?_
  refine Ev_aload_n dX4_weigh_23 rfl ?_
  refine Ev_get dX4_weigh_24 fg_X4_64_4 h15 rfl ?_
  refine Ev_if_eq dX4_weigh_27 (fun _ => ?_) (fun c => absurd (by decide) c)
  refine Ev_aload_n dX4_weigh_57 rfl ?_
  refine Ev_iload_n dX4_weigh_58 rfl ?_
  refine Ev_put dX4_weigh_59 fr_X4_67_4 h15 rfl rfl rfl ?_
  refine Ev_aload_n dX4_weigh_62 rfl ?_
  refine Ev_aload_n dX4_weigh_63 rfl ?_
  refine Ev_get dX4_weigh_64 fg_X4_115_10 (gn (by omega) hW) rfl ?_
  refine Ev_iconst (v := 5) dX4_weigh_67 (by decide) ?_
  refine Ev_minN (u := s) (v := 5) dX4_weigh_68 wm_X4_33 (Nat.le_of_ble_eq_true rfl) (by omega) (by omega) ?_
  refine Ev_topi (y := nI s) (by rw [Nat.min_eq_left (by omega)]) ?_
  refine Ev_put dX4_weigh_71 fr_X4_70_4 (gs h15) rfl rfl rfl ?_
  refine Ev_st gss ?_
  refine Ev_aload_n dX4_weigh_74 rfl ?_
  refine Ev_get dX4_weigh_75 fg_X4_18_4 (gs h15) rfl ?_
  refine Ev_iconst (v := 0) dX4_weigh_78 (by decide) ?_
  refine Ev_aload_n dX4_weigh_79 rfl ?_
  refine Ev_get dX4_weigh_80 fg_X4_22_4 (gs h15) rfl ?_
  refine Ev_iconst (v := 0) dX4_weigh_83 (by decide) ?_
  refine Ev_aload_n dX4_weigh_84 rfl ?_
  refine Ev_get dX4_weigh_85 fg_X4_70_4 (gs h15) rfl ?_
  refine Ev_copyi dX4_weigh_88 wl_X4_118 (Nat.le_of_ble_eq_true rfl) (gn (by decide) h23) (gn (by decide) h24) (by decide) (by decide) (nI_pos (by omega)) (by rw [show (0 : Int32).toNatClampNeg = 0 from rfl, ncl (by omega)]; omega) (by rw [show (0 : Int32).toNatClampNeg = 0 from rfl, ncl (by omega)]; omega) ?_
  rw [show (0 : Int32).toNatClampNeg = 0 from rfl, ncl (show s < 2147483648 by omega)]
  refine Ev_aload_n dX4_weigh_91 rfl ?_
  refine Ev_dup dX4_weigh_92 rfl ?_
  refine Ev_get dX4_weigh_93 fg_X4_64_4 (gn (by decide) (gs h15)) rfl ?_
  refine Ev_iconst (v := 1) dX4_weigh_96 (by decide) ?_
  refine Ev_iadd dX4_weigh_97 ?_
  refine Ev_topi (y := 1) (by decide) ?_
  refine Ev_put dX4_weigh_98 fr_X4_64_4 (gn (by decide) (gs h15)) rfl rfl rfl ?_
  refine Ev_vret dX4_weigh_101 rfl ?_
  rw [gc (show (15 : Nat) ≠ 24 by decide), gss]
  exact k

set_option maxHeartbeats 4000000 in
set_option maxRecDepth 100000 in
theorem c_weigh2_1 {d : Nat} {S : aS} {Q : Option Value → aS → Prop} {mo mi wa uw mu : Int32} {c s0 : Nat} {z : Int} (h15 : S[15]? = some (sC (nI s0) (nI c) (iZ z) 2 mo mi wa uw mu)) (hc : 0 < c ∧ c < 2147483647) (hs0 : s0 ≤ 5) (hz : -50000 ≤ z ∧ z ≤ 2000000) {a s : Nat} {x1 x3 x4 x5 : Int32} {x6 : Int64} (hW : S[a]? = some (wkc x1 (nI s) x3 x4 x5 x6)) (ha : 16 < a ∧ a < 23) {R K : Nat → Int32} (h23 : S[23]? = some (iA 5 R)) (h24 : S[24]? = some (iA 5 K)) (hs : 1 ≤ s ∧ s ≤ 5) {v : Int} (hsc : ∀ Q2 : Option Value → aS → Prop, Q2 (some (.int (iZ v))) S → Mth mX4_scoreOf (d + 3) 0 [.ref 15, .ref a] S Q2) (hvv : -50000 ≤ v ∧ v ≤ 2000000) (htr : ∀ Q2 : Option Value → aS → Prop, Q2 (some (.int 1)) S → Mth mX4_isTrail (d + 3) 0 [.ref 15, .ref a] S Q2) (ky : (z < v ∨ (z = v ∧ s < s0)) → Q none ((S.set 24 (iA 5 (va_cpy R K 0 0 s))).set 15 (sC (nI s) (nI (c + 1)) (iZ v) 2 mo mi wa uw mu))) (kn : ¬ (z < v ∨ (z = v ∧ s < s0)) → Q none (S.set 15 (sC (nI s0) (nI (c + 1)) (iZ z) 2 mo mi wa uw mu))) : Mth mX4_weigh (d + 4) 0 [.ref 15, .ref a] S Q := by
  refine Mth_of (by decide) rfl ?_
  refine Ev_aload_n dX4_weigh_0 rfl ?_
  refine Ev_get dX4_weigh_1 fg_X4_29_4 h15 rfl ?_
  refine Ev_iconst (v := 2) dX4_weigh_4 (by decide) ?_
  refine Ev_icmp_ne dX4_weigh_5 (fun c => absurd (by decide) c) (fun _ => ?_)
  refine Ev_aload_n dX4_weigh_8 rfl ?_
  refine Ev_aload_n dX4_weigh_9 rfl ?_
  refine Ev_callV (bc := 0) (b := 0) dX4_weigh_10 cv_X4_107 rfl h15 (Nat.le_of_ble_eq_true rfl) (by omega) ?_
  refine htr _ ?_
  refine Ev_if_ne dX4_weigh_13 (fun _ => ?_) (fun c => absurd c (by decide))
  refine Ev_aload_n dX4_weigh_17 rfl ?_
  refine Ev_aload_n dX4_weigh_18 rfl ?_
  refine Ev_callV (bc := 0) (b := 0) dX4_weigh_19 cv_X4_111 rfl h15 (Nat.le_of_ble_eq_true rfl) (by omega) ?_
  refine hsc _ ?_
  refine Ev_istore_n dX4_weigh_22 rfl ?_
  refine Ev_aload_n dX4_weigh_23 rfl ?_
  refine Ev_get dX4_weigh_24 fg_X4_64_4 h15 rfl ?_
  refine Ev_if_eq dX4_weigh_27 (fun c1 => ?_) (fun c1 => ?_)
  · skip
    exact absurd ((nIinj (a := c) (b := 0) (by omega) (by omega)).mp c1) (by omega)
  · skip
    refine Ev_iload_n dX4_weigh_30 rfl ?_
    refine Ev_aload_n dX4_weigh_31 rfl ?_
    refine Ev_get dX4_weigh_32 fg_X4_67_4 h15 rfl ?_
    refine Ev_icmp_gt dX4_weigh_35 (fun c2 => ?_) (fun c2 => ?_)
    · skip
      rw [xlt] at c2
      simp only [iZt (show -2147483648 ≤ v ∧ v ≤ 2147483647 by omega), iZt (show -2147483648 ≤ z ∧ z ≤ 2147483647 by omega)] at c2
      refine Ev_aload_n dX4_weigh_57 rfl ?_
      refine Ev_iload_n dX4_weigh_58 rfl ?_
      refine Ev_put dX4_weigh_59 fr_X4_67_4 h15 rfl rfl rfl ?_
      refine Ev_aload_n dX4_weigh_62 rfl ?_
      refine Ev_aload_n dX4_weigh_63 rfl ?_
      refine Ev_get dX4_weigh_64 fg_X4_115_10 (gn (by omega) hW) rfl ?_
      refine Ev_iconst (v := 5) dX4_weigh_67 (by decide) ?_
      refine Ev_minN (u := s) (v := 5) dX4_weigh_68 wm_X4_33 (Nat.le_of_ble_eq_true rfl) (by omega) (by omega) ?_
      refine Ev_topi (y := nI s) (by rw [Nat.min_eq_left (by omega)]) ?_
      refine Ev_put dX4_weigh_71 fr_X4_70_4 (gs h15) rfl rfl rfl ?_
      refine Ev_st gss ?_
      refine Ev_aload_n dX4_weigh_74 rfl ?_
      refine Ev_get dX4_weigh_75 fg_X4_18_4 (gs h15) rfl ?_
      refine Ev_iconst (v := 0) dX4_weigh_78 (by decide) ?_
      refine Ev_aload_n dX4_weigh_79 rfl ?_
      refine Ev_get dX4_weigh_80 fg_X4_22_4 (gs h15) rfl ?_
      refine Ev_iconst (v := 0) dX4_weigh_83 (by decide) ?_
      refine Ev_aload_n dX4_weigh_84 rfl ?_
      refine Ev_get dX4_weigh_85 fg_X4_70_4 (gs h15) rfl ?_
      refine Ev_copyi dX4_weigh_88 wl_X4_118 (Nat.le_of_ble_eq_true rfl) (gn (by decide) h23) (gn (by decide) h24) (by decide) (by decide) (nI_pos (by omega)) (by rw [show (0 : Int32).toNatClampNeg = 0 from rfl, ncl (by omega)]; omega) (by rw [show (0 : Int32).toNatClampNeg = 0 from rfl, ncl (by omega)]; omega) ?_
      rw [show (0 : Int32).toNatClampNeg = 0 from rfl, ncl (show s < 2147483648 by omega)]
      refine Ev_aload_n dX4_weigh_91 rfl ?_
      refine Ev_dup dX4_weigh_92 rfl ?_
      refine Ev_get dX4_weigh_93 fg_X4_64_4 (gn (by decide) (gs h15)) rfl ?_
      refine Ev_iconst (v := 1) dX4_weigh_96 (by decide) ?_
      refine Ev_iadd dX4_weigh_97 ?_
      refine Ev_topi (y := nI (c + 1)) (nI_add _ _) ?_
      refine Ev_put dX4_weigh_98 fr_X4_64_4 (gn (by decide) (gs h15)) rfl rfl rfl ?_
      refine Ev_vret dX4_weigh_101 rfl ?_
      rw [gc (show (15 : Nat) ≠ 24 by decide), gss]
      exact ky (by omega)
    · skip
      rw [xlt] at c2
      simp only [iZt (show -2147483648 ≤ v ∧ v ≤ 2147483647 by omega), iZt (show -2147483648 ≤ z ∧ z ≤ 2147483647 by omega)] at c2
      refine Ev_iload_n dX4_weigh_38 rfl ?_
      refine Ev_aload_n dX4_weigh_39 rfl ?_
      refine Ev_get dX4_weigh_40 fg_X4_67_4 h15 rfl ?_
      refine Ev_icmp_ne dX4_weigh_43 (fun c3 => ?_) (fun c3 => ?_)
      · skip
        rw [xeq] at c3
        simp only [iZt (show -2147483648 ≤ v ∧ v ≤ 2147483647 by omega), iZt (show -2147483648 ≤ z ∧ z ≤ 2147483647 by omega)] at c3
        refine Ev_aload_n dX4_weigh_91 rfl ?_
        refine Ev_dup dX4_weigh_92 rfl ?_
        refine Ev_get dX4_weigh_93 fg_X4_64_4 h15 rfl ?_
        refine Ev_iconst (v := 1) dX4_weigh_96 (by decide) ?_
        refine Ev_iadd dX4_weigh_97 ?_
        refine Ev_topi (y := nI (c + 1)) (nI_add _ _) ?_
        refine Ev_put dX4_weigh_98 fr_X4_64_4 h15 rfl rfl rfl ?_
        refine Ev_vret dX4_weigh_101 rfl ?_
        exact kn (by omega)
      · skip
        rw [xeq] at c3
        simp only [iZt (show -2147483648 ≤ v ∧ v ≤ 2147483647 by omega), iZt (show -2147483648 ≤ z ∧ z ≤ 2147483647 by omega)] at c3
        refine Ev_aload_n dX4_weigh_46 rfl ?_
        refine Ev_get dX4_weigh_47 fg_X4_115_10 hW rfl ?_
        refine Ev_aload_n dX4_weigh_50 rfl ?_
        refine Ev_get dX4_weigh_51 fg_X4_70_4 h15 rfl ?_
        refine Ev_icmp_ge dX4_weigh_54 (fun c4 => ?_) (fun c4 => ?_)
        · skip
          have c4 : s0 ≤ s := (nle (a := s0) (b := s) (by omega) (by omega)).mp c4
          refine Ev_aload_n dX4_weigh_91 rfl ?_
          refine Ev_dup dX4_weigh_92 rfl ?_
          refine Ev_get dX4_weigh_93 fg_X4_64_4 h15 rfl ?_
          refine Ev_iconst (v := 1) dX4_weigh_96 (by decide) ?_
          refine Ev_iadd dX4_weigh_97 ?_
          refine Ev_topi (y := nI (c + 1)) (nI_add _ _) ?_
          refine Ev_put dX4_weigh_98 fr_X4_64_4 h15 rfl rfl rfl ?_
          refine Ev_vret dX4_weigh_101 rfl ?_
          exact kn (by omega)
        · skip
          have c4 : ¬ (s0 ≤ s) := fun z => c4 ((nle (a := s0) (b := s) (by omega) (by omega)).mpr z)
          refine Ev_aload_n dX4_weigh_57 rfl ?_
          refine Ev_iload_n dX4_weigh_58 rfl ?_
          refine Ev_put dX4_weigh_59 fr_X4_67_4 h15 rfl rfl rfl ?_
          refine Ev_aload_n dX4_weigh_62 rfl ?_
          refine Ev_aload_n dX4_weigh_63 rfl ?_
          refine Ev_get dX4_weigh_64 fg_X4_115_10 (gn (by omega) hW) rfl ?_
          refine Ev_iconst (v := 5) dX4_weigh_67 (by decide) ?_
          refine Ev_minN (u := s) (v := 5) dX4_weigh_68 wm_X4_33 (Nat.le_of_ble_eq_true rfl) (by omega) (by omega) ?_
          refine Ev_topi (y := nI s) (by rw [Nat.min_eq_left (by omega)]) ?_
          refine Ev_put dX4_weigh_71 fr_X4_70_4 (gs h15) rfl rfl rfl ?_
          refine Ev_st gss ?_
          refine Ev_aload_n dX4_weigh_74 rfl ?_
          refine Ev_get dX4_weigh_75 fg_X4_18_4 (gs h15) rfl ?_
          refine Ev_iconst (v := 0) dX4_weigh_78 (by decide) ?_
          refine Ev_aload_n dX4_weigh_79 rfl ?_
          refine Ev_get dX4_weigh_80 fg_X4_22_4 (gs h15) rfl ?_
          refine Ev_iconst (v := 0) dX4_weigh_83 (by decide) ?_
          refine Ev_aload_n dX4_weigh_84 rfl ?_
          refine Ev_get dX4_weigh_85 fg_X4_70_4 (gs h15) rfl ?_
          refine Ev_copyi dX4_weigh_88 wl_X4_118 (Nat.le_of_ble_eq_true rfl) (gn (by decide) h23) (gn (by decide) h24) (by decide) (by decide) (nI_pos (by omega)) (by rw [show (0 : Int32).toNatClampNeg = 0 from rfl, ncl (by omega)]; omega) (by rw [show (0 : Int32).toNatClampNeg = 0 from rfl, ncl (by omega)]; omega) ?_
          rw [show (0 : Int32).toNatClampNeg = 0 from rfl, ncl (show s < 2147483648 by omega)]
          refine Ev_aload_n dX4_weigh_91 rfl ?_
          refine Ev_dup dX4_weigh_92 rfl ?_
          refine Ev_get dX4_weigh_93 fg_X4_64_4 (gn (by decide) (gs h15)) rfl ?_
          refine Ev_iconst (v := 1) dX4_weigh_96 (by decide) ?_
          refine Ev_iadd dX4_weigh_97 ?_
          refine Ev_topi (y := nI (c + 1)) (nI_add _ _) ?_
          refine Ev_put dX4_weigh_98 fr_X4_64_4 (gn (by decide) (gs h15)) rfl rfl rfl ?_
          refine Ev_vret dX4_weigh_101 rfl ?_
          rw [gc (show (15 : Nat) ≠ 24 by decide), gss]
          exact ky (by omega)

set_option maxHeartbeats 4000000 in
set_option maxRecDepth 100000 in
theorem c_weigh2_n {d : Nat} {S : aS} {Q : Option Value → aS → Prop} {ks fo sc mo mi wa uw mu : Int32} (h15 : S[15]? = some (sC ks fo sc 2 mo mi wa uw mu)) {a : Nat} (htr : ∀ Q2 : Option Value → aS → Prop, Q2 (some (.int 0)) S → Mth mX4_isTrail (d + 3) 0 [.ref 15, .ref a] S Q2) (k : Q none S) : Mth mX4_weigh (d + 4) 0 [.ref 15, .ref a] S Q := by
  refine Mth_of (by decide) rfl ?_
  refine Ev_aload_n dX4_weigh_0 rfl ?_
  refine Ev_get dX4_weigh_1 fg_X4_29_4 h15 rfl ?_
  refine Ev_iconst (v := 2) dX4_weigh_4 (by decide) ?_
  refine Ev_icmp_ne dX4_weigh_5 (fun c => absurd (by decide) c) (fun _ => ?_)
  refine Ev_aload_n dX4_weigh_8 rfl ?_
  refine Ev_aload_n dX4_weigh_9 rfl ?_
  refine Ev_callV (bc := 0) (b := 0) dX4_weigh_10 cv_X4_107 rfl h15 (Nat.le_of_ble_eq_true rfl) (by omega) ?_
  refine htr _ ?_
  refine Ev_if_ne dX4_weigh_13 (fun c => absurd (by decide) c) (fun _ => ?_)
  refine Ev_vret dX4_weigh_16 rfl ?_
  exact k

theorem c_weighV2 {d : Nat} {S : aS} {Q : Option Value → aS → Prop} {ks fo sc mo mi wa uw mu : Int32} (h15 : S[15]? = some (sC ks fo sc 2 mo mi wa uw mu)) {a s : Nat} {x1 x3 x4 x5 : Int32} {x6 : Int64} (hW : S[a]? = some (wkc x1 (nI s) x3 x4 x5 x6)) (ha : 16 < a ∧ a < 23) {R K : Nat → Int32} (h23 : S[23]? = some (iA 5 R)) (h24 : S[24]? = some (iA 5 K)) (hs : 1 ≤ s ∧ s ≤ 5) {v : Int} (hsc : ∀ Q2 : Option Value → aS → Prop, Q2 (some (.int (iZ v))) S → Mth mX4_scoreOf (d + 3) 0 [.ref 15, .ref a] S Q2) (hvv : -50000 ≤ v ∧ v ≤ 2000000) (htr : ∀ Q2 : Option Value → aS → Prop, Q2 (some (.int 1)) S → Mth mX4_isTrail (d + 3) 0 [.ref 15, .ref a] S Q2) {acc : rV} {r : Nat → Nat} (hkp : kpC acc ks fo sc K) (hR : ∀ x, x < s → R x = nI (r x)) (hcn : acc.1 + 1 < 2147483647) (k : ∀ ks2 fo2 sc2 K2, kpC (jn acc (1, some (v, s, r))) ks2 fo2 sc2 K2 → Q none ((S.set 24 (iA 5 K2)).set 15 (sC ks2 fo2 sc2 2 mo mi wa uw mu))) : Mth mX4_weigh (d + 4) 0 [.ref 15, .ref a] S Q := by
  obtain ⟨c, bb⟩ := acc
  obtain ⟨k1, k2, k3⟩ := hkp
  have hcp : ∀ x, x < s → (va_cpy R K 0 0 s) x = nI (r x) := by
    intro x hx
    simp only [va_cpy]
    rw [if_pos ⟨Nat.zero_le _, by omega⟩, Nat.sub_zero, Nat.zero_add]
    exact hR x hx
  cases bb with
  | none =>
    obtain ⟨e1, e2⟩ := k2 rfl
    have e1 : c = 0 := e1
    subst e1
    have k1 : fo = 0 := k1
    subst k1
    refine c_weigh2_0 h15 hW ha h23 h24 hs hsc htr ?_
    refine k _ _ _ _ ⟨rfl, fun h => (by cases h), fun z2 s2 r2 h => ?_⟩
    cases h
    exact ⟨Nat.succ_pos 0, rfl, rfl, hs.1, hs.2, hvv.1, hvv.2, hcp⟩
  | some b =>
    obtain ⟨z, s0, r0⟩ := b
    obtain ⟨f1, f2, f3, f4, f5, f6, f7, f8⟩ := k3 z s0 r0 rfl
    have f1 : 0 < c := f1
    have k1 : fo = nI c := k1
    have hcn : c + 1 < 2147483647 := hcn
    subst k1
    subst f2
    subst f3
    refine c_weigh2_1 h15 (by omega) f5 ⟨f6, f7⟩ hW ha h23 h24 hs hsc hvv htr (fun hy => ?_) (fun hn => ?_)
    · refine k _ _ _ _ ?_
      have e : jn (c, some (z, s0, r0)) (1, some (v, s, r)) = (c + 1, some (v, s, r)) := by
        unfold jn
        rw [jb_y hy]
      rw [e]
      refine ⟨rfl, fun h => (by cases h), fun z2 s2 r2 h => ?_⟩
      cases h
      exact ⟨Nat.succ_pos c, rfl, rfl, hs.1, hs.2, hvv.1, hvv.2, hcp⟩
    · have h := k (nI s0) (nI (c + 1)) (iZ z) K (by
        have e : jn (c, some (z, s0, r0)) (1, some (v, s, r)) = (c + 1, some (z, s0, r0)) := by
          unfold jn
          rw [jb_x hn]
        rw [e]
        refine ⟨rfl, fun h => (by cases h), fun z2 s2 r2 h => ?_⟩
        cases h
        exact ⟨Nat.succ_pos c, rfl, rfl, f4, f5, f6, f7, f8⟩)
      rw [gid h24] at h
      exact h

