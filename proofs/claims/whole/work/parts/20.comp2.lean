theorem kc_0 {x : Nat} (h : x = 0) : kc x = 7 := by rw [h]; rfl
theorem kc_1 {x : Nat} (h : x = 1) : kc x = 1 := by rw [h]; rfl
theorem kc_2 {x : Nat} (h : x = 2) : kc x = 6 := by rw [h]; rfl
theorem bz0 {b : Bool} : bz b = 0 ↔ b = false := by cases b <;> decide
theorem gt_some {G : Nat → Nat → Nat} {cs j p q pl n : Nat} (hg : GD pl n G) (hj : j < n) (h : gt G cs j p = some q) : cs.testBit j = false ∧ q < pl ∧ p < pl ∧ ((G 1 j = p ∧ G 2 j = q) ∨ (G 1 j ≠ p ∧ G 2 j = p ∧ G 1 j = q)) := by
  have hG := hg.2.2 j hj
  unfold gt at h
  split at h
  · cases h
  · split at h
    · cases h
      exact ⟨by simp_all, by omega, by omega, Or.inl ⟨‹_›, rfl⟩⟩
    · split at h
      · cases h
        exact ⟨by simp_all, by omega, by omega, Or.inr ⟨‹_›, ‹_›, rfl⟩⟩
      · cases h

set_option maxHeartbeats 4000000 in
theorem c_share {d : Nat} {S : aS} {Q : Option Value → aS → Prop} {pl n cs j a : Nat} {G : Nat → Nat → Nat} {fz : Int} {p : Int32} (hg : GD pl n G) (hj : j < n) (hS : S[a]? = some (stc G cs fz j)) (k : Q none (S.set a (stc G cs p.toInt j))) : Mth mX7_shareWith (d + 2) 0 [.ref a, .int p] S Q := by
  have e1 : ∀ x, x < 10 → (nI x).toInt = (x : Int) := fun x h => nIt (by omega)
  have hG := hg.2.2 j hj
  have hp := hg.1
  have a1 := e1 (G 1 j) (by omega)
  have a2 := e1 (G 2 j) (by omega)
  have hshd : sh G p.toInt j = true ↔ (nI (G 1 j) ≤ p ∧ nI (G 2 j) ≤ p) := by rw [xle, xle, a1, a2]; simp only [sh, decide_eq_true_eq]
  rcases (show G 0 j = 0 ∨ G 0 j = 1 ∨ G 0 j = 2 by omega) with h0 | h0 | h0
  · have hk := kc_0 h0
    have et : tk0 G j = G 3 j := by unfold tk0; rw [h0]; rfl
    have eb : nI (G 3 j) = nI (G 3 j) := rfl
    simp only [stc, hk] at hS
    by_cases hs : sh G p.toInt j = true
    · refine c_X7_shareWith7_1 hS (hshd.mp hs).1 (hshd.mp hs).2 ?_
      simp only [stc, hk, tk, tn, if_pos hs, et] at k
      rw [eb, nI_1]
      exact k
    · refine c_X7_shareWith7_0 hS (fun z => hs (hshd.mpr z)) ?_
      simp only [stc, hk, tk, tn, if_neg hs, et] at k
      rw [eb, show (10 : Int32) - nI (G 5 j) = nI (10 - G 5 j) from nsub (a := 10) (by omega)]
      exact k
  · have hk := kc_1 h0
    have et : tk0 G j = G 3 j + 1 := by unfold tk0; rw [h0]; rfl
    have eb : nI (G 3 j) + 1 = nI (G 3 j + 1) := (nI_1 _)
    simp only [stc, hk] at hS
    by_cases hs : sh G p.toInt j = true
    · refine c_X7_shareWith1_1 hS (hshd.mp hs).1 (hshd.mp hs).2 ?_
      simp only [stc, hk, tk, tn, if_pos hs, et] at k
      rw [eb, nI_1]
      exact k
    · refine c_X7_shareWith1_0 hS (fun z => hs (hshd.mpr z)) ?_
      simp only [stc, hk, tk, tn, if_neg hs, et] at k
      rw [eb, show (10 : Int32) - nI (G 5 j) = nI (10 - G 5 j) from nsub (a := 10) (by omega)]
      exact k
  · have hk := kc_2 h0
    have et : tk0 G j = 2 * (G 3 j + 1) := by unfold tk0; rw [h0]; rfl
    have eb : 2 * (nI (G 3 j) + 1) = nI (2 * (G 3 j + 1)) := (by rw [nI_1]; exact nmul 2 _)
    simp only [stc, hk] at hS
    by_cases hs : sh G p.toInt j = true
    · refine c_X7_shareWith6_1 hS (hshd.mp hs).1 (hshd.mp hs).2 ?_
      simp only [stc, hk, tk, tn, if_pos hs, et] at k
      rw [eb, nI_1]
      exact k
    · refine c_X7_shareWith6_0 hS (fun z => hs (hshd.mpr z)) ?_
      simp only [stc, hk, tk, tn, if_neg hs, et] at k
      rw [eb, show (10 : Int32) - nI (G 5 j) = nI (10 - G 5 j) from nsub (a := 10) (by omega)]
      exact k

set_option maxHeartbeats 4000000 in
theorem c_leads {d : Nat} {S : aS} {Q : Option Value → aS → Prop} {pl n cs j a p : Nat} {G : Nat → Nat → Nat} {fz : Int} (hg : GD pl n G) (hj : j < n) (hp : p < 100) (hS : S[a]? = some (stc G cs fz j)) (kt : ∀ q, gt G cs j p = some q → Q (some (.int 1)) S) (kf : gt G cs j p = none → Q (some (.int 0)) S) : Mth mX7_leadsFrom d 0 [.ref a, .int (nI p)] S Q := by
  have hG := hg.2.2 j hj
  have hp7 := hg.1
  have i1 : nI (G 1 j) = nI p ↔ G 1 j = p := nIinj (by omega) (by omega)
  have i2 : nI (G 2 j) = nI p ↔ G 2 j = p := nIinj (by omega) (by omega)
  refine c_X7_leadsFrom hS (kc3 _) (fun h => ?_) (fun h => ?_)
  · rw [bz0, i1, i2] at h
    by_cases h1 : G 1 j = p
    · exact kt (G 2 j) (by unfold gt; rw [h.1, if_neg (by decide), if_pos h1])
    · exact kt (G 1 j) (by unfold gt; rw [h.1, if_neg (by decide), if_neg h1, if_pos (h.2.resolve_left h1)])
  · rw [bz0, i1, i2] at h
    refine kf ?_
    unfold gt
    by_cases hc : cs.testBit j = true
    · rw [if_pos hc]
    · have hc2 : cs.testBit j = false := by simpa using hc
      rw [if_neg hc, if_neg (fun z => h ⟨hc2, Or.inl z⟩), if_neg (fun z => h ⟨hc2, Or.inr z⟩)]
theorem c_other {d : Nat} {S : aS} {Q : Option Value → aS → Prop} {pl n cs j a p q : Nat} {G : Nat → Nat → Nat} {fz : Int} (hg : GD pl n G) (hj : j < n) (hS : S[a]? = some (stc G cs fz j)) (hq : gt G cs j p = some q) (k : Q (some (.int (nI q))) S) : Mth mX7_otherEnd d 0 [.ref a, .int (nI p)] S Q := by
  have hG := hg.2.2 j hj
  have hp7 := hg.1
  obtain ⟨h1, h2, h3, h4⟩ := gt_some hg hj hq
  refine c_X7_otherEnd hS (kc3 _) ?_
  rcases h4 with ⟨a1, a2⟩ | ⟨a0, a1, a2⟩
  · rw [if_pos (by rw [a1]), a2]; exact k
  · rw [if_neg (fun z => a0 ((nIinj (by omega) (by omega)).mp z.symm)), a2]; exact k

set_option maxHeartbeats 4000000 in
set_option maxRecDepth 100000 in
theorem c_X2_isNone {d : Nat} {S : aS} {Q : Option Value → aS → Prop} {pl n q : Nat} {du lw fr : Int32} (hp7 : pl ≤ 7) (hn9 : n ≤ 9) (hq : q ≤ 8) (hN : S[10]? = some (nt (nI pl) (nI n) du lw fr (nI q))) (kt : pl = 0 → Q (some (.int 1)) S) (kf : ¬ pl = 0 → Q (some (.int 0)) S) : Mth mX2_isNone d 0 [.ref 10] S Q := by
  refine Mth_of (by decide) rfl ?_
  refine Ev_aload_n dX2_isNone_0 rfl ?_
  refine Ev_get dX2_isNone_1 fg_X2_35_2 hN rfl ?_
  refine Ev_if_ne dX2_isNone_4 (fun c1 => ?_) (fun c1 => ?_)
  · skip
    have c1 : ¬ (pl = 0) := fun z => c1 ((nIinj (a := pl) (b := 0) (by omega) (by omega)).mpr z)
    refine Ev_iconst (v := 0) dX2_isNone_11 (by decide) ?_
    refine Ev_iret dX2_isNone_12 rfl (by decide) ?_
    first | exact kt (by omega) | exact kf (by omega)
  · skip
    have c1 : pl = 0 := (nIinj (a := pl) (b := 0) (by omega) (by omega)).mp c1
    refine Ev_iconst (v := 1) dX2_isNone_7 (by decide) ?_
    refine Ev_goto dX2_isNone_8 ?_
    refine Ev_iret dX2_isNone_12 rfl (by decide) ?_
    first | exact kt (by omega) | exact kf (by omega)

set_option maxHeartbeats 4000000 in
set_option maxRecDepth 100000 in
theorem c_X2_hasPlace {d : Nat} {S : aS} {Q : Option Value → aS → Prop} {pl n q : Nat} {du lw fr : Int32} (hp7 : pl ≤ 7) (hn9 : n ≤ 9) (hq : q ≤ 8) (hN : S[10]? = some (nt (nI pl) (nI n) du lw fr (nI q))) {x : Int32} (kt : 0 ≤ x.toInt ∧ x.toInt < pl → Q (some (.int 1)) S) (kf : ¬ (0 ≤ x.toInt ∧ x.toInt < pl) → Q (some (.int 0)) S) : Mth mX2_hasPlace d 0 [.ref 10, .int x] S Q := by
  refine Mth_of (by decide) rfl ?_
  refine Ev_iload_n dX2_hasPlace_0 rfl ?_
  refine Ev_if_lt dX2_hasPlace_1 (fun c1 => ?_) (fun c1 => ?_)
  · skip
    refine Ev_iconst (v := 0) dX2_hasPlace_16 (by decide) ?_
    refine Ev_iret dX2_hasPlace_17 rfl (by decide) ?_
    have e9 : (nI pl).toInt = (pl : Int) := nIt (by omega)
    simp only [xlt, xle, z32_0, e9] at c1
    first | exact kt (by omega) | exact kf (by omega)
  · skip
    refine Ev_iload_n dX2_hasPlace_4 rfl ?_
    refine Ev_aload_n dX2_hasPlace_5 rfl ?_
    refine Ev_get dX2_hasPlace_6 fg_X2_35_2 hN rfl ?_
    refine Ev_icmp_ge dX2_hasPlace_9 (fun c2 => ?_) (fun c2 => ?_)
    · skip
      refine Ev_iconst (v := 0) dX2_hasPlace_16 (by decide) ?_
      refine Ev_iret dX2_hasPlace_17 rfl (by decide) ?_
      have e9 : (nI pl).toInt = (pl : Int) := nIt (by omega)
      simp only [xlt, xle, z32_0, e9] at c1
      simp only [xlt, xle, z32_0, e9] at c2
      first | exact kt (by omega) | exact kf (by omega)
    · skip
      refine Ev_iconst (v := 1) dX2_hasPlace_12 (by decide) ?_
      refine Ev_goto dX2_hasPlace_13 ?_
      refine Ev_iret dX2_hasPlace_17 rfl (by decide) ?_
      have e9 : (nI pl).toInt = (pl : Int) := nIt (by omega)
      simp only [xlt, xle, z32_0, e9] at c1
      simp only [xlt, xle, z32_0, e9] at c2
      first | exact kt (by omega) | exact kf (by omega)

set_option maxHeartbeats 4000000 in
set_option maxRecDepth 100000 in
theorem c_X2_home {d : Nat} {S : aS} {Q : Option Value → aS → Prop} {pl n q : Nat} {du lw fr : Int32} (hp7 : pl ≤ 7) (hn9 : n ≤ 9) (hq : q ≤ 8) (hN : S[10]? = some (nt (nI pl) (nI n) du lw fr (nI q))) (h1 : 1 ≤ pl) (k : Q (some (.int (nI (pl - 1)))) S) : Mth mX2_home d 0 [.ref 10] S Q := by
  refine Mth_of (by decide) rfl ?_
  refine Ev_aload_n dX2_home_0 rfl ?_
  refine Ev_get dX2_home_1 fg_X2_35_2 hN rfl ?_
  refine Ev_iconst (v := 1) dX2_home_4 (by decide) ?_
  refine Ev_isub dX2_home_5 ?_
  refine Ev_topi (y := nI (pl - 1)) (nsub (b := 1) h1) ?_
  refine Ev_iret dX2_home_6 rfl rfl ?_
  exact k

set_option maxHeartbeats 4000000 in
set_option maxRecDepth 100000 in
theorem c_X2_stretchAt {d : Nat} {S : aS} {Q : Option Value → aS → Prop} {pl n q : Nat} {du lw fr : Int32} (hp7 : pl ≤ 7) (hn9 : n ≤ 9) (hq : q ≤ 8) (hN : S[10]? = some (nt (nI pl) (nI n) du lw fr (nI q))) {sa : Nat → Option Nat} {ad : Nat → Nat} (hA : S[11]? = some (rA 4 9 sa)) (hsa : ∀ j, j < n → sa j = some (ad j)) {j : Nat} (hj : j < n) (k : Q (some (.ref (ad j))) S) : Mth mX2_stretchAt d 0 [.ref 10, .int (nI j)] S Q := by
  refine Mth_of (by decide) rfl ?_
  refine Ev_iload_n dX2_stretchAt_0 rfl ?_
  refine Ev_if_lt dX2_stretchAt_1 (fun c => absurd c (nI_pos (by omega))) (fun _ => ?_)
  refine Ev_iload_n dX2_stretchAt_4 rfl ?_
  refine Ev_aload_n dX2_stretchAt_5 rfl ?_
  refine Ev_get dX2_stretchAt_6 fg_X2_45_2 hN rfl ?_
  refine Ev_icmp_ge dX2_stretchAt_9 (fun c => absurd c (fun z => absurd ((nle (by omega) (by omega)).mp z) (by omega))) (fun _ => ?_)
  refine Ev_iload_n dX2_stretchAt_12 rfl ?_
  refine Ev_aload_n dX2_stretchAt_13 rfl ?_
  refine Ev_get dX2_stretchAt_14 fg_X2_11_2 hN rfl ?_
  refine Ev_alen (z := 9) dX2_stretchAt_17 hA (by decide) rfl rfl ?_
  refine Ev_icmp_ge dX2_stretchAt_18 (fun c => absurd c (fun z => absurd ((nle (a := 9) (by omega) (by omega)).mp z) (by omega))) (fun _ => ?_)
  refine Ev_aload_n dX2_stretchAt_21 rfl ?_
  refine Ev_get dX2_stretchAt_22 fg_X2_11_2 hN rfl ?_
  refine Ev_iload_n dX2_stretchAt_25 rfl ?_
  refine Ev_aaloadN (j := j) dX2_stretchAt_26 hA (Or.inr (Or.inl rfl)) (by omega) (by decide) (some (ad j)) (hsa _ (by omega)) ?_
  refine Ev_goto dX2_stretchAt_27 ?_
  refine Ev_aret dX2_stretchAt_31 rfl ?_
  exact k

set_option maxHeartbeats 4000000 in
set_option maxRecDepth 100000 in
theorem c_X2_stretchAt_bad {d : Nat} {S : aS} {Q : Option Value → aS → Prop} {pl n q : Nat} {du lw fr : Int32} (hp7 : pl ≤ 7) (hn9 : n ≤ 9) (hq : q ≤ 8) (hN : S[10]? = some (nt (nI pl) (nI n) du lw fr (nI q))) {x : Int32} (hx : ¬ (0 ≤ x.toInt ∧ x.toInt < n)) (k : Q (some .null) S) : Mth mX2_stretchAt d 0 [.ref 10, .int x] S Q := by
  refine Mth_of (by decide) rfl ?_
  refine Ev_iload_n dX2_stretchAt_0 rfl ?_
  refine Ev_if_lt dX2_stretchAt_1 (fun c1 => ?_) (fun c1 => ?_)
  · skip
    refine Ev_null dX2_stretchAt_30 ?_
    refine Ev_aretN dX2_stretchAt_31 rfl ?_
    exact k
  · skip
    refine Ev_iload_n dX2_stretchAt_4 rfl ?_
    refine Ev_aload_n dX2_stretchAt_5 rfl ?_
    refine Ev_get dX2_stretchAt_6 fg_X2_45_2 hN rfl ?_
    refine Ev_icmp_ge dX2_stretchAt_9 (fun c2 => ?_) (fun c2 => ?_)
    · skip
      refine Ev_null dX2_stretchAt_30 ?_
      refine Ev_aretN dX2_stretchAt_31 rfl ?_
      exact k
    · skip
      exact absurd ⟨by rw [xlt, z32_0] at c1; omega, by rw [xle, nIt (by omega)] at c2; omega⟩ hx

set_option maxHeartbeats 4000000 in
set_option maxRecDepth 100000 in
theorem c_X2_addReading0 {d : Nat} {S : aS} {Q : Option Value → aS → Prop} {pl n q : Nat} {du lw fr : Int32} (hp7 : pl ≤ 7) (hn9 : n ≤ 9) (hq : q ≤ 8) (hN : S[10]? = some (nt (nI pl) (nI n) du lw fr (nI q))) {fo fw : Nat → Int32} (ho : S[12]? = some (iA 8 fo)) (hw : S[13]? = some (zA 8 fw)) (hf : q < 8) {x : Int32} (k : Q (some (.int (nI q))) (((S.set 12 (iA 8 (upd fo q x))).set 13 (zA 8 (upd fw q 0))).set 10 (nt (nI pl) (nI n) du lw fr (nI (q + 1))))) : Mth mX2_addReading d 0 [.ref 10, .int x, .int 0] S Q := by
  refine Mth_of (by decide) rfl ?_
  refine Ev_aload_n dX2_addReading_0 rfl ?_
  refine Ev_get dX2_addReading_1 fg_X2_58_2 hN rfl ?_
  refine Ev_bipush (v := 8) dX2_addReading_4 (by decide) ?_
  refine Ev_icmp_lt dX2_addReading_6 (fun _ => ?_) (fun c => absurd ((nlt (b := 8) (by omega) (by decide)).mpr hf) c)
  refine Ev_aload_n dX2_addReading_12 rfl ?_
  refine Ev_get dX2_addReading_13 fg_X2_17_2 hN rfl ?_
  refine Ev_aload_n dX2_addReading_16 rfl ?_
  refine Ev_get dX2_addReading_17 fg_X2_58_2 hN rfl ?_
  refine Ev_iload_n dX2_addReading_20 rfl ?_
  refine Ev_iastoreN (j := q) dX2_addReading_21 ho (by omega) (by decide) ?_
  refine Ev_aload_n dX2_addReading_22 rfl ?_
  refine Ev_get dX2_addReading_23 fg_X2_21_2 (gn (by decide) hN) rfl ?_
  refine Ev_aload_n dX2_addReading_26 rfl ?_
  refine Ev_get dX2_addReading_27 fg_X2_58_2 (gn (by decide) hN) rfl ?_
  refine Ev_iload_n dX2_addReading_30 rfl ?_
  refine Ev_zastoreN (j := q) dX2_addReading_31 (gn (by decide) hw) (by omega) (by decide) (by decide) ?_
  refine Ev_aload_n dX2_addReading_32 rfl ?_
  refine Ev_dup dX2_addReading_33 rfl ?_
  refine Ev_get dX2_addReading_34 fg_X2_58_2 (gn (by decide) (gn (by decide) hN)) rfl ?_
  refine Ev_iconst (v := 1) dX2_addReading_37 (by decide) ?_
  refine Ev_iadd dX2_addReading_38 ?_
  refine Ev_topi (y := nI (q + 1)) (nI_add _ _) ?_
  refine Ev_put dX2_addReading_39 fr_X2_58_2 (gn (by decide) (gn (by decide) hN)) rfl rfl rfl ?_
  refine Ev_aload_n dX2_addReading_42 rfl ?_
  refine Ev_get dX2_addReading_43 fg_X2_58_2 (gs (gn (by decide) (gn (by decide) hN))) rfl ?_
  refine Ev_iconst (v := 1) dX2_addReading_46 (by decide) ?_
  refine Ev_isub dX2_addReading_47 ?_
  refine Ev_topi (y := nI q) (nI_pred q) ?_
  refine Ev_iret dX2_addReading_48 rfl rfl ?_
  exact k

set_option maxHeartbeats 4000000 in
set_option maxRecDepth 100000 in
theorem c_X2_addReading1 {d : Nat} {S : aS} {Q : Option Value → aS → Prop} {pl n q : Nat} {du lw fr : Int32} (hp7 : pl ≤ 7) (hn9 : n ≤ 9) (hq : q ≤ 8) (hN : S[10]? = some (nt (nI pl) (nI n) du lw fr (nI q))) {fo fw : Nat → Int32} (ho : S[12]? = some (iA 8 fo)) (hw : S[13]? = some (zA 8 fw)) (hf : q < 8) {x : Int32} (k : Q (some (.int (nI q))) (((S.set 12 (iA 8 (upd fo q x))).set 13 (zA 8 (upd fw q 1))).set 10 (nt (nI pl) (nI n) du lw fr (nI (q + 1))))) : Mth mX2_addReading d 0 [.ref 10, .int x, .int 1] S Q := by
  refine Mth_of (by decide) rfl ?_
  refine Ev_aload_n dX2_addReading_0 rfl ?_
  refine Ev_get dX2_addReading_1 fg_X2_58_2 hN rfl ?_
  refine Ev_bipush (v := 8) dX2_addReading_4 (by decide) ?_
  refine Ev_icmp_lt dX2_addReading_6 (fun _ => ?_) (fun c => absurd ((nlt (b := 8) (by omega) (by decide)).mpr hf) c)
  refine Ev_aload_n dX2_addReading_12 rfl ?_
  refine Ev_get dX2_addReading_13 fg_X2_17_2 hN rfl ?_
  refine Ev_aload_n dX2_addReading_16 rfl ?_
  refine Ev_get dX2_addReading_17 fg_X2_58_2 hN rfl ?_
  refine Ev_iload_n dX2_addReading_20 rfl ?_
  refine Ev_iastoreN (j := q) dX2_addReading_21 ho (by omega) (by decide) ?_
  refine Ev_aload_n dX2_addReading_22 rfl ?_
  refine Ev_get dX2_addReading_23 fg_X2_21_2 (gn (by decide) hN) rfl ?_
  refine Ev_aload_n dX2_addReading_26 rfl ?_
  refine Ev_get dX2_addReading_27 fg_X2_58_2 (gn (by decide) hN) rfl ?_
  refine Ev_iload_n dX2_addReading_30 rfl ?_
  refine Ev_zastoreN (j := q) dX2_addReading_31 (gn (by decide) hw) (by omega) (by decide) (by decide) ?_
  refine Ev_aload_n dX2_addReading_32 rfl ?_
  refine Ev_dup dX2_addReading_33 rfl ?_
  refine Ev_get dX2_addReading_34 fg_X2_58_2 (gn (by decide) (gn (by decide) hN)) rfl ?_
  refine Ev_iconst (v := 1) dX2_addReading_37 (by decide) ?_
  refine Ev_iadd dX2_addReading_38 ?_
  refine Ev_topi (y := nI (q + 1)) (nI_add _ _) ?_
  refine Ev_put dX2_addReading_39 fr_X2_58_2 (gn (by decide) (gn (by decide) hN)) rfl rfl rfl ?_
  refine Ev_aload_n dX2_addReading_42 rfl ?_
  refine Ev_get dX2_addReading_43 fg_X2_58_2 (gs (gn (by decide) (gn (by decide) hN))) rfl ?_
  refine Ev_iconst (v := 1) dX2_addReading_46 (by decide) ?_
  refine Ev_isub dX2_addReading_47 ?_
  refine Ev_topi (y := nI q) (nI_pred q) ?_
  refine Ev_iret dX2_addReading_48 rfl rfl ?_
  exact k

def setN (S : aS) (ad : Nat → Nat) (f : Nat → aE) : Nat → aS
  | 0 => S
  | i + 1 => (setN S ad f i).set (ad i) (f i)
theorem setN_off {S : aS} {ad : Nat → Nat} {f : Nat → aE} {a : Nat} : ∀ (i : Nat), (∀ j, j < i → ad j ≠ a) → (setN S ad f i)[a]? = S[a]?
  | 0, _ => rfl
  | i + 1, h => by
    show ((setN S ad f i).set (ad i) (f i))[a]? = _
    rw [List.getElem?_set_ne (h i (by omega))]
    exact setN_off i (fun j hj => h j (by omega))
theorem setN_in {S : aS} {ad : Nat → Nat} {f : Nat → aE} : ∀ (i : Nat), (∀ j, j < i → ∃ c, S[ad j]? = some c) → (∀ j k, j < i → k < i → ad j = ad k → j = k) → ∀ j, j < i → (setN S ad f i)[ad j]? = some (f j)
  | 0, _, _, j, hj => by omega
  | i + 1, h, hd, j, hj => by
    show ((setN S ad f i).set (ad i) (f i))[ad j]? = _
    by_cases e : j = i
    · subst e
      obtain ⟨c, hc⟩ := h j (by omega)
      exact gs (c0 := c) (by rw [setN_off j (fun k hk z => by have := hd k j (by omega) (by omega) z; omega)]; exact hc)
    · rw [List.getElem?_set_ne (fun z => e (hd j i hj (by omega) z.symm))]
      exact setN_in i (fun k hk => h k (by omega)) (fun a b ha hb => hd a b (by omega) (by omega)) j (by omega)
theorem setN_len {S : aS} {ad : Nat → Nat} {f : Nat → aE} : ∀ (i : Nat), (setN S ad f i).length = S.length
  | 0 => rfl
  | i + 1 => by
    show ((setN S ad f i).set (ad i) (f i)).length = _
    rw [List.length_set]; exact setN_len i

set_option maxHeartbeats 4000000 in
set_option maxRecDepth 100000 in
theorem l_X2_befriend {d : Nat} {S : aS} {Q : Option Value → aS → Prop} {pl n q : Nat} {du lw fr : Int32} (hp7 : pl ≤ 7) (hn9 : n ≤ 9) (hq : q ≤ 8) (hN : S[10]? = some (nt (nI pl) (nI n) du lw fr (nI q))) {cs : Nat} {G : Nat → Nat → Nat} (hg : GD pl n G) {sa : Nat → Option Nat} {ad : Nat → Nat} (hA : S[11]? = some (rA 4 9 sa)) (hsa : ∀ j, j < n → sa j = some (ad j)) {fz : Int} (hC : CN S n G cs fz ad) {p9 : Int32} (k : Q none (setN S ad (stc G cs fr.toInt) n)) : ∀ (t i : Nat) , i + t = n → Ev none mX2_befriend (d + 3) 0 7 [some (.ref 10), some (.int p9), some (.int (nI i)), none] [] (setN S ad (stc G cs fr.toInt) i) Q := by
  intro t
  induction t with
  | zero =>
    intro i  hi
    obtain rfl : i = n := by omega
    refine Ev_iload_n dX2_befriend_7 rfl ?_
    refine Ev_aload_n dX2_befriend_8 rfl ?_
    refine Ev_get dX2_befriend_9 fg_X2_45_2 (by rw [setN_off i (fun j hj => by have := (hC j (by omega)).2.1; omega)]; exact hN) rfl ?_
    refine Ev_icmp_ge dX2_befriend_12 (fun _ => ?_) (fun c => absurd ((nle (by omega) (by omega)).mpr (Nat.le_refl _)) c)
    refine Ev_vret dX2_befriend_39 rfl ?_
    exact k
  | succ t ih =>
    intro i  hi
    refine Ev_iload_n dX2_befriend_7 rfl ?_
    refine Ev_aload_n dX2_befriend_8 rfl ?_
    refine Ev_get dX2_befriend_9 fg_X2_45_2 (by rw [setN_off i (fun j hj => by have := (hC j (by omega)).2.1; omega)]; exact hN) rfl ?_
    refine Ev_icmp_ge dX2_befriend_12 (fun c => absurd c (fun z => absurd ((nle (by omega) (by omega)).mp z) (by omega))) (fun _ => ?_)
    refine Ev_aload_n dX2_befriend_15 rfl ?_
    refine Ev_iload_n dX2_befriend_16 rfl ?_
    refine Ev_callV (bc := 0) (b := 0) dX2_befriend_17 cv_X2_65 rfl (by rw [setN_off i (fun j hj => by have := (hC j (by omega)).2.1; omega)]; exact hN) (Nat.le_of_ble_eq_true rfl) (by omega) ?_
    refine c_X2_stretchAt hp7 hn9 hq (by rw [setN_off i (fun j hj => by have := (hC j (by omega)).2.1; omega)]; exact hN) (by rw [setN_off i (fun j hj => by have := (hC j (by omega)).2.1; omega)]; exact hA) hsa (j := i) (by omega) ?_
    refine Ev_astore_n dX2_befriend_20 rfl ?_
    refine Ev_aload_n dX2_befriend_21 rfl ?_
    refine Ev_ifnull dX2_befriend_22 ?_
    refine Ev_aload_n dX2_befriend_25 rfl ?_
    refine Ev_aload_n dX2_befriend_26 rfl ?_
    refine Ev_get dX2_befriend_27 fg_X2_25_2 (by rw [setN_off i (fun j hj => by have := (hC j (by omega)).2.1; omega)]; exact hN) rfl ?_
    refine Ev_callO (bc := 0) (b := 0) dX2_befriend_30 (co3_X2_68 (kc3 _)) rfl (by rw [setN_off i (fun j hj z => by have := (hC j (by omega)).2.2 i (by omega) z.symm; omega)]; exact (hC i (by omega)).1) (Nat.le_of_ble_eq_true rfl) (by omega) ?_
    refine c_share (fz := fz) (j := i) hg (by omega) (by rw [setN_off i (fun j hj z => by have := (hC j (by omega)).2.2 i (by omega) z.symm; omega)]; exact (hC i (by omega)).1) ?_
    refine Ev_iinc (v := nI (i + 1)) dX2_befriend_33 rfl (nI_1 _) rfl ?_
    refine Ev_goto dX2_befriend_36 ?_
    refine Ev_loc (la2 := [some (.ref 10), some (.int p9), some (.int (nI (i + 1))), none]) ⟨rfl, ⟨rfl, ⟨rfl, trivial⟩⟩⟩ ?_
    exact ih (i + 1) (by omega)

set_option maxHeartbeats 4000000 in
set_option maxRecDepth 100000 in
theorem c_X2_befriend {d : Nat} {S : aS} {Q : Option Value → aS → Prop} {pl n q : Nat} {du lw fr : Int32} (hp7 : pl ≤ 7) (hn9 : n ≤ 9) (hq : q ≤ 8) (hN : S[10]? = some (nt (nI pl) (nI n) du lw fr (nI q))) {cs : Nat} {G : Nat → Nat → Nat} (hg : GD pl n G) {sa : Nat → Option Nat} {ad : Nat → Nat} (hA : S[11]? = some (rA 4 9 sa)) (hsa : ∀ j, j < n → sa j = some (ad j)) {fz : Int} (hC : CN S n G cs fz ad) {x : Int32} (k : Q none (setN (S.set 10 (nt (nI pl) (nI n) du lw x (nI q))) ad (stc G cs x.toInt) n)) : Mth mX2_befriend (d + 3) 0 [.ref 10, .int x] S Q := by
  refine Mth_of (by decide) rfl ?_
  refine Ev_aload_n dX2_befriend_0 rfl ?_
  refine Ev_iload_n dX2_befriend_1 rfl ?_
  refine Ev_put dX2_befriend_2 fr_X2_25_2 hN rfl rfl rfl ?_
  refine Ev_iconst (v := 0) dX2_befriend_5 (by decide) ?_
  refine Ev_istore_n dX2_befriend_6 rfl ?_
  exact l_X2_befriend hp7 hn9 hq (gs hN) hg (gn (by decide) hA) hsa (CN.off hC (by decide)) k n 0 (by omega)

set_option maxHeartbeats 4000000 in
set_option maxRecDepth 100000 in
theorem c_X11_due {d : Nat} {S : aS} {Q : Option Value → aS → Prop} {lf : Int32} (hO : S[0]? = some (co lf)) {pl n q : Nat} {du lw fr : Int32} (hp7 : pl ≤ 7) (hn9 : n ≤ 9) (hq : q ≤ 8) (hN : S[10]? = some (nt (nI pl) (nI n) du lw fr (nI q))) {x : Int32} (kb : ¬ (0 ≤ x.toInt ∧ x.toInt ≤ 99) → Q (some (.int (-2))) S) (ks : 0 ≤ x.toInt ∧ x.toInt ≤ 99 → pl = 0 → Q (some (.int (-3))) S) (k : 0 ≤ x.toInt ∧ x.toInt ≤ 99 → pl ≠ 0 → Q (some (.int du)) (S.set 10 (nt (nI pl) (nI n) x lw fr (nI q))))  : Mth mX11_due (d + 1) 0 [.ref 0, .int x] S Q := by
  refine Mth_of (by decide) rfl ?_
  refine Ev_iload_n dX11_due_0 rfl ?_
  refine Ev_iconst (v := 0) dX11_due_1 (by decide) ?_
  refine Ev_bipush (v := 99) dX11_due_2 (by decide) ?_
  refine Ev_callS (bc := 0) (b := 0) dX11_due_4 cs_X11_72 rfl (Nat.le_of_ble_eq_true rfl) (by omega) ?_
  refine c_X11_isWithin (fun q1 => ?_) (fun q1 => ?_)
  · skip
    refine Ev_if_ne dX11_due_7 (fun _ => ?_) (fun c => absurd c (by decide))
    refine Ev_aload_n dX11_due_13 rfl ?_
    refine Ev_get dX11_due_14 fg_X11_21_11 hO rfl ?_
    refine Ev_callV (bc := 0) (b := 0) dX11_due_17 cv_X11_130 rfl hN (Nat.le_of_ble_eq_true rfl) (by omega) ?_
    refine c_X2_isNone hp7 hn9 hq hN (fun q2 => ?_) (fun q2 => ?_)
    · skip
      refine Ev_if_eq dX11_due_20 (fun c => absurd c (by decide)) (fun _ => ?_)
      refine Ev_bipush (v := (-3)) dX11_due_23 (by decide) ?_
      refine Ev_iret dX11_due_25 rfl rfl ?_
      have z0 := z32_0; have z9 := z32_99
      first | exact k (by omega) (by omega) | exact ks (by omega) (by omega) | exact kb (by omega)
    · skip
      refine Ev_if_eq dX11_due_20 (fun _ => ?_) (fun c => absurd (by decide) c)
      refine Ev_aload_n dX11_due_26 rfl ?_
      refine Ev_get dX11_due_27 fg_X11_21_11 hO rfl ?_
      refine Ev_get dX11_due_30 fg_X11_134_2 hN rfl ?_
      refine Ev_istore_n dX11_due_33 rfl ?_
      refine Ev_aload_n dX11_due_34 rfl ?_
      refine Ev_get dX11_due_35 fg_X11_21_11 hO rfl ?_
      refine Ev_iload_n dX11_due_38 rfl ?_
      refine Ev_put dX11_due_39 fr_X11_134_2 hN rfl rfl rfl ?_
      refine Ev_iload_n dX11_due_42 rfl ?_
      refine Ev_iret dX11_due_43 rfl rfl ?_
      have z0 := z32_0; have z9 := z32_99
      first | exact k (by omega) (by omega) | exact ks (by omega) (by omega) | exact kb (by omega)
  · skip
    refine Ev_if_ne dX11_due_7 (fun c => absurd (by decide) c) (fun _ => ?_)
    refine Ev_bipush (v := (-2)) dX11_due_10 (by decide) ?_
    refine Ev_iret dX11_due_12 rfl rfl ?_
    have z0 := z32_0; have z9 := z32_99
    first | exact k (by omega) (by omega) | exact ks (by omega) (by omega) | exact kb (by omega)

set_option maxHeartbeats 4000000 in
set_option maxRecDepth 100000 in
theorem c_X11_law {d : Nat} {S : aS} {Q : Option Value → aS → Prop} {lf : Int32} (hO : S[0]? = some (co lf)) {pl n q : Nat} {du lw fr : Int32} (hp7 : pl ≤ 7) (hn9 : n ≤ 9) (hq : q ≤ 8) (hN : S[10]? = some (nt (nI pl) (nI n) du lw fr (nI q))) {x : Int32} (kb : ¬ (0 ≤ x.toInt ∧ x.toInt ≤ 2) → Q (some (.int (-2))) S) (ks : 0 ≤ x.toInt ∧ x.toInt ≤ 2 → pl = 0 → Q (some (.int (-3))) S) (k : 0 ≤ x.toInt ∧ x.toInt ≤ 2 → pl ≠ 0 → Q (some (.int lw)) (S.set 10 (nt (nI pl) (nI n) du x fr (nI q))))  : Mth mX11_law (d + 1) 0 [.ref 0, .int x] S Q := by
  refine Mth_of (by decide) rfl ?_
  refine Ev_iload_n dX11_law_0 rfl ?_
  refine Ev_iconst (v := 0) dX11_law_1 (by decide) ?_
  refine Ev_iconst (v := 2) dX11_law_2 (by decide) ?_
  refine Ev_callS (bc := 0) (b := 0) dX11_law_3 cs_X11_72 rfl (Nat.le_of_ble_eq_true rfl) (by omega) ?_
  refine c_X11_isWithin (fun q1 => ?_) (fun q1 => ?_)
  · skip
    refine Ev_if_ne dX11_law_6 (fun _ => ?_) (fun c => absurd c (by decide))
    refine Ev_aload_n dX11_law_12 rfl ?_
    refine Ev_get dX11_law_13 fg_X11_21_11 hO rfl ?_
    refine Ev_callV (bc := 0) (b := 0) dX11_law_16 cv_X11_130 rfl hN (Nat.le_of_ble_eq_true rfl) (by omega) ?_
    refine c_X2_isNone hp7 hn9 hq hN (fun q2 => ?_) (fun q2 => ?_)
    · skip
      refine Ev_if_eq dX11_law_19 (fun c => absurd c (by decide)) (fun _ => ?_)
      refine Ev_bipush (v := (-3)) dX11_law_22 (by decide) ?_
      refine Ev_iret dX11_law_24 rfl rfl ?_
      have z0 := z32_0; have z9 := z32_2
      first | exact k (by omega) (by omega) | exact ks (by omega) (by omega) | exact kb (by omega)
    · skip
      refine Ev_if_eq dX11_law_19 (fun _ => ?_) (fun c => absurd (by decide) c)
      refine Ev_aload_n dX11_law_25 rfl ?_
      refine Ev_get dX11_law_26 fg_X11_21_11 hO rfl ?_
      refine Ev_get dX11_law_29 fg_X11_137_2 hN rfl ?_
      refine Ev_istore_n dX11_law_32 rfl ?_
      refine Ev_aload_n dX11_law_33 rfl ?_
      refine Ev_get dX11_law_34 fg_X11_21_11 hO rfl ?_
      refine Ev_iload_n dX11_law_37 rfl ?_
      refine Ev_put dX11_law_38 fr_X11_137_2 hN rfl rfl rfl ?_
      refine Ev_iload_n dX11_law_41 rfl ?_
      refine Ev_iret dX11_law_42 rfl rfl ?_
      have z0 := z32_0; have z9 := z32_2
      first | exact k (by omega) (by omega) | exact ks (by omega) (by omega) | exact kb (by omega)
  · skip
    refine Ev_if_ne dX11_law_6 (fun c => absurd (by decide) c) (fun _ => ?_)
    refine Ev_bipush (v := (-2)) dX11_law_9 (by decide) ?_
    refine Ev_iret dX11_law_11 rfl rfl ?_
    have z0 := z32_0; have z9 := z32_2
    first | exact k (by omega) (by omega) | exact ks (by omega) (by omega) | exact kb (by omega)

set_option maxHeartbeats 4000000 in
set_option maxRecDepth 100000 in
theorem c_X11_friend {d : Nat} {S : aS} {Q : Option Value → aS → Prop} {lf : Int32} (hO : S[0]? = some (co lf)) {pl n q : Nat} {du lw fr : Int32} (hp7 : pl ≤ 7) (hn9 : n ≤ 9) (hq : q ≤ 8) (hN : S[10]? = some (nt (nI pl) (nI n) du lw fr (nI q))) {cs : Nat} {G : Nat → Nat → Nat} (hg : GD pl n G) {sa : Nat → Option Nat} {ad : Nat → Nat} (hA : S[11]? = some (rA 4 9 sa)) (hsa : ∀ j, j < n → sa j = some (ad j)) {fz : Int} (hC : CN S n G cs fz ad) {x : Int32} (kb : ¬ x = -9 → ¬ (0 ≤ x.toInt ∧ x.toInt < pl) → Q (some (.int (-1))) S) (ks : (x = -9 ∨ (0 ≤ x.toInt ∧ x.toInt < pl)) → pl = 0 → Q (some (.int (-3))) S) (k : (x = -9 ∨ (0 ≤ x.toInt ∧ x.toInt < pl)) → pl ≠ 0 → Q (some (.int fr)) (setN (S.set 10 (nt (nI pl) (nI n) du lw x (nI q))) ad (stc G cs x.toInt) n)) : Mth mX11_friend (d + 4) 0 [.ref 0, .int x] S Q := by
  refine Mth_of (by decide) rfl ?_
  refine Ev_iload_n dX11_friend_0 rfl ?_
  refine Ev_bipush (v := (-9)) dX11_friend_1 (by decide) ?_
  refine Ev_icmp_eq dX11_friend_3 (fun c1 => ?_) (fun c1 => ?_)
  · skip
    refine Ev_aload_n dX11_friend_19 rfl ?_
    refine Ev_get dX11_friend_20 fg_X11_21_11 hO rfl ?_
    refine Ev_callV (bc := 0) (b := 0) dX11_friend_23 cv_X11_130 rfl hN (Nat.le_of_ble_eq_true rfl) (by omega) ?_
    refine c_X2_isNone hp7 hn9 hq hN (fun q2 => ?_) (fun q2 => ?_)
    · skip
      refine Ev_if_eq dX11_friend_26 (fun c => absurd c (by decide)) (fun _ => ?_)
      refine Ev_bipush (v := (-3)) dX11_friend_29 (by decide) ?_
      refine Ev_iret dX11_friend_31 rfl rfl ?_
      first | exact k (Or.inl c1) (by omega) | exact ks (Or.inl c1) (by omega) | exact k (Or.inr (by omega)) (by omega) | exact ks (Or.inr (by omega)) (by omega) | exact kb c1 (by omega)
    · skip
      refine Ev_if_eq dX11_friend_26 (fun _ => ?_) (fun c => absurd (by decide) c)
      refine Ev_aload_n dX11_friend_32 rfl ?_
      refine Ev_get dX11_friend_33 fg_X11_21_11 hO rfl ?_
      refine Ev_get dX11_friend_36 fg_X11_144_2 hN rfl ?_
      refine Ev_istore_n dX11_friend_39 rfl ?_
      refine Ev_aload_n dX11_friend_40 rfl ?_
      refine Ev_get dX11_friend_41 fg_X11_21_11 hO rfl ?_
      refine Ev_iload_n dX11_friend_44 rfl ?_
      refine Ev_callV (bc := 0) (b := 0) dX11_friend_45 cv_X11_147 rfl hN (Nat.le_of_ble_eq_true rfl) (by omega) ?_
      refine c_X2_befriend hp7 hn9 hq hN hg hA hsa hC ?_
      refine Ev_iload_n dX11_friend_48 rfl ?_
      refine Ev_iret dX11_friend_49 rfl rfl ?_
      first | exact k (Or.inl c1) (by omega) | exact ks (Or.inl c1) (by omega) | exact k (Or.inr (by omega)) (by omega) | exact ks (Or.inr (by omega)) (by omega) | exact kb c1 (by omega)
  · skip
    refine Ev_aload_n dX11_friend_6 rfl ?_
    refine Ev_get dX11_friend_7 fg_X11_21_11 hO rfl ?_
    refine Ev_iload_n dX11_friend_10 rfl ?_
    refine Ev_callV (bc := 0) (b := 0) dX11_friend_11 cv_X11_140 rfl hN (Nat.le_of_ble_eq_true rfl) (by omega) ?_
    refine c_X2_hasPlace hp7 hn9 hq hN (fun q3 => ?_) (fun q3 => ?_)
    · skip
      refine Ev_if_ne dX11_friend_14 (fun _ => ?_) (fun c => absurd c (by decide))
      refine Ev_aload_n dX11_friend_19 rfl ?_
      refine Ev_get dX11_friend_20 fg_X11_21_11 hO rfl ?_
      refine Ev_callV (bc := 0) (b := 0) dX11_friend_23 cv_X11_130 rfl hN (Nat.le_of_ble_eq_true rfl) (by omega) ?_
      refine c_X2_isNone hp7 hn9 hq hN (fun q4 => ?_) (fun q4 => ?_)
      · skip
        refine Ev_if_eq dX11_friend_26 (fun c => absurd c (by decide)) (fun _ => ?_)
        refine Ev_bipush (v := (-3)) dX11_friend_29 (by decide) ?_
        refine Ev_iret dX11_friend_31 rfl rfl ?_
        first | exact k (Or.inl c1) (by omega) | exact ks (Or.inl c1) (by omega) | exact k (Or.inr (by omega)) (by omega) | exact ks (Or.inr (by omega)) (by omega) | exact kb c1 (by omega)
      · skip
        refine Ev_if_eq dX11_friend_26 (fun _ => ?_) (fun c => absurd (by decide) c)
        refine Ev_aload_n dX11_friend_32 rfl ?_
        refine Ev_get dX11_friend_33 fg_X11_21_11 hO rfl ?_
        refine Ev_get dX11_friend_36 fg_X11_144_2 hN rfl ?_
        refine Ev_istore_n dX11_friend_39 rfl ?_
        refine Ev_aload_n dX11_friend_40 rfl ?_
        refine Ev_get dX11_friend_41 fg_X11_21_11 hO rfl ?_
        refine Ev_iload_n dX11_friend_44 rfl ?_
        refine Ev_callV (bc := 0) (b := 0) dX11_friend_45 cv_X11_147 rfl hN (Nat.le_of_ble_eq_true rfl) (by omega) ?_
        refine c_X2_befriend hp7 hn9 hq hN hg hA hsa hC ?_
        refine Ev_iload_n dX11_friend_48 rfl ?_
        refine Ev_iret dX11_friend_49 rfl rfl ?_
        first | exact k (Or.inl c1) (by omega) | exact ks (Or.inl c1) (by omega) | exact k (Or.inr (by omega)) (by omega) | exact ks (Or.inr (by omega)) (by omega) | exact kb c1 (by omega)
    · skip
      refine Ev_if_ne dX11_friend_14 (fun c => absurd (by decide) c) (fun _ => ?_)
      refine Ev_iconst (v := (-1)) dX11_friend_17 (by decide) ?_
      refine Ev_iret dX11_friend_18 rfl rfl ?_
      first | exact k (Or.inl c1) (by omega) | exact ks (Or.inl c1) (by omega) | exact k (Or.inr (by omega)) (by omega) | exact ks (Or.inr (by omega)) (by omega) | exact kb c1 (by omega)

set_option maxHeartbeats 4000000 in
set_option maxRecDepth 100000 in
theorem c_X11_ofStretch_bad {d : Nat} {S : aS} {Q : Option Value → aS → Prop} {lf : Int32} (hO : S[0]? = some (co lf)) {pl n q : Nat} {du lw fr : Int32} (hp7 : pl ≤ 7) (hn9 : n ≤ 9) (hq : q ≤ 8) (hN : S[10]? = some (nt (nI pl) (nI n) du lw fr (nI q))) {x : Int32} (hx : ¬ (0 ≤ x.toInt ∧ x.toInt < n)) {w : Int32} (k : Q (some (.int (-1))) S) : Mth mX11_ofStretch (d + 2) 0 [.ref 0, .int x, .int w] S Q := by
  refine Mth_of (by decide) rfl ?_
  refine Ev_aload_n dX11_ofStretch_0 rfl ?_
  refine Ev_get dX11_ofStretch_1 fg_X11_21_11 hO rfl ?_
  refine Ev_iload_n dX11_ofStretch_4 rfl ?_
  refine Ev_callV (bc := 0) (b := 0) dX11_ofStretch_5 cv_X11_99 rfl hN (Nat.le_of_ble_eq_true rfl) (by omega) ?_
  refine c_X2_stretchAt_bad hp7 hn9 hq hN hx ?_
  refine Ev_astore_nN dX11_ofStretch_8 rfl ?_
  refine Ev_aload_nN dX11_ofStretch_9 rfl ?_
  refine Ev_ifnonnullN dX11_ofStretch_10 ?_
  refine Ev_iconst (v := (-1)) dX11_ofStretch_13 (by decide) ?_
  refine Ev_iret dX11_ofStretch_14 rfl rfl ?_
  exact k

set_option maxHeartbeats 4000000 in
set_option maxRecDepth 100000 in
theorem c_X11_close_bad {d : Nat} {S : aS} {Q : Option Value → aS → Prop} {lf : Int32} (hO : S[0]? = some (co lf)) {pl n q : Nat} {du lw fr : Int32} (hp7 : pl ≤ 7) (hn9 : n ≤ 9) (hq : q ≤ 8) (hN : S[10]? = some (nt (nI pl) (nI n) du lw fr (nI q))) {x : Int32} (hx : ¬ (0 ≤ x.toInt ∧ x.toInt < n)) {w : Int32} (k : Q (some (.int (-1))) S) : Mth mX11_close (d + 2) 0 [.ref 0, .int x, .int w] S Q := by
  refine Mth_of (by decide) rfl ?_
  refine Ev_aload_n dX11_close_0 rfl ?_
  refine Ev_get dX11_close_1 fg_X11_21_11 hO rfl ?_
  refine Ev_iload_n dX11_close_4 rfl ?_
  refine Ev_callV (bc := 0) (b := 0) dX11_close_5 cv_X11_99 rfl hN (Nat.le_of_ble_eq_true rfl) (by omega) ?_
  refine c_X2_stretchAt_bad hp7 hn9 hq hN hx ?_
  refine Ev_astore_nN dX11_close_8 rfl ?_
  refine Ev_aload_nN dX11_close_9 rfl ?_
  refine Ev_ifnonnullN dX11_close_10 ?_
  refine Ev_iconst (v := (-1)) dX11_close_13 (by decide) ?_
  refine Ev_iret dX11_close_14 rfl rfl ?_
  exact k

set_option maxHeartbeats 4000000 in
set_option maxRecDepth 100000 in
theorem c_X11_reading_bad {d : Nat} {S : aS} {Q : Option Value → aS → Prop} {lf : Int32} (hO : S[0]? = some (co lf)) {pl n q : Nat} {du lw fr : Int32} (hp7 : pl ≤ 7) (hn9 : n ≤ 9) (hq : q ≤ 8) (hN : S[10]? = some (nt (nI pl) (nI n) du lw fr (nI q))) {x : Int32} (hx : ¬ (0 ≤ x.toInt ∧ x.toInt < n)) {w : Int32} (k : Q (some (.int (-1))) S) : Mth mX11_reading (d + 2) 0 [.ref 0, .int x, .int w] S Q := by
  refine Mth_of (by decide) rfl ?_
  refine Ev_aload_n dX11_reading_0 rfl ?_
  refine Ev_get dX11_reading_1 fg_X11_21_11 hO rfl ?_
  refine Ev_iload_n dX11_reading_4 rfl ?_
  refine Ev_callV (bc := 0) (b := 0) dX11_reading_5 cv_X11_99 rfl hN (Nat.le_of_ble_eq_true rfl) (by omega) ?_
  refine c_X2_stretchAt_bad hp7 hn9 hq hN hx ?_
  refine Ev_ifnonnullN dX11_reading_8 ?_
  refine Ev_iconst (v := (-1)) dX11_reading_11 (by decide) ?_
  refine Ev_iret dX11_reading_12 rfl rfl ?_
  exact k

set_option maxHeartbeats 4000000 in
set_option maxRecDepth 100000 in
theorem c_X11_tell_bad {d : Nat} {S : aS} {Q : Option Value → aS → Prop} {lf : Int32} (hO : S[0]? = some (co lf)) {pl n q : Nat} {du lw fr : Int32} (hp7 : pl ≤ 7) (hn9 : n ≤ 9) (hq : q ≤ 8) (hN : S[10]? = some (nt (nI pl) (nI n) du lw fr (nI q))) {x : Int32} (hx : ¬ (0 ≤ x.toInt ∧ x.toInt < n)) (k : Q (some (.int (-1))) S) : Mth mX11_tell (d + 2) 0 [.ref 0, .int x] S Q := by
  refine Mth_of (by decide) rfl ?_
  refine Ev_aload_n dX11_tell_0 rfl ?_
  refine Ev_get dX11_tell_1 fg_X11_21_11 hO rfl ?_
  refine Ev_iload_n dX11_tell_4 rfl ?_
  refine Ev_callV (bc := 0) (b := 0) dX11_tell_5 cv_X11_99 rfl hN (Nat.le_of_ble_eq_true rfl) (by omega) ?_
  refine c_X2_stretchAt_bad hp7 hn9 hq hN hx ?_
  refine Ev_astore_nN dX11_tell_8 rfl ?_
  refine Ev_aload_nN dX11_tell_9 rfl ?_
  refine Ev_ifnonnullN dX11_tell_10 ?_
  refine Ev_iconst (v := (-1)) dX11_tell_13 (by decide) ?_
  refine Ev_goto dX11_tell_14 ?_
  refine Ev_iret dX11_tell_25 rfl rfl ?_
  exact k

set_option maxHeartbeats 4000000 in
set_option maxRecDepth 100000 in
theorem c_X11_sing_bad {d : Nat} {S : aS} {Q : Option Value → aS → Prop} {lf : Int32} (hO : S[0]? = some (co lf)) {pl n q : Nat} {du lw fr : Int32} (hp7 : pl ≤ 7) (hn9 : n ≤ 9) (hq : q ≤ 8) (hN : S[10]? = some (nt (nI pl) (nI n) du lw fr (nI q))) {x : Int32} (hx : ¬ (0 ≤ x.toInt ∧ x.toInt < n)) (k : Q (some (.int (-1))) S) : Mth mX11_sing (d + 2) 0 [.ref 0, .int x] S Q := by
  refine Mth_of (by decide) rfl ?_
  refine Ev_aload_n dX11_sing_0 rfl ?_
  refine Ev_get dX11_sing_1 fg_X11_21_11 hO rfl ?_
  refine Ev_iload_n dX11_sing_4 rfl ?_
  refine Ev_callV (bc := 0) (b := 0) dX11_sing_5 cv_X11_99 rfl hN (Nat.le_of_ble_eq_true rfl) (by omega) ?_
  refine c_X2_stretchAt_bad hp7 hn9 hq hN hx ?_
  refine Ev_astore_nN dX11_sing_8 rfl ?_
  refine Ev_aload_nN dX11_sing_9 rfl ?_
  refine Ev_ifnonnullN dX11_sing_10 ?_
  refine Ev_iconst (v := (-1)) dX11_sing_13 (by decide) ?_
  refine Ev_goto dX11_sing_14 ?_
  refine Ev_iret dX11_sing_25 rfl rfl ?_
  exact k

set_option maxHeartbeats 4000000 in
set_option maxRecDepth 100000 in
theorem c_X11_as_bad {d : Nat} {S : aS} {Q : Option Value → aS → Prop} {lf : Int32} (hO : S[0]? = some (co lf)) {pl n q : Nat} {du lw fr : Int32} (hp7 : pl ≤ 7) (hn9 : n ≤ 9) (hq : q ≤ 8) (hN : S[10]? = some (nt (nI pl) (nI n) du lw fr (nI q))) {x : Int32} (hx : ¬ (0 ≤ x.toInt ∧ x.toInt < n)) {w : Int32} (k : Q (some (.int (-1))) (S.set 0 (co 0))) : Mth mX11_as (d + 2) 0 [.ref 0, .int x, .int w] S Q := by
  refine Mth_of (by decide) rfl ?_
  refine Ev_aload_n dX11_as_0 rfl ?_
  refine Ev_get dX11_as_1 fg_X11_21_11 hO rfl ?_
  refine Ev_iload_n dX11_as_4 rfl ?_
  refine Ev_callV (bc := 0) (b := 0) dX11_as_5 cv_X11_99 rfl hN (Nat.le_of_ble_eq_true rfl) (by omega) ?_
  refine c_X2_stretchAt_bad hp7 hn9 hq hN hx ?_
  refine Ev_astore_nN dX11_as_8 rfl ?_
  refine Ev_aload_nN dX11_as_9 rfl ?_
  refine Ev_ifnonnullN dX11_as_10 ?_
  refine Ev_aload_n dX11_as_13 rfl ?_
  refine Ev_iconst (v := (-1)) dX11_as_14 (by decide) ?_
  refine Ev_callV (bc := 0) (b := 0) dX11_as_15 cv_X11_68 rfl hO (Nat.le_of_ble_eq_true rfl) (by omega) ?_
  refine c_X11_refused hO ?_
  refine Ev_iret dX11_as_18 rfl rfl ?_
  exact k

set_option maxHeartbeats 4000000 in
set_option maxRecDepth 100000 in
theorem c_X11_ofStretch0 {d : Nat} {S : aS} {Q : Option Value → aS → Prop} {lf : Int32} (hO : S[0]? = some (co lf)) {pl n q : Nat} {du lw fr : Int32} (hp7 : pl ≤ 7) (hn9 : n ≤ 9) (hq : q ≤ 8) (hN : S[10]? = some (nt (nI pl) (nI n) du lw fr (nI q))) {cs : Nat} {G : Nat → Nat → Nat} (hg : GD pl n G) {sa : Nat → Option Nat} {ad : Nat → Nat} (hA : S[11]? = some (rA 4 9 sa)) (hsa : ∀ j, j < n → sa j = some (ad j)) {fz : Int} (hC : CN S n G cs fz ad) {j : Nat} (hj : j < n) (hk : G 0 j = 0) {w : Int32} (k : Q (some (.int (if w = 0 then 0 else if w = 1 then nI (G 1 j) else if w = 2 then nI (G 2 j) else if w = 3 then nI (G 3 j) else if w = 4 then nI (G 4 j) else if w = 5 then nI (G 5 j) else if w = 6 then nI (tk G fz j) else if w = 7 then (if cs.testBit j then 1 else 0) else -2))) S) : Mth mX11_ofStretch (d + 2) 0 [.ref 0, .int (nI j), .int w] S Q := by
  have had := (hC j hj).2.1
  have hjG := hg.2.2 j hj
  have hSj : S[ad j]? = some (.inr (7, [.int (nI j), .int (nI (G 1 j)), .int (nI (G 2 j)), .int (nI (G 3 j)), .int (nI (G 4 j)), .int (nI (G 5 j)), .int (nI (tk G fz j)), .int (nI (tn G fz j)), .int (bz (cs.testBit j))])) := by have h := (hC j hj).1; simp only [stc, kc_0 hk] at h; exact h
  refine Mth_of (by decide) rfl ?_
  refine Ev_aload_n dX11_ofStretch_0 rfl ?_
  refine Ev_get dX11_ofStretch_1 fg_X11_21_11 hO rfl ?_
  refine Ev_iload_n dX11_ofStretch_4 rfl ?_
  refine Ev_callV (bc := 0) (b := 0) dX11_ofStretch_5 cv_X11_99 rfl hN (Nat.le_of_ble_eq_true rfl) (by omega) ?_
  refine c_X2_stretchAt hp7 hn9 hq hN hA hsa (j := j) hj ?_
  refine Ev_astore_n dX11_ofStretch_8 rfl ?_
  refine Ev_aload_n dX11_ofStretch_9 rfl ?_
  refine Ev_ifnonnull dX11_ofStretch_10 ?_
  refine Ev_iload_n dX11_ofStretch_15 rfl ?_
  by_cases e1 : w = 0
  · skip
    refine Ev_tableIn (off := 48) (tg := 64) 0 dX11_ofStretch_16 (by rw [e1]; decide) (by decide) rfl (by decide) ?_
    refine Ev_aload_n dX11_ofStretch_64 rfl ?_
    refine Ev_callO (bc := 0) (b := 0) dX11_ofStretch_65 co_X11_103_7 rfl hSj (Nat.le_of_ble_eq_true rfl) (by omega) ?_
    refine c_X7_kind hSj ?_
    refine Ev_iret dX11_ofStretch_68 rfl rfl ?_
    rw [if_pos e1] at k
    exact k
  by_cases e2 : w = 1
  · skip
    refine Ev_tableIn (off := 53) (tg := 69) 1 dX11_ofStretch_16 (by rw [e2]; decide) (by decide) rfl (by decide) ?_
    refine Ev_aload_n dX11_ofStretch_69 rfl ?_
    refine Ev_get dX11_ofStretch_70 fg_X11_108_7 hSj rfl ?_
    refine Ev_iret dX11_ofStretch_73 rfl rfl ?_
    rw [if_neg e1, if_pos e2] at k
    exact k
  by_cases e3 : w = 2
  · skip
    refine Ev_tableIn (off := 58) (tg := 74) 2 dX11_ofStretch_16 (by rw [e3]; decide) (by decide) rfl (by decide) ?_
    refine Ev_aload_n dX11_ofStretch_74 rfl ?_
    refine Ev_get dX11_ofStretch_75 fg_X11_111_7 hSj rfl ?_
    refine Ev_iret dX11_ofStretch_78 rfl rfl ?_
    rw [if_neg e1, if_neg e2, if_pos e3] at k
    exact k
  by_cases e4 : w = 3
  · skip
    refine Ev_tableIn (off := 63) (tg := 79) 3 dX11_ofStretch_16 (by rw [e4]; decide) (by decide) rfl (by decide) ?_
    refine Ev_aload_n dX11_ofStretch_79 rfl ?_
    refine Ev_get dX11_ofStretch_80 fg_X11_114_7 hSj rfl ?_
    refine Ev_iret dX11_ofStretch_83 rfl rfl ?_
    rw [if_neg e1, if_neg e2, if_neg e3, if_pos e4] at k
    exact k
  by_cases e5 : w = 4
  · skip
    refine Ev_tableIn (off := 68) (tg := 84) 4 dX11_ofStretch_16 (by rw [e5]; decide) (by decide) rfl (by decide) ?_
    refine Ev_aload_n dX11_ofStretch_84 rfl ?_
    refine Ev_get dX11_ofStretch_85 fg_X11_117_7 hSj rfl ?_
    refine Ev_iret dX11_ofStretch_88 rfl rfl ?_
    rw [if_neg e1, if_neg e2, if_neg e3, if_neg e4, if_pos e5] at k
    exact k
  by_cases e6 : w = 5
  · skip
    refine Ev_tableIn (off := 73) (tg := 89) 5 dX11_ofStretch_16 (by rw [e6]; decide) (by decide) rfl (by decide) ?_
    refine Ev_aload_n dX11_ofStretch_89 rfl ?_
    refine Ev_get dX11_ofStretch_90 fg_X11_120_7 hSj rfl ?_
    refine Ev_iret dX11_ofStretch_93 rfl rfl ?_
    rw [if_neg e1, if_neg e2, if_neg e3, if_neg e4, if_neg e5, if_pos e6] at k
    exact k
  by_cases e7 : w = 6
  · skip
    refine Ev_tableIn (off := 78) (tg := 94) 6 dX11_ofStretch_16 (by rw [e7]; decide) (by decide) rfl (by decide) ?_
    refine Ev_aload_n dX11_ofStretch_94 rfl ?_
    refine Ev_get dX11_ofStretch_95 fg_X11_123_7 hSj rfl ?_
    refine Ev_iret dX11_ofStretch_98 rfl rfl ?_
    rw [if_neg e1, if_neg e2, if_neg e3, if_neg e4, if_neg e5, if_neg e6, if_pos e7] at k
    exact k
  by_cases e8 : w = 7
  · skip
    refine Ev_tableIn (off := 83) (tg := 99) 7 dX11_ofStretch_16 (by rw [e8]; decide) (by decide) rfl (by decide) ?_
    refine Ev_aload_n dX11_ofStretch_99 rfl ?_
    refine Ev_get dX11_ofStretch_100 fg_X11_126_7 hSj rfl ?_
    refine Ev_if_eq dX11_ofStretch_103 (fun c9 => ?_) (fun c9 => ?_)
    · skip
      refine Ev_iconst (v := 0) dX11_ofStretch_110 (by decide) ?_
      refine Ev_iret dX11_ofStretch_111 rfl rfl ?_
      rw [if_neg e1, if_neg e2, if_neg e3, if_neg e4, if_neg e5, if_neg e6, if_neg e7, if_pos e8] at k
      have hb : cs.testBit j = false := by simpa using c9
      rw [hb] at k
      exact k
    · skip
      refine Ev_iconst (v := 1) dX11_ofStretch_106 (by decide) ?_
      refine Ev_goto dX11_ofStretch_107 ?_
      refine Ev_iret dX11_ofStretch_111 rfl rfl ?_
      rw [if_neg e1, if_neg e2, if_neg e3, if_neg e4, if_neg e5, if_neg e6, if_neg e7, if_pos e8] at k
      have hb : cs.testBit j = true := by simpa using c9
      rw [hb] at k
      exact k
  refine Ev_tableOut (tg := 112) dX11_ofStretch_16 (sw_out8 e1 e2 e3 e4 e5 e6 e7 e8) (by decide) ?_
  refine Ev_bipush (v := (-2)) dX11_ofStretch_112 (by decide) ?_
  refine Ev_iret dX11_ofStretch_114 rfl rfl ?_
  rw [if_neg e1, if_neg e2, if_neg e3, if_neg e4, if_neg e5, if_neg e6, if_neg e7, if_neg e8] at k
  exact k

set_option maxHeartbeats 4000000 in
set_option maxRecDepth 100000 in
theorem c_X11_ofStretch1 {d : Nat} {S : aS} {Q : Option Value → aS → Prop} {lf : Int32} (hO : S[0]? = some (co lf)) {pl n q : Nat} {du lw fr : Int32} (hp7 : pl ≤ 7) (hn9 : n ≤ 9) (hq : q ≤ 8) (hN : S[10]? = some (nt (nI pl) (nI n) du lw fr (nI q))) {cs : Nat} {G : Nat → Nat → Nat} (hg : GD pl n G) {sa : Nat → Option Nat} {ad : Nat → Nat} (hA : S[11]? = some (rA 4 9 sa)) (hsa : ∀ j, j < n → sa j = some (ad j)) {fz : Int} (hC : CN S n G cs fz ad) {j : Nat} (hj : j < n) (hk : G 0 j = 1) {w : Int32} (k : Q (some (.int (if w = 0 then 1 else if w = 1 then nI (G 1 j) else if w = 2 then nI (G 2 j) else if w = 3 then nI (G 3 j) else if w = 4 then nI (G 4 j) else if w = 5 then nI (G 5 j) else if w = 6 then nI (tk G fz j) else if w = 7 then (if cs.testBit j then 1 else 0) else -2))) S) : Mth mX11_ofStretch (d + 2) 0 [.ref 0, .int (nI j), .int w] S Q := by
  have had := (hC j hj).2.1
  have hjG := hg.2.2 j hj
  have hSj : S[ad j]? = some (.inr (1, [.int (nI j), .int (nI (G 1 j)), .int (nI (G 2 j)), .int (nI (G 3 j)), .int (nI (G 4 j)), .int (nI (G 5 j)), .int (nI (tk G fz j)), .int (nI (tn G fz j)), .int (bz (cs.testBit j))])) := by have h := (hC j hj).1; simp only [stc, kc_1 hk] at h; exact h
  refine Mth_of (by decide) rfl ?_
  refine Ev_aload_n dX11_ofStretch_0 rfl ?_
  refine Ev_get dX11_ofStretch_1 fg_X11_21_11 hO rfl ?_
  refine Ev_iload_n dX11_ofStretch_4 rfl ?_
  refine Ev_callV (bc := 0) (b := 0) dX11_ofStretch_5 cv_X11_99 rfl hN (Nat.le_of_ble_eq_true rfl) (by omega) ?_
  refine c_X2_stretchAt hp7 hn9 hq hN hA hsa (j := j) hj ?_
  refine Ev_astore_n dX11_ofStretch_8 rfl ?_
  refine Ev_aload_n dX11_ofStretch_9 rfl ?_
  refine Ev_ifnonnull dX11_ofStretch_10 ?_
  refine Ev_iload_n dX11_ofStretch_15 rfl ?_
  by_cases e1 : w = 0
  · skip
    refine Ev_tableIn (off := 48) (tg := 64) 0 dX11_ofStretch_16 (by rw [e1]; decide) (by decide) rfl (by decide) ?_
    refine Ev_aload_n dX11_ofStretch_64 rfl ?_
    refine Ev_callO (bc := 0) (b := 0) dX11_ofStretch_65 co_X11_103_1 rfl hSj (Nat.le_of_ble_eq_true rfl) (by omega) ?_
    refine c_X1_kind hSj ?_
    refine Ev_iret dX11_ofStretch_68 rfl rfl ?_
    rw [if_pos e1] at k
    exact k
  by_cases e2 : w = 1
  · skip
    refine Ev_tableIn (off := 53) (tg := 69) 1 dX11_ofStretch_16 (by rw [e2]; decide) (by decide) rfl (by decide) ?_
    refine Ev_aload_n dX11_ofStretch_69 rfl ?_
    refine Ev_get dX11_ofStretch_70 fg_X11_108_1 hSj rfl ?_
    refine Ev_iret dX11_ofStretch_73 rfl rfl ?_
    rw [if_neg e1, if_pos e2] at k
    exact k
  by_cases e3 : w = 2
  · skip
    refine Ev_tableIn (off := 58) (tg := 74) 2 dX11_ofStretch_16 (by rw [e3]; decide) (by decide) rfl (by decide) ?_
    refine Ev_aload_n dX11_ofStretch_74 rfl ?_
    refine Ev_get dX11_ofStretch_75 fg_X11_111_1 hSj rfl ?_
    refine Ev_iret dX11_ofStretch_78 rfl rfl ?_
    rw [if_neg e1, if_neg e2, if_pos e3] at k
    exact k
  by_cases e4 : w = 3
  · skip
    refine Ev_tableIn (off := 63) (tg := 79) 3 dX11_ofStretch_16 (by rw [e4]; decide) (by decide) rfl (by decide) ?_
    refine Ev_aload_n dX11_ofStretch_79 rfl ?_
    refine Ev_get dX11_ofStretch_80 fg_X11_114_1 hSj rfl ?_
    refine Ev_iret dX11_ofStretch_83 rfl rfl ?_
    rw [if_neg e1, if_neg e2, if_neg e3, if_pos e4] at k
    exact k
  by_cases e5 : w = 4
  · skip
    refine Ev_tableIn (off := 68) (tg := 84) 4 dX11_ofStretch_16 (by rw [e5]; decide) (by decide) rfl (by decide) ?_
    refine Ev_aload_n dX11_ofStretch_84 rfl ?_
    refine Ev_get dX11_ofStretch_85 fg_X11_117_1 hSj rfl ?_
    refine Ev_iret dX11_ofStretch_88 rfl rfl ?_
    rw [if_neg e1, if_neg e2, if_neg e3, if_neg e4, if_pos e5] at k
    exact k
  by_cases e6 : w = 5
  · skip
    refine Ev_tableIn (off := 73) (tg := 89) 5 dX11_ofStretch_16 (by rw [e6]; decide) (by decide) rfl (by decide) ?_
    refine Ev_aload_n dX11_ofStretch_89 rfl ?_
    refine Ev_get dX11_ofStretch_90 fg_X11_120_1 hSj rfl ?_
    refine Ev_iret dX11_ofStretch_93 rfl rfl ?_
    rw [if_neg e1, if_neg e2, if_neg e3, if_neg e4, if_neg e5, if_pos e6] at k
    exact k
  by_cases e7 : w = 6
  · skip
    refine Ev_tableIn (off := 78) (tg := 94) 6 dX11_ofStretch_16 (by rw [e7]; decide) (by decide) rfl (by decide) ?_
    refine Ev_aload_n dX11_ofStretch_94 rfl ?_
    refine Ev_get dX11_ofStretch_95 fg_X11_123_1 hSj rfl ?_
    refine Ev_iret dX11_ofStretch_98 rfl rfl ?_
    rw [if_neg e1, if_neg e2, if_neg e3, if_neg e4, if_neg e5, if_neg e6, if_pos e7] at k
    exact k
  by_cases e8 : w = 7
  · skip
    refine Ev_tableIn (off := 83) (tg := 99) 7 dX11_ofStretch_16 (by rw [e8]; decide) (by decide) rfl (by decide) ?_
    refine Ev_aload_n dX11_ofStretch_99 rfl ?_
    refine Ev_get dX11_ofStretch_100 fg_X11_126_1 hSj rfl ?_
    refine Ev_if_eq dX11_ofStretch_103 (fun c9 => ?_) (fun c9 => ?_)
    · skip
      refine Ev_iconst (v := 0) dX11_ofStretch_110 (by decide) ?_
      refine Ev_iret dX11_ofStretch_111 rfl rfl ?_
      rw [if_neg e1, if_neg e2, if_neg e3, if_neg e4, if_neg e5, if_neg e6, if_neg e7, if_pos e8] at k
      have hb : cs.testBit j = false := by simpa using c9
      rw [hb] at k
      exact k
    · skip
      refine Ev_iconst (v := 1) dX11_ofStretch_106 (by decide) ?_
      refine Ev_goto dX11_ofStretch_107 ?_
      refine Ev_iret dX11_ofStretch_111 rfl rfl ?_
      rw [if_neg e1, if_neg e2, if_neg e3, if_neg e4, if_neg e5, if_neg e6, if_neg e7, if_pos e8] at k
      have hb : cs.testBit j = true := by simpa using c9
      rw [hb] at k
      exact k
  refine Ev_tableOut (tg := 112) dX11_ofStretch_16 (sw_out8 e1 e2 e3 e4 e5 e6 e7 e8) (by decide) ?_
  refine Ev_bipush (v := (-2)) dX11_ofStretch_112 (by decide) ?_
  refine Ev_iret dX11_ofStretch_114 rfl rfl ?_
  rw [if_neg e1, if_neg e2, if_neg e3, if_neg e4, if_neg e5, if_neg e6, if_neg e7, if_neg e8] at k
  exact k

set_option maxHeartbeats 4000000 in
set_option maxRecDepth 100000 in
theorem c_X11_ofStretch2 {d : Nat} {S : aS} {Q : Option Value → aS → Prop} {lf : Int32} (hO : S[0]? = some (co lf)) {pl n q : Nat} {du lw fr : Int32} (hp7 : pl ≤ 7) (hn9 : n ≤ 9) (hq : q ≤ 8) (hN : S[10]? = some (nt (nI pl) (nI n) du lw fr (nI q))) {cs : Nat} {G : Nat → Nat → Nat} (hg : GD pl n G) {sa : Nat → Option Nat} {ad : Nat → Nat} (hA : S[11]? = some (rA 4 9 sa)) (hsa : ∀ j, j < n → sa j = some (ad j)) {fz : Int} (hC : CN S n G cs fz ad) {j : Nat} (hj : j < n) (hk : G 0 j = 2) {w : Int32} (k : Q (some (.int (if w = 0 then 2 else if w = 1 then nI (G 1 j) else if w = 2 then nI (G 2 j) else if w = 3 then nI (G 3 j) else if w = 4 then nI (G 4 j) else if w = 5 then nI (G 5 j) else if w = 6 then nI (tk G fz j) else if w = 7 then (if cs.testBit j then 1 else 0) else -2))) S) : Mth mX11_ofStretch (d + 2) 0 [.ref 0, .int (nI j), .int w] S Q := by
  have had := (hC j hj).2.1
  have hjG := hg.2.2 j hj
  have hSj : S[ad j]? = some (.inr (6, [.int (nI j), .int (nI (G 1 j)), .int (nI (G 2 j)), .int (nI (G 3 j)), .int (nI (G 4 j)), .int (nI (G 5 j)), .int (nI (tk G fz j)), .int (nI (tn G fz j)), .int (bz (cs.testBit j))])) := by have h := (hC j hj).1; simp only [stc, kc_2 hk] at h; exact h
  refine Mth_of (by decide) rfl ?_
  refine Ev_aload_n dX11_ofStretch_0 rfl ?_
  refine Ev_get dX11_ofStretch_1 fg_X11_21_11 hO rfl ?_
  refine Ev_iload_n dX11_ofStretch_4 rfl ?_
  refine Ev_callV (bc := 0) (b := 0) dX11_ofStretch_5 cv_X11_99 rfl hN (Nat.le_of_ble_eq_true rfl) (by omega) ?_
  refine c_X2_stretchAt hp7 hn9 hq hN hA hsa (j := j) hj ?_
  refine Ev_astore_n dX11_ofStretch_8 rfl ?_
  refine Ev_aload_n dX11_ofStretch_9 rfl ?_
  refine Ev_ifnonnull dX11_ofStretch_10 ?_
  refine Ev_iload_n dX11_ofStretch_15 rfl ?_
  by_cases e1 : w = 0
  · skip
    refine Ev_tableIn (off := 48) (tg := 64) 0 dX11_ofStretch_16 (by rw [e1]; decide) (by decide) rfl (by decide) ?_
    refine Ev_aload_n dX11_ofStretch_64 rfl ?_
    refine Ev_callO (bc := 0) (b := 0) dX11_ofStretch_65 co_X11_103_6 rfl hSj (Nat.le_of_ble_eq_true rfl) (by omega) ?_
    refine c_X6_kind hSj ?_
    refine Ev_iret dX11_ofStretch_68 rfl rfl ?_
    rw [if_pos e1] at k
    exact k
  by_cases e2 : w = 1
  · skip
    refine Ev_tableIn (off := 53) (tg := 69) 1 dX11_ofStretch_16 (by rw [e2]; decide) (by decide) rfl (by decide) ?_
    refine Ev_aload_n dX11_ofStretch_69 rfl ?_
    refine Ev_get dX11_ofStretch_70 fg_X11_108_6 hSj rfl ?_
    refine Ev_iret dX11_ofStretch_73 rfl rfl ?_
    rw [if_neg e1, if_pos e2] at k
    exact k
  by_cases e3 : w = 2
  · skip
    refine Ev_tableIn (off := 58) (tg := 74) 2 dX11_ofStretch_16 (by rw [e3]; decide) (by decide) rfl (by decide) ?_
    refine Ev_aload_n dX11_ofStretch_74 rfl ?_
    refine Ev_get dX11_ofStretch_75 fg_X11_111_6 hSj rfl ?_
    refine Ev_iret dX11_ofStretch_78 rfl rfl ?_
    rw [if_neg e1, if_neg e2, if_pos e3] at k
    exact k
  by_cases e4 : w = 3
  · skip
    refine Ev_tableIn (off := 63) (tg := 79) 3 dX11_ofStretch_16 (by rw [e4]; decide) (by decide) rfl (by decide) ?_
    refine Ev_aload_n dX11_ofStretch_79 rfl ?_
    refine Ev_get dX11_ofStretch_80 fg_X11_114_6 hSj rfl ?_
    refine Ev_iret dX11_ofStretch_83 rfl rfl ?_
    rw [if_neg e1, if_neg e2, if_neg e3, if_pos e4] at k
    exact k
  by_cases e5 : w = 4
  · skip
    refine Ev_tableIn (off := 68) (tg := 84) 4 dX11_ofStretch_16 (by rw [e5]; decide) (by decide) rfl (by decide) ?_
    refine Ev_aload_n dX11_ofStretch_84 rfl ?_
    refine Ev_get dX11_ofStretch_85 fg_X11_117_6 hSj rfl ?_
    refine Ev_iret dX11_ofStretch_88 rfl rfl ?_
    rw [if_neg e1, if_neg e2, if_neg e3, if_neg e4, if_pos e5] at k
    exact k
  by_cases e6 : w = 5
  · skip
    refine Ev_tableIn (off := 73) (tg := 89) 5 dX11_ofStretch_16 (by rw [e6]; decide) (by decide) rfl (by decide) ?_
    refine Ev_aload_n dX11_ofStretch_89 rfl ?_
    refine Ev_get dX11_ofStretch_90 fg_X11_120_6 hSj rfl ?_
    refine Ev_iret dX11_ofStretch_93 rfl rfl ?_
    rw [if_neg e1, if_neg e2, if_neg e3, if_neg e4, if_neg e5, if_pos e6] at k
    exact k
  by_cases e7 : w = 6
  · skip
    refine Ev_tableIn (off := 78) (tg := 94) 6 dX11_ofStretch_16 (by rw [e7]; decide) (by decide) rfl (by decide) ?_
    refine Ev_aload_n dX11_ofStretch_94 rfl ?_
    refine Ev_get dX11_ofStretch_95 fg_X11_123_6 hSj rfl ?_
    refine Ev_iret dX11_ofStretch_98 rfl rfl ?_
    rw [if_neg e1, if_neg e2, if_neg e3, if_neg e4, if_neg e5, if_neg e6, if_pos e7] at k
    exact k
  by_cases e8 : w = 7
  · skip
    refine Ev_tableIn (off := 83) (tg := 99) 7 dX11_ofStretch_16 (by rw [e8]; decide) (by decide) rfl (by decide) ?_
    refine Ev_aload_n dX11_ofStretch_99 rfl ?_
    refine Ev_get dX11_ofStretch_100 fg_X11_126_6 hSj rfl ?_
    refine Ev_if_eq dX11_ofStretch_103 (fun c9 => ?_) (fun c9 => ?_)
    · skip
      refine Ev_iconst (v := 0) dX11_ofStretch_110 (by decide) ?_
      refine Ev_iret dX11_ofStretch_111 rfl rfl ?_
      rw [if_neg e1, if_neg e2, if_neg e3, if_neg e4, if_neg e5, if_neg e6, if_neg e7, if_pos e8] at k
      have hb : cs.testBit j = false := by simpa using c9
      rw [hb] at k
      exact k
    · skip
      refine Ev_iconst (v := 1) dX11_ofStretch_106 (by decide) ?_
      refine Ev_goto dX11_ofStretch_107 ?_
      refine Ev_iret dX11_ofStretch_111 rfl rfl ?_
      rw [if_neg e1, if_neg e2, if_neg e3, if_neg e4, if_neg e5, if_neg e6, if_neg e7, if_pos e8] at k
      have hb : cs.testBit j = true := by simpa using c9
      rw [hb] at k
      exact k
  refine Ev_tableOut (tg := 112) dX11_ofStretch_16 (sw_out8 e1 e2 e3 e4 e5 e6 e7 e8) (by decide) ?_
  refine Ev_bipush (v := (-2)) dX11_ofStretch_112 (by decide) ?_
  refine Ev_iret dX11_ofStretch_114 rfl rfl ?_
  rw [if_neg e1, if_neg e2, if_neg e3, if_neg e4, if_neg e5, if_neg e6, if_neg e7, if_neg e8] at k
  exact k

set_option maxHeartbeats 4000000 in
set_option maxRecDepth 100000 in
theorem c_X11_close0_same {d : Nat} {S : aS} {Q : Option Value → aS → Prop} {lf : Int32} (hO : S[0]? = some (co lf)) {pl n q : Nat} {du lw fr : Int32} (hp7 : pl ≤ 7) (hn9 : n ≤ 9) (hq : q ≤ 8) (hN : S[10]? = some (nt (nI pl) (nI n) du lw fr (nI q))) {cs : Nat} {G : Nat → Nat → Nat} (hg : GD pl n G) {sa : Nat → Option Nat} {ad : Nat → Nat} (hA : S[11]? = some (rA 4 9 sa)) (hsa : ∀ j, j < n → sa j = some (ad j)) {fz : Int} (hC : CN S n G cs fz ad) {j : Nat} (hj : j < n) (hb : cs.testBit j = false) (k : Q (some (.int 0)) S) : Mth mX11_close (d + 2) 0 [.ref 0, .int (nI j), .int 0] S Q := by
  have had := (hC j hj).2.1
  have hjG := hg.2.2 j hj
  refine Mth_of (by decide) rfl ?_
  refine Ev_aload_n dX11_close_0 rfl ?_
  refine Ev_get dX11_close_1 fg_X11_21_11 hO rfl ?_
  refine Ev_iload_n dX11_close_4 rfl ?_
  refine Ev_callV (bc := 0) (b := 0) dX11_close_5 cv_X11_99 rfl hN (Nat.le_of_ble_eq_true rfl) (by omega) ?_
  refine c_X2_stretchAt hp7 hn9 hq hN hA hsa (j := j) hj ?_
  refine Ev_astore_n dX11_close_8 rfl ?_
  refine Ev_aload_n dX11_close_9 rfl ?_
  refine Ev_ifnonnull dX11_close_10 ?_
  refine Ev_aload_n dX11_close_15 rfl ?_
  refine Ev_get dX11_close_16 (fg3_X11_126 (kc3 _)) (hC _ hj).1 rfl ?_
  refine Ev_iload_n dX11_close_19 rfl ?_
  refine Ev_icmp_ne dX11_close_20 (fun c => absurd (by rw [hb]; decide) c) (fun _ => ?_)
  refine Ev_iconst (v := 0) dX11_close_23 (by decide) ?_
  refine Ev_iret dX11_close_24 rfl rfl ?_
  exact k

set_option maxHeartbeats 4000000 in
set_option maxRecDepth 100000 in
theorem c_X11_close0 {d : Nat} {S : aS} {Q : Option Value → aS → Prop} {lf : Int32} (hO : S[0]? = some (co lf)) {pl n q : Nat} {du lw fr : Int32} (hp7 : pl ≤ 7) (hn9 : n ≤ 9) (hq : q ≤ 8) (hN : S[10]? = some (nt (nI pl) (nI n) du lw fr (nI q))) {cs : Nat} {G : Nat → Nat → Nat} (hg : GD pl n G) {sa : Nat → Option Nat} {ad : Nat → Nat} (hA : S[11]? = some (rA 4 9 sa)) (hsa : ∀ j, j < n → sa j = some (ad j)) {fz : Int} (hC : CN S n G cs fz ad) {j : Nat} (hj : j < n) (hb : ¬ cs.testBit j = false) (k : Q (some (.int 1)) (S.set (ad j) (.inr (kc (G 0 j), [.int (nI j), .int (nI (G 1 j)), .int (nI (G 2 j)), .int (nI (G 3 j)), .int (nI (G 4 j)), .int (nI (G 5 j)), .int (nI (tk G fz j)), .int (nI (tn G fz j)), .int 0])))) : Mth mX11_close (d + 2) 0 [.ref 0, .int (nI j), .int 0] S Q := by
  have had := (hC j hj).2.1
  have hjG := hg.2.2 j hj
  have hb2 : cs.testBit j = true := by simpa using hb
  refine Mth_of (by decide) rfl ?_
  refine Ev_aload_n dX11_close_0 rfl ?_
  refine Ev_get dX11_close_1 fg_X11_21_11 hO rfl ?_
  refine Ev_iload_n dX11_close_4 rfl ?_
  refine Ev_callV (bc := 0) (b := 0) dX11_close_5 cv_X11_99 rfl hN (Nat.le_of_ble_eq_true rfl) (by omega) ?_
  refine c_X2_stretchAt hp7 hn9 hq hN hA hsa (j := j) hj ?_
  refine Ev_astore_n dX11_close_8 rfl ?_
  refine Ev_aload_n dX11_close_9 rfl ?_
  refine Ev_ifnonnull dX11_close_10 ?_
  refine Ev_aload_n dX11_close_15 rfl ?_
  refine Ev_get dX11_close_16 (fg3_X11_126 (kc3 _)) (hC _ hj).1 rfl ?_
  refine Ev_iload_n dX11_close_19 rfl ?_
  refine Ev_icmp_ne dX11_close_20 (fun _ => ?_) (fun c => absurd c (by rw [hb2]; decide))
  refine Ev_aload_n dX11_close_25 rfl ?_
  refine Ev_iload_n dX11_close_26 rfl ?_
  refine Ev_put dX11_close_27 (fr3_X11_126 (kc3 _)) (hC _ hj).1 rfl (by decide) (by decide) ?_
  refine Ev_iconst (v := 1) dX11_close_30 (by decide) ?_
  refine Ev_iret dX11_close_31 rfl rfl ?_
  exact k

set_option maxHeartbeats 4000000 in
set_option maxRecDepth 100000 in
theorem c_X11_close1_same {d : Nat} {S : aS} {Q : Option Value → aS → Prop} {lf : Int32} (hO : S[0]? = some (co lf)) {pl n q : Nat} {du lw fr : Int32} (hp7 : pl ≤ 7) (hn9 : n ≤ 9) (hq : q ≤ 8) (hN : S[10]? = some (nt (nI pl) (nI n) du lw fr (nI q))) {cs : Nat} {G : Nat → Nat → Nat} (hg : GD pl n G) {sa : Nat → Option Nat} {ad : Nat → Nat} (hA : S[11]? = some (rA 4 9 sa)) (hsa : ∀ j, j < n → sa j = some (ad j)) {fz : Int} (hC : CN S n G cs fz ad) {j : Nat} (hj : j < n) (hb : cs.testBit j = true) (k : Q (some (.int 0)) S) : Mth mX11_close (d + 2) 0 [.ref 0, .int (nI j), .int 1] S Q := by
  have had := (hC j hj).2.1
  have hjG := hg.2.2 j hj
  refine Mth_of (by decide) rfl ?_
  refine Ev_aload_n dX11_close_0 rfl ?_
  refine Ev_get dX11_close_1 fg_X11_21_11 hO rfl ?_
  refine Ev_iload_n dX11_close_4 rfl ?_
  refine Ev_callV (bc := 0) (b := 0) dX11_close_5 cv_X11_99 rfl hN (Nat.le_of_ble_eq_true rfl) (by omega) ?_
  refine c_X2_stretchAt hp7 hn9 hq hN hA hsa (j := j) hj ?_
  refine Ev_astore_n dX11_close_8 rfl ?_
  refine Ev_aload_n dX11_close_9 rfl ?_
  refine Ev_ifnonnull dX11_close_10 ?_
  refine Ev_aload_n dX11_close_15 rfl ?_
  refine Ev_get dX11_close_16 (fg3_X11_126 (kc3 _)) (hC _ hj).1 rfl ?_
  refine Ev_iload_n dX11_close_19 rfl ?_
  refine Ev_icmp_ne dX11_close_20 (fun c => absurd (by rw [hb]; decide) c) (fun _ => ?_)
  refine Ev_iconst (v := 0) dX11_close_23 (by decide) ?_
  refine Ev_iret dX11_close_24 rfl rfl ?_
  exact k

set_option maxHeartbeats 4000000 in
set_option maxRecDepth 100000 in
theorem c_X11_close1 {d : Nat} {S : aS} {Q : Option Value → aS → Prop} {lf : Int32} (hO : S[0]? = some (co lf)) {pl n q : Nat} {du lw fr : Int32} (hp7 : pl ≤ 7) (hn9 : n ≤ 9) (hq : q ≤ 8) (hN : S[10]? = some (nt (nI pl) (nI n) du lw fr (nI q))) {cs : Nat} {G : Nat → Nat → Nat} (hg : GD pl n G) {sa : Nat → Option Nat} {ad : Nat → Nat} (hA : S[11]? = some (rA 4 9 sa)) (hsa : ∀ j, j < n → sa j = some (ad j)) {fz : Int} (hC : CN S n G cs fz ad) {j : Nat} (hj : j < n) (hb : ¬ cs.testBit j = true) (k : Q (some (.int 1)) (S.set (ad j) (.inr (kc (G 0 j), [.int (nI j), .int (nI (G 1 j)), .int (nI (G 2 j)), .int (nI (G 3 j)), .int (nI (G 4 j)), .int (nI (G 5 j)), .int (nI (tk G fz j)), .int (nI (tn G fz j)), .int 1])))) : Mth mX11_close (d + 2) 0 [.ref 0, .int (nI j), .int 1] S Q := by
  have had := (hC j hj).2.1
  have hjG := hg.2.2 j hj
  have hb2 : cs.testBit j = false := by simpa using hb
  refine Mth_of (by decide) rfl ?_
  refine Ev_aload_n dX11_close_0 rfl ?_
  refine Ev_get dX11_close_1 fg_X11_21_11 hO rfl ?_
  refine Ev_iload_n dX11_close_4 rfl ?_
  refine Ev_callV (bc := 0) (b := 0) dX11_close_5 cv_X11_99 rfl hN (Nat.le_of_ble_eq_true rfl) (by omega) ?_
  refine c_X2_stretchAt hp7 hn9 hq hN hA hsa (j := j) hj ?_
  refine Ev_astore_n dX11_close_8 rfl ?_
  refine Ev_aload_n dX11_close_9 rfl ?_
  refine Ev_ifnonnull dX11_close_10 ?_
  refine Ev_aload_n dX11_close_15 rfl ?_
  refine Ev_get dX11_close_16 (fg3_X11_126 (kc3 _)) (hC _ hj).1 rfl ?_
  refine Ev_iload_n dX11_close_19 rfl ?_
  refine Ev_icmp_ne dX11_close_20 (fun _ => ?_) (fun c => absurd c (by rw [hb2]; decide))
  refine Ev_aload_n dX11_close_25 rfl ?_
  refine Ev_iload_n dX11_close_26 rfl ?_
  refine Ev_put dX11_close_27 (fr3_X11_126 (kc3 _)) (hC _ hj).1 rfl (by decide) (by decide) ?_
  refine Ev_iconst (v := 1) dX11_close_30 (by decide) ?_
  refine Ev_iret dX11_close_31 rfl rfl ?_
  exact k

set_option maxHeartbeats 4000000 in
set_option maxRecDepth 100000 in
theorem c_X11_reading0_full {d : Nat} {S : aS} {Q : Option Value → aS → Prop} {lf : Int32} (hO : S[0]? = some (co lf)) {pl n q : Nat} {du lw fr : Int32} (hp7 : pl ≤ 7) (hn9 : n ≤ 9) (hq : q ≤ 8) (hN : S[10]? = some (nt (nI pl) (nI n) du lw fr (nI q))) {sa : Nat → Option Nat} {ad : Nat → Nat} (hA : S[11]? = some (rA 4 9 sa)) (hsa : ∀ j, j < n → sa j = some (ad j)) {j : Nat} (hj : j < n) (hf : q = 8) (k : Q (some (.int (-4))) S) : Mth mX11_reading (d + 2) 0 [.ref 0, .int (nI j), .int 0] S Q := by
  refine Mth_of (by decide) rfl ?_
  refine Ev_aload_n dX11_reading_0 rfl ?_
  refine Ev_get dX11_reading_1 fg_X11_21_11 hO rfl ?_
  refine Ev_iload_n dX11_reading_4 rfl ?_
  refine Ev_callV (bc := 0) (b := 0) dX11_reading_5 cv_X11_99 rfl hN (Nat.le_of_ble_eq_true rfl) (by omega) ?_
  refine c_X2_stretchAt hp7 hn9 hq hN hA hsa (j := j) hj ?_
  refine Ev_ifnonnull dX11_reading_8 ?_
  refine Ev_aload_n dX11_reading_13 rfl ?_
  refine Ev_get dX11_reading_14 fg_X11_21_11 hO rfl ?_
  refine Ev_get dX11_reading_17 fg_X11_211_2 hN rfl ?_
  refine Ev_bipush (v := 8) dX11_reading_20 (by decide) ?_
  refine Ev_icmp_lt dX11_reading_22 (fun c => absurd c (by rw [hf]; decide)) (fun _ => ?_)
  refine Ev_bipush (v := (-4)) dX11_reading_25 (by decide) ?_
  refine Ev_iret dX11_reading_27 rfl rfl ?_
  exact k

set_option maxHeartbeats 4000000 in
set_option maxRecDepth 100000 in
theorem c_X11_reading0 {d : Nat} {S : aS} {Q : Option Value → aS → Prop} {lf : Int32} (hO : S[0]? = some (co lf)) {pl n q : Nat} {du lw fr : Int32} (hp7 : pl ≤ 7) (hn9 : n ≤ 9) (hq : q ≤ 8) (hN : S[10]? = some (nt (nI pl) (nI n) du lw fr (nI q))) {sa : Nat → Option Nat} {ad : Nat → Nat} (hA : S[11]? = some (rA 4 9 sa)) (hsa : ∀ j, j < n → sa j = some (ad j)) {fo fw : Nat → Int32} (ho : S[12]? = some (iA 8 fo)) (hw : S[13]? = some (zA 8 fw)) {j : Nat} (hj : j < n) (hf : q < 8) (k : Q (some (.int (nI q))) (((S.set 12 (iA 8 (upd fo q (nI j)))).set 13 (zA 8 (upd fw q 0))).set 10 (nt (nI pl) (nI n) du lw fr (nI (q + 1))))) : Mth mX11_reading (d + 2) 0 [.ref 0, .int (nI j), .int 0] S Q := by
  refine Mth_of (by decide) rfl ?_
  refine Ev_aload_n dX11_reading_0 rfl ?_
  refine Ev_get dX11_reading_1 fg_X11_21_11 hO rfl ?_
  refine Ev_iload_n dX11_reading_4 rfl ?_
  refine Ev_callV (bc := 0) (b := 0) dX11_reading_5 cv_X11_99 rfl hN (Nat.le_of_ble_eq_true rfl) (by omega) ?_
  refine c_X2_stretchAt hp7 hn9 hq hN hA hsa (j := j) hj ?_
  refine Ev_ifnonnull dX11_reading_8 ?_
  refine Ev_aload_n dX11_reading_13 rfl ?_
  refine Ev_get dX11_reading_14 fg_X11_21_11 hO rfl ?_
  refine Ev_get dX11_reading_17 fg_X11_211_2 hN rfl ?_
  refine Ev_bipush (v := 8) dX11_reading_20 (by decide) ?_
  refine Ev_icmp_lt dX11_reading_22 (fun _ => ?_) (fun c => absurd ((nlt (b := 8) (by omega) (by decide)).mpr hf) c)
  refine Ev_aload_n dX11_reading_28 rfl ?_
  refine Ev_get dX11_reading_29 fg_X11_21_11 hO rfl ?_
  refine Ev_iload_n dX11_reading_32 rfl ?_
  refine Ev_iload_n dX11_reading_33 rfl ?_
  refine Ev_callV (bc := 0) (b := 0) dX11_reading_34 cv_X11_214 rfl hN (Nat.le_of_ble_eq_true rfl) (by omega) ?_
  refine c_X2_addReading0 hp7 hn9 hq hN ho hw hf ?_
  refine Ev_iret dX11_reading_37 rfl rfl ?_
  exact k

set_option maxHeartbeats 4000000 in
set_option maxRecDepth 100000 in
theorem c_X11_reading1_full {d : Nat} {S : aS} {Q : Option Value → aS → Prop} {lf : Int32} (hO : S[0]? = some (co lf)) {pl n q : Nat} {du lw fr : Int32} (hp7 : pl ≤ 7) (hn9 : n ≤ 9) (hq : q ≤ 8) (hN : S[10]? = some (nt (nI pl) (nI n) du lw fr (nI q))) {sa : Nat → Option Nat} {ad : Nat → Nat} (hA : S[11]? = some (rA 4 9 sa)) (hsa : ∀ j, j < n → sa j = some (ad j)) {j : Nat} (hj : j < n) (hf : q = 8) (k : Q (some (.int (-4))) S) : Mth mX11_reading (d + 2) 0 [.ref 0, .int (nI j), .int 1] S Q := by
  refine Mth_of (by decide) rfl ?_
  refine Ev_aload_n dX11_reading_0 rfl ?_
  refine Ev_get dX11_reading_1 fg_X11_21_11 hO rfl ?_
  refine Ev_iload_n dX11_reading_4 rfl ?_
  refine Ev_callV (bc := 0) (b := 0) dX11_reading_5 cv_X11_99 rfl hN (Nat.le_of_ble_eq_true rfl) (by omega) ?_
  refine c_X2_stretchAt hp7 hn9 hq hN hA hsa (j := j) hj ?_
  refine Ev_ifnonnull dX11_reading_8 ?_
  refine Ev_aload_n dX11_reading_13 rfl ?_
  refine Ev_get dX11_reading_14 fg_X11_21_11 hO rfl ?_
  refine Ev_get dX11_reading_17 fg_X11_211_2 hN rfl ?_
  refine Ev_bipush (v := 8) dX11_reading_20 (by decide) ?_
  refine Ev_icmp_lt dX11_reading_22 (fun c => absurd c (by rw [hf]; decide)) (fun _ => ?_)
  refine Ev_bipush (v := (-4)) dX11_reading_25 (by decide) ?_
  refine Ev_iret dX11_reading_27 rfl rfl ?_
  exact k

set_option maxHeartbeats 4000000 in
set_option maxRecDepth 100000 in
theorem c_X11_reading1 {d : Nat} {S : aS} {Q : Option Value → aS → Prop} {lf : Int32} (hO : S[0]? = some (co lf)) {pl n q : Nat} {du lw fr : Int32} (hp7 : pl ≤ 7) (hn9 : n ≤ 9) (hq : q ≤ 8) (hN : S[10]? = some (nt (nI pl) (nI n) du lw fr (nI q))) {sa : Nat → Option Nat} {ad : Nat → Nat} (hA : S[11]? = some (rA 4 9 sa)) (hsa : ∀ j, j < n → sa j = some (ad j)) {fo fw : Nat → Int32} (ho : S[12]? = some (iA 8 fo)) (hw : S[13]? = some (zA 8 fw)) {j : Nat} (hj : j < n) (hf : q < 8) (k : Q (some (.int (nI q))) (((S.set 12 (iA 8 (upd fo q (nI j)))).set 13 (zA 8 (upd fw q 1))).set 10 (nt (nI pl) (nI n) du lw fr (nI (q + 1))))) : Mth mX11_reading (d + 2) 0 [.ref 0, .int (nI j), .int 1] S Q := by
  refine Mth_of (by decide) rfl ?_
  refine Ev_aload_n dX11_reading_0 rfl ?_
  refine Ev_get dX11_reading_1 fg_X11_21_11 hO rfl ?_
  refine Ev_iload_n dX11_reading_4 rfl ?_
  refine Ev_callV (bc := 0) (b := 0) dX11_reading_5 cv_X11_99 rfl hN (Nat.le_of_ble_eq_true rfl) (by omega) ?_
  refine c_X2_stretchAt hp7 hn9 hq hN hA hsa (j := j) hj ?_
  refine Ev_ifnonnull dX11_reading_8 ?_
  refine Ev_aload_n dX11_reading_13 rfl ?_
  refine Ev_get dX11_reading_14 fg_X11_21_11 hO rfl ?_
  refine Ev_get dX11_reading_17 fg_X11_211_2 hN rfl ?_
  refine Ev_bipush (v := 8) dX11_reading_20 (by decide) ?_
  refine Ev_icmp_lt dX11_reading_22 (fun _ => ?_) (fun c => absurd ((nlt (b := 8) (by omega) (by decide)).mpr hf) c)
  refine Ev_aload_n dX11_reading_28 rfl ?_
  refine Ev_get dX11_reading_29 fg_X11_21_11 hO rfl ?_
  refine Ev_iload_n dX11_reading_32 rfl ?_
  refine Ev_iload_n dX11_reading_33 rfl ?_
  refine Ev_callV (bc := 0) (b := 0) dX11_reading_34 cv_X11_214 rfl hN (Nat.le_of_ble_eq_true rfl) (by omega) ?_
  refine c_X2_addReading1 hp7 hn9 hq hN ho hw hf ?_
  refine Ev_iret dX11_reading_37 rfl rfl ?_
  exact k

set_option maxHeartbeats 4000000 in
set_option maxRecDepth 100000 in
theorem c_X11_back_bad {d : Nat} {S : aS} {Q : Option Value → aS → Prop} {lf : Int32} (hO : S[0]? = some (co lf)) {pl n q : Nat} {du lw fr : Int32} (hp7 : pl ≤ 7) (hn9 : n ≤ 9) (hq : q ≤ 8) (hN : S[10]? = some (nt (nI pl) (nI n) du lw fr (nI q))) {x : Int32} (hx : ¬ (0 ≤ x.toInt ∧ x.toInt ≤ q)) (k : Q (some (.int (-2))) S) : Mth mX11_back (d + 1) 0 [.ref 0, .int x] S Q := by
  refine Mth_of (by decide) rfl ?_
  refine Ev_iload_n dX11_back_0 rfl ?_
  refine Ev_iconst (v := 0) dX11_back_1 (by decide) ?_
  refine Ev_aload_n dX11_back_2 rfl ?_
  refine Ev_get dX11_back_3 fg_X11_21_11 hO rfl ?_
  refine Ev_get dX11_back_6 fg_X11_211_2 hN rfl ?_
  refine Ev_callS (bc := 0) (b := 0) dX11_back_9 cs_X11_72 rfl (Nat.le_of_ble_eq_true rfl) (by omega) ?_
  refine c_X11_isWithin (fun q => absurd q (by rw [nIt (by omega), z32_0]; exact hx)) (fun _ => ?_)
  refine Ev_if_ne dX11_back_12 (fun c => absurd (by decide) c) (fun _ => ?_)
  refine Ev_bipush (v := (-2)) dX11_back_15 (by decide) ?_
  refine Ev_iret dX11_back_17 rfl rfl ?_
  exact k

set_option maxHeartbeats 4000000 in
set_option maxRecDepth 100000 in
theorem c_X11_back {d : Nat} {S : aS} {Q : Option Value → aS → Prop} {lf : Int32} (hO : S[0]? = some (co lf)) {pl n q : Nat} {du lw fr : Int32} (hp7 : pl ≤ 7) (hn9 : n ≤ 9) (hq : q ≤ 8) (hN : S[10]? = some (nt (nI pl) (nI n) du lw fr (nI q))) {y : Nat} (hy : y ≤ q) (k : Q (some (.int (nI (q - y)))) (S.set 10 (nt (nI pl) (nI n) du lw fr (nI (q - y))))) : Mth mX11_back (d + 1) 0 [.ref 0, .int (nI y)] S Q := by
  refine Mth_of (by decide) rfl ?_
  refine Ev_iload_n dX11_back_0 rfl ?_
  refine Ev_iconst (v := 0) dX11_back_1 (by decide) ?_
  refine Ev_aload_n dX11_back_2 rfl ?_
  refine Ev_get dX11_back_3 fg_X11_21_11 hO rfl ?_
  refine Ev_get dX11_back_6 fg_X11_211_2 hN rfl ?_
  refine Ev_callS (bc := 0) (b := 0) dX11_back_9 cs_X11_72 rfl (Nat.le_of_ble_eq_true rfl) (by omega) ?_
  refine c_X11_isWithin (fun _ => ?_) (fun q => absurd q (not_not_intro (by rw [nIt (by omega), nIt (by omega), z32_0]; omega)))
  refine Ev_if_ne dX11_back_12 (fun _ => ?_) (fun c => absurd c (by decide))
  refine Ev_aload_n dX11_back_18 rfl ?_
  refine Ev_get dX11_back_19 fg_X11_21_11 hO rfl ?_
  refine Ev_dup dX11_back_22 rfl ?_
  refine Ev_get dX11_back_23 fg_X11_211_2 hN rfl ?_
  refine Ev_iload_n dX11_back_26 rfl ?_
  refine Ev_isub dX11_back_27 ?_
  refine Ev_topi (y := nI (q - y)) (nsub hy) ?_
  refine Ev_put dX11_back_28 fr_X11_211_2 hN rfl rfl rfl ?_
  refine Ev_aload_n dX11_back_31 rfl ?_
  refine Ev_get dX11_back_32 fg_X11_21_11 (gn (by decide) hO) rfl ?_
  refine Ev_get dX11_back_35 fg_X11_211_2 (gs hN) rfl ?_
  refine Ev_iret dX11_back_38 rfl rfl ?_
  exact k

set_option maxHeartbeats 4000000 in
set_option maxRecDepth 100000 in
theorem c_X11_tell0 {d : Nat} {S : aS} {Q : Option Value → aS → Prop} {lf : Int32} (hO : S[0]? = some (co lf)) {pl n q : Nat} {du lw fr : Int32} (hp7 : pl ≤ 7) (hn9 : n ≤ 9) (hq : q ≤ 8) (hN : S[10]? = some (nt (nI pl) (nI n) du lw fr (nI q))) {cs : Nat} {G : Nat → Nat → Nat} (hg : GD pl n G) {sa : Nat → Option Nat} {ad : Nat → Nat} (hA : S[11]? = some (rA 4 9 sa)) (hsa : ∀ j, j < n → sa j = some (ad j)) {fz : Int} (hC : CN S n G cs fz ad) {j : Nat} (hj : j < n) {tr : Int32} (hT : S[30]? = some (.inr (9, [.int tr]))) (hk : G 0 j = 0) (k : Q (some (.int (nI (G 3 j)))) (S.set 30 (.inr (9, [.int (31 * tr + 1)])))) : Mth mX11_tell (d + 5) 0 [.ref 0, .int (nI j)] S Q := by
  have had := (hC j hj).2.1
  have hjG := hg.2.2 j hj
  have hSj : S[ad j]? = some (.inr (7, [.int (nI j), .int (nI (G 1 j)), .int (nI (G 2 j)), .int (nI (G 3 j)), .int (nI (G 4 j)), .int (nI (G 5 j)), .int (nI (tk G fz j)), .int (nI (tn G fz j)), .int (bz (cs.testBit j))])) := by have h := (hC j hj).1; simp only [stc, kc_0 hk] at h; exact h
  refine Mth_of (by decide) rfl ?_
  refine Ev_aload_n dX11_tell_0 rfl ?_
  refine Ev_get dX11_tell_1 fg_X11_21_11 hO rfl ?_
  refine Ev_iload_n dX11_tell_4 rfl ?_
  refine Ev_callV (bc := 0) (b := 0) dX11_tell_5 cv_X11_99 rfl hN (Nat.le_of_ble_eq_true rfl) (by omega) ?_
  refine c_X2_stretchAt hp7 hn9 hq hN hA hsa (j := j) hj ?_
  refine Ev_astore_n dX11_tell_8 rfl ?_
  refine Ev_aload_n dX11_tell_9 rfl ?_
  refine Ev_ifnonnull dX11_tell_10 ?_
  refine Ev_aload_n dX11_tell_17 rfl ?_
  refine Ev_aload_n dX11_tell_18 rfl ?_
  refine Ev_get dX11_tell_19 fg_X11_56_11 hO rfl ?_
  refine Ev_callO (bc := 0) (b := 0) dX11_tell_22 co_X11_263_7 rfl hSj (Nat.le_of_ble_eq_true rfl) (by omega) ?_
  refine c_X7_toldWith hT hSj (Or.inl rfl) (by omega) ?_
  refine Ev_iret dX11_tell_25 rfl rfl ?_
  exact k

set_option maxHeartbeats 4000000 in
set_option maxRecDepth 100000 in
theorem c_X11_tell1 {d : Nat} {S : aS} {Q : Option Value → aS → Prop} {lf : Int32} (hO : S[0]? = some (co lf)) {pl n q : Nat} {du lw fr : Int32} (hp7 : pl ≤ 7) (hn9 : n ≤ 9) (hq : q ≤ 8) (hN : S[10]? = some (nt (nI pl) (nI n) du lw fr (nI q))) {cs : Nat} {G : Nat → Nat → Nat} (hg : GD pl n G) {sa : Nat → Option Nat} {ad : Nat → Nat} (hA : S[11]? = some (rA 4 9 sa)) (hsa : ∀ j, j < n → sa j = some (ad j)) {fz : Int} (hC : CN S n G cs fz ad) {j : Nat} (hj : j < n) {tr : Int32} (hT : S[30]? = some (.inr (9, [.int tr]))) (hk : G 0 j = 1) (k : Q (some (.int (nI (G 3 j + 100)))) (S.set 30 (.inr (9, [.int (31 * (31 * tr + 2) + 1)])))) : Mth mX11_tell (d + 5) 0 [.ref 0, .int (nI j)] S Q := by
  have had := (hC j hj).2.1
  have hjG := hg.2.2 j hj
  have hSj : S[ad j]? = some (.inr (1, [.int (nI j), .int (nI (G 1 j)), .int (nI (G 2 j)), .int (nI (G 3 j)), .int (nI (G 4 j)), .int (nI (G 5 j)), .int (nI (tk G fz j)), .int (nI (tn G fz j)), .int (bz (cs.testBit j))])) := by have h := (hC j hj).1; simp only [stc, kc_1 hk] at h; exact h
  refine Mth_of (by decide) rfl ?_
  refine Ev_aload_n dX11_tell_0 rfl ?_
  refine Ev_get dX11_tell_1 fg_X11_21_11 hO rfl ?_
  refine Ev_iload_n dX11_tell_4 rfl ?_
  refine Ev_callV (bc := 0) (b := 0) dX11_tell_5 cv_X11_99 rfl hN (Nat.le_of_ble_eq_true rfl) (by omega) ?_
  refine c_X2_stretchAt hp7 hn9 hq hN hA hsa (j := j) hj ?_
  refine Ev_astore_n dX11_tell_8 rfl ?_
  refine Ev_aload_n dX11_tell_9 rfl ?_
  refine Ev_ifnonnull dX11_tell_10 ?_
  refine Ev_aload_n dX11_tell_17 rfl ?_
  refine Ev_aload_n dX11_tell_18 rfl ?_
  refine Ev_get dX11_tell_19 fg_X11_56_11 hO rfl ?_
  refine Ev_callO (bc := 0) (b := 0) dX11_tell_22 co_X11_263_1 rfl hSj (Nat.le_of_ble_eq_true rfl) (by omega) ?_
  refine c_X1_toldWith1 hT hSj (by omega) ?_
  refine Ev_topi (y := nI (G 3 j + 100)) (nI_add _ 100) ?_
  refine Ev_iret dX11_tell_25 rfl rfl ?_
  exact k

set_option maxHeartbeats 4000000 in
set_option maxRecDepth 100000 in
theorem c_X11_tell2 {d : Nat} {S : aS} {Q : Option Value → aS → Prop} {lf : Int32} (hO : S[0]? = some (co lf)) {pl n q : Nat} {du lw fr : Int32} (hp7 : pl ≤ 7) (hn9 : n ≤ 9) (hq : q ≤ 8) (hN : S[10]? = some (nt (nI pl) (nI n) du lw fr (nI q))) {cs : Nat} {G : Nat → Nat → Nat} (hg : GD pl n G) {sa : Nat → Option Nat} {ad : Nat → Nat} (hA : S[11]? = some (rA 4 9 sa)) (hsa : ∀ j, j < n → sa j = some (ad j)) {fz : Int} (hC : CN S n G cs fz ad) {j : Nat} (hj : j < n) {tr : Int32} (hT : S[30]? = some (.inr (9, [.int tr]))) (hk : G 0 j = 2) (k : Q (some (.int (nI (2 * G 3 j + 100)))) (S.set 30 (.inr (9, [.int (31 * (31 * (31 * (31 * tr + 3) + 2) + 1) + 1)])))) : Mth mX11_tell (d + 5) 0 [.ref 0, .int (nI j)] S Q := by
  have had := (hC j hj).2.1
  have hjG := hg.2.2 j hj
  have hSj : S[ad j]? = some (.inr (6, [.int (nI j), .int (nI (G 1 j)), .int (nI (G 2 j)), .int (nI (G 3 j)), .int (nI (G 4 j)), .int (nI (G 5 j)), .int (nI (tk G fz j)), .int (nI (tn G fz j)), .int (bz (cs.testBit j))])) := by have h := (hC j hj).1; simp only [stc, kc_2 hk] at h; exact h
  refine Mth_of (by decide) rfl ?_
  refine Ev_aload_n dX11_tell_0 rfl ?_
  refine Ev_get dX11_tell_1 fg_X11_21_11 hO rfl ?_
  refine Ev_iload_n dX11_tell_4 rfl ?_
  refine Ev_callV (bc := 0) (b := 0) dX11_tell_5 cv_X11_99 rfl hN (Nat.le_of_ble_eq_true rfl) (by omega) ?_
  refine c_X2_stretchAt hp7 hn9 hq hN hA hsa (j := j) hj ?_
  refine Ev_astore_n dX11_tell_8 rfl ?_
  refine Ev_aload_n dX11_tell_9 rfl ?_
  refine Ev_ifnonnull dX11_tell_10 ?_
  refine Ev_aload_n dX11_tell_17 rfl ?_
  refine Ev_aload_n dX11_tell_18 rfl ?_
  refine Ev_get dX11_tell_19 fg_X11_56_11 hO rfl ?_
  refine Ev_callO (bc := 0) (b := 0) dX11_tell_22 co_X11_263_6 rfl hSj (Nat.le_of_ble_eq_true rfl) (by omega) ?_
  refine c_X6_toldWith hT hSj (by omega) ?_
  refine Ev_topi (y := nI (2 * G 3 j + 100)) (by rw [show (100 : Int32) = nI 100 from rfl, nI_add, nI_add]; congr 1; omega) ?_
  refine Ev_iret dX11_tell_25 rfl rfl ?_
  exact k

set_option maxHeartbeats 4000000 in
set_option maxRecDepth 100000 in
theorem c_X11_sing0 {d : Nat} {S : aS} {Q : Option Value → aS → Prop} {lf : Int32} (hO : S[0]? = some (co lf)) {pl n q : Nat} {du lw fr : Int32} (hp7 : pl ≤ 7) (hn9 : n ≤ 9) (hq : q ≤ 8) (hN : S[10]? = some (nt (nI pl) (nI n) du lw fr (nI q))) {cs : Nat} {G : Nat → Nat → Nat} (hg : GD pl n G) {sa : Nat → Option Nat} {ad : Nat → Nat} (hA : S[11]? = some (rA 4 9 sa)) (hsa : ∀ j, j < n → sa j = some (ad j)) {fz : Int} (hC : CN S n G cs fz ad) {j : Nat} (hj : j < n) {tr : Int32} (hT : S[30]? = some (.inr (9, [.int tr]))) (hk : G 0 j = 0) (k : Q (some (.int (nI j))) (S.set 30 (.inr (9, [.int (31 * tr + 4)])))) : Mth mX11_sing (d + 5) 0 [.ref 0, .int (nI j)] S Q := by
  have had := (hC j hj).2.1
  have hjG := hg.2.2 j hj
  have hSj : S[ad j]? = some (.inr (7, [.int (nI j), .int (nI (G 1 j)), .int (nI (G 2 j)), .int (nI (G 3 j)), .int (nI (G 4 j)), .int (nI (G 5 j)), .int (nI (tk G fz j)), .int (nI (tn G fz j)), .int (bz (cs.testBit j))])) := by have h := (hC j hj).1; simp only [stc, kc_0 hk] at h; exact h
  refine Mth_of (by decide) rfl ?_
  refine Ev_aload_n dX11_sing_0 rfl ?_
  refine Ev_get dX11_sing_1 fg_X11_21_11 hO rfl ?_
  refine Ev_iload_n dX11_sing_4 rfl ?_
  refine Ev_callV (bc := 0) (b := 0) dX11_sing_5 cv_X11_99 rfl hN (Nat.le_of_ble_eq_true rfl) (by omega) ?_
  refine c_X2_stretchAt hp7 hn9 hq hN hA hsa (j := j) hj ?_
  refine Ev_astore_n dX11_sing_8 rfl ?_
  refine Ev_aload_n dX11_sing_9 rfl ?_
  refine Ev_ifnonnull dX11_sing_10 ?_
  refine Ev_aload_n dX11_sing_17 rfl ?_
  refine Ev_aload_n dX11_sing_18 rfl ?_
  refine Ev_get dX11_sing_19 fg_X11_56_11 hO rfl ?_
  refine Ev_callO (bc := 0) (b := 0) dX11_sing_22 co_X11_267_7 rfl hSj (Nat.le_of_ble_eq_true rfl) (by omega) ?_
  refine c_X7_sungWith7 hT hSj (by omega) ?_
  refine Ev_iret dX11_sing_25 rfl rfl ?_
  exact k

set_option maxHeartbeats 4000000 in
set_option maxRecDepth 100000 in
theorem c_X11_sing1 {d : Nat} {S : aS} {Q : Option Value → aS → Prop} {lf : Int32} (hO : S[0]? = some (co lf)) {pl n q : Nat} {du lw fr : Int32} (hp7 : pl ≤ 7) (hn9 : n ≤ 9) (hq : q ≤ 8) (hN : S[10]? = some (nt (nI pl) (nI n) du lw fr (nI q))) {cs : Nat} {G : Nat → Nat → Nat} (hg : GD pl n G) {sa : Nat → Option Nat} {ad : Nat → Nat} (hA : S[11]? = some (rA 4 9 sa)) (hsa : ∀ j, j < n → sa j = some (ad j)) {fz : Int} (hC : CN S n G cs fz ad) {j : Nat} (hj : j < n) {tr : Int32} (hT : S[30]? = some (.inr (9, [.int tr]))) (hk : G 0 j = 1) (k : Q (some (.int (nI j))) (S.set 30 (.inr (9, [.int (31 * tr + 4)])))) : Mth mX11_sing (d + 5) 0 [.ref 0, .int (nI j)] S Q := by
  have had := (hC j hj).2.1
  have hjG := hg.2.2 j hj
  have hSj : S[ad j]? = some (.inr (1, [.int (nI j), .int (nI (G 1 j)), .int (nI (G 2 j)), .int (nI (G 3 j)), .int (nI (G 4 j)), .int (nI (G 5 j)), .int (nI (tk G fz j)), .int (nI (tn G fz j)), .int (bz (cs.testBit j))])) := by have h := (hC j hj).1; simp only [stc, kc_1 hk] at h; exact h
  refine Mth_of (by decide) rfl ?_
  refine Ev_aload_n dX11_sing_0 rfl ?_
  refine Ev_get dX11_sing_1 fg_X11_21_11 hO rfl ?_
  refine Ev_iload_n dX11_sing_4 rfl ?_
  refine Ev_callV (bc := 0) (b := 0) dX11_sing_5 cv_X11_99 rfl hN (Nat.le_of_ble_eq_true rfl) (by omega) ?_
  refine c_X2_stretchAt hp7 hn9 hq hN hA hsa (j := j) hj ?_
  refine Ev_astore_n dX11_sing_8 rfl ?_
  refine Ev_aload_n dX11_sing_9 rfl ?_
  refine Ev_ifnonnull dX11_sing_10 ?_
  refine Ev_aload_n dX11_sing_17 rfl ?_
  refine Ev_aload_n dX11_sing_18 rfl ?_
  refine Ev_get dX11_sing_19 fg_X11_56_11 hO rfl ?_
  refine Ev_callO (bc := 0) (b := 0) dX11_sing_22 co_X11_267_1 rfl hSj (Nat.le_of_ble_eq_true rfl) (by omega) ?_
  refine c_X7_sungWith1 hT hSj (by omega) ?_
  refine Ev_iret dX11_sing_25 rfl rfl ?_
  exact k

set_option maxHeartbeats 4000000 in
set_option maxRecDepth 100000 in
theorem c_X11_sing2 {d : Nat} {S : aS} {Q : Option Value → aS → Prop} {lf : Int32} (hO : S[0]? = some (co lf)) {pl n q : Nat} {du lw fr : Int32} (hp7 : pl ≤ 7) (hn9 : n ≤ 9) (hq : q ≤ 8) (hN : S[10]? = some (nt (nI pl) (nI n) du lw fr (nI q))) {cs : Nat} {G : Nat → Nat → Nat} (hg : GD pl n G) {sa : Nat → Option Nat} {ad : Nat → Nat} (hA : S[11]? = some (rA 4 9 sa)) (hsa : ∀ j, j < n → sa j = some (ad j)) {fz : Int} (hC : CN S n G cs fz ad) {j : Nat} (hj : j < n) {tr : Int32} (hT : S[30]? = some (.inr (9, [.int tr]))) (hk : G 0 j = 2) (k : Q (some (.int (40))) (S.set 30 (.inr (9, [.int (31 * tr + 5)])))) : Mth mX11_sing (d + 5) 0 [.ref 0, .int (nI j)] S Q := by
  have had := (hC j hj).2.1
  have hjG := hg.2.2 j hj
  have hSj : S[ad j]? = some (.inr (6, [.int (nI j), .int (nI (G 1 j)), .int (nI (G 2 j)), .int (nI (G 3 j)), .int (nI (G 4 j)), .int (nI (G 5 j)), .int (nI (tk G fz j)), .int (nI (tn G fz j)), .int (bz (cs.testBit j))])) := by have h := (hC j hj).1; simp only [stc, kc_2 hk] at h; exact h
  refine Mth_of (by decide) rfl ?_
  refine Ev_aload_n dX11_sing_0 rfl ?_
  refine Ev_get dX11_sing_1 fg_X11_21_11 hO rfl ?_
  refine Ev_iload_n dX11_sing_4 rfl ?_
  refine Ev_callV (bc := 0) (b := 0) dX11_sing_5 cv_X11_99 rfl hN (Nat.le_of_ble_eq_true rfl) (by omega) ?_
  refine c_X2_stretchAt hp7 hn9 hq hN hA hsa (j := j) hj ?_
  refine Ev_astore_n dX11_sing_8 rfl ?_
  refine Ev_aload_n dX11_sing_9 rfl ?_
  refine Ev_ifnonnull dX11_sing_10 ?_
  refine Ev_aload_n dX11_sing_17 rfl ?_
  refine Ev_aload_n dX11_sing_18 rfl ?_
  refine Ev_get dX11_sing_19 fg_X11_56_11 hO rfl ?_
  refine Ev_callO (bc := 0) (b := 0) dX11_sing_22 co_X11_267_6 rfl hSj (Nat.le_of_ble_eq_true rfl) (by omega) ?_
  refine c_X6_sungWith hT hSj (by omega) ?_
  refine Ev_iret dX11_sing_25 rfl rfl ?_
  exact k

set_option maxHeartbeats 4000000 in
set_option maxRecDepth 100000 in
theorem c_X11_as0_out {d : Nat} {S : aS} {Q : Option Value → aS → Prop} {lf : Int32} (hO : S[0]? = some (co lf)) {pl n q : Nat} {du lw fr : Int32} (hp7 : pl ≤ 7) (hn9 : n ≤ 9) (hq : q ≤ 8) (hN : S[10]? = some (nt (nI pl) (nI n) du lw fr (nI q))) {cs : Nat} {G : Nat → Nat → Nat} (hg : GD pl n G) {sa : Nat → Option Nat} {ad : Nat → Nat} (hA : S[11]? = some (rA 4 9 sa)) (hsa : ∀ j, j < n → sa j = some (ad j)) {fz : Int} (hC : CN S n G cs fz ad) {j : Nat} (hj : j < n) (hk : G 0 j = 0) {w : Int32} (hw : ¬ (0 ≤ w.toInt ∧ w.toInt ≤ 2)) (k : Q (some (.int (-2))) (S.set 0 (co 0))) : Mth mX11_as (d + 2) 0 [.ref 0, .int (nI j), .int w] S Q := by
  have had := (hC j hj).2.1
  have hjG := hg.2.2 j hj
  have hSj : S[ad j]? = some (.inr (7, [.int (nI j), .int (nI (G 1 j)), .int (nI (G 2 j)), .int (nI (G 3 j)), .int (nI (G 4 j)), .int (nI (G 5 j)), .int (nI (tk G fz j)), .int (nI (tn G fz j)), .int (bz (cs.testBit j))])) := by have h := (hC j hj).1; simp only [stc, kc_0 hk] at h; exact h
  refine Mth_of (by decide) rfl ?_
  refine Ev_aload_n dX11_as_0 rfl ?_
  refine Ev_get dX11_as_1 fg_X11_21_11 hO rfl ?_
  refine Ev_iload_n dX11_as_4 rfl ?_
  refine Ev_callV (bc := 0) (b := 0) dX11_as_5 cv_X11_99 rfl hN (Nat.le_of_ble_eq_true rfl) (by omega) ?_
  refine c_X2_stretchAt hp7 hn9 hq hN hA hsa (j := j) hj ?_
  refine Ev_astore_n dX11_as_8 rfl ?_
  refine Ev_aload_n dX11_as_9 rfl ?_
  refine Ev_ifnonnull dX11_as_10 ?_
  refine Ev_iload_n dX11_as_19 rfl ?_
  refine Ev_iconst (v := 0) dX11_as_20 (by decide) ?_
  refine Ev_iconst (v := 2) dX11_as_21 (by decide) ?_
  refine Ev_callS (bc := 0) (b := 0) dX11_as_22 cs_X11_72 rfl (Nat.le_of_ble_eq_true rfl) (by omega) ?_
  refine c_X11_isWithin (fun q => absurd q hw) (fun _ => ?_)
  refine Ev_if_ne dX11_as_25 (fun c => absurd (by decide) c) (fun _ => ?_)
  refine Ev_aload_n dX11_as_28 rfl ?_
  refine Ev_bipush (v := (-2)) dX11_as_29 (by decide) ?_
  refine Ev_callV (bc := 0) (b := 0) dX11_as_31 cv_X11_68 rfl hO (Nat.le_of_ble_eq_true rfl) (by omega) ?_
  refine c_X11_refused hO ?_
  refine Ev_iret dX11_as_34 rfl rfl ?_
  exact k

set_option maxHeartbeats 4000000 in
set_option maxRecDepth 100000 in
theorem c_X11_as0_0 {d : Nat} {S : aS} {Q : Option Value → aS → Prop} {lf : Int32} (hO : S[0]? = some (co lf)) {pl n q : Nat} {du lw fr : Int32} (hp7 : pl ≤ 7) (hn9 : n ≤ 9) (hq : q ≤ 8) (hN : S[10]? = some (nt (nI pl) (nI n) du lw fr (nI q))) {cs : Nat} {G : Nat → Nat → Nat} (hg : GD pl n G) {sa : Nat → Option Nat} {ad : Nat → Nat} (hA : S[11]? = some (rA 4 9 sa)) (hsa : ∀ j, j < n → sa j = some (ad j)) {fz : Int} (hC : CN S n G cs fz ad) {j : Nat} (hj : j < n) (hk : G 0 j = 0) (k : Q (some (.int 1)) (S.set 0 (co 0))) : Mth mX11_as (d + 2) 0 [.ref 0, .int (nI j), .int 0] S Q := by
  have had := (hC j hj).2.1
  have hjG := hg.2.2 j hj
  have hSj : S[ad j]? = some (.inr (7, [.int (nI j), .int (nI (G 1 j)), .int (nI (G 2 j)), .int (nI (G 3 j)), .int (nI (G 4 j)), .int (nI (G 5 j)), .int (nI (tk G fz j)), .int (nI (tn G fz j)), .int (bz (cs.testBit j))])) := by have h := (hC j hj).1; simp only [stc, kc_0 hk] at h; exact h
  refine Mth_of (by decide) rfl ?_
  refine Ev_aload_n dX11_as_0 rfl ?_
  refine Ev_get dX11_as_1 fg_X11_21_11 hO rfl ?_
  refine Ev_iload_n dX11_as_4 rfl ?_
  refine Ev_callV (bc := 0) (b := 0) dX11_as_5 cv_X11_99 rfl hN (Nat.le_of_ble_eq_true rfl) (by omega) ?_
  refine c_X2_stretchAt hp7 hn9 hq hN hA hsa (j := j) hj ?_
  refine Ev_astore_n dX11_as_8 rfl ?_
  refine Ev_aload_n dX11_as_9 rfl ?_
  refine Ev_ifnonnull dX11_as_10 ?_
  refine Ev_iload_n dX11_as_19 rfl ?_
  refine Ev_iconst (v := 0) dX11_as_20 (by decide) ?_
  refine Ev_iconst (v := 2) dX11_as_21 (by decide) ?_
  refine Ev_callS (bc := 0) (b := 0) dX11_as_22 cs_X11_72 rfl (Nat.le_of_ble_eq_true rfl) (by omega) ?_
  refine c_X11_isWithin (fun _ => ?_) (fun q => absurd q (not_not_intro (by decide)))
  refine Ev_if_ne dX11_as_25 (fun _ => ?_) (fun c => absurd c (by decide))
  refine Ev_iload_n dX11_as_35 rfl ?_
  refine Ev_iconst (v := 1) dX11_as_36 (by decide) ?_
  refine Ev_icmp_ne dX11_as_37 (fun _ => ?_) (fun c => absurd c (by decide))
  refine Ev_iload_n dX11_as_47 rfl ?_
  refine Ev_iconst (v := 2) dX11_as_48 (by decide) ?_
  refine Ev_icmp_ne dX11_as_49 (fun _ => ?_) (fun c => absurd c (by decide))
  refine Ev_aload_n dX11_as_65 rfl ?_
  refine Ev_iconst (v := 0) dX11_as_66 (by decide) ?_
  refine Ev_put dX11_as_67 fr_X11_60_11 hO rfl rfl rfl ?_
  refine Ev_iconst (v := 1) dX11_as_70 (by decide) ?_
  refine Ev_iret dX11_as_71 rfl rfl ?_
  exact k

set_option maxHeartbeats 4000000 in
set_option maxRecDepth 100000 in
theorem c_X11_as0_1 {d : Nat} {S : aS} {Q : Option Value → aS → Prop} {lf : Int32} (hO : S[0]? = some (co lf)) {pl n q : Nat} {du lw fr : Int32} (hp7 : pl ≤ 7) (hn9 : n ≤ 9) (hq : q ≤ 8) (hN : S[10]? = some (nt (nI pl) (nI n) du lw fr (nI q))) {cs : Nat} {G : Nat → Nat → Nat} (hg : GD pl n G) {sa : Nat → Option Nat} {ad : Nat → Nat} (hA : S[11]? = some (rA 4 9 sa)) (hsa : ∀ j, j < n → sa j = some (ad j)) {fz : Int} (hC : CN S n G cs fz ad) {j : Nat} (hj : j < n) (hk : G 0 j = 0) (k : Q (some (.int (-12))) (S.set 0 (co 2))) : Mth mX11_as (d + 2) 0 [.ref 0, .int (nI j), .int 1] S Q := by
  have had := (hC j hj).2.1
  have hjG := hg.2.2 j hj
  have hSj : S[ad j]? = some (.inr (7, [.int (nI j), .int (nI (G 1 j)), .int (nI (G 2 j)), .int (nI (G 3 j)), .int (nI (G 4 j)), .int (nI (G 5 j)), .int (nI (tk G fz j)), .int (nI (tn G fz j)), .int (bz (cs.testBit j))])) := by have h := (hC j hj).1; simp only [stc, kc_0 hk] at h; exact h
  refine Mth_of (by decide) rfl ?_
  refine Ev_aload_n dX11_as_0 rfl ?_
  refine Ev_get dX11_as_1 fg_X11_21_11 hO rfl ?_
  refine Ev_iload_n dX11_as_4 rfl ?_
  refine Ev_callV (bc := 0) (b := 0) dX11_as_5 cv_X11_99 rfl hN (Nat.le_of_ble_eq_true rfl) (by omega) ?_
  refine c_X2_stretchAt hp7 hn9 hq hN hA hsa (j := j) hj ?_
  refine Ev_astore_n dX11_as_8 rfl ?_
  refine Ev_aload_n dX11_as_9 rfl ?_
  refine Ev_ifnonnull dX11_as_10 ?_
  refine Ev_iload_n dX11_as_19 rfl ?_
  refine Ev_iconst (v := 0) dX11_as_20 (by decide) ?_
  refine Ev_iconst (v := 2) dX11_as_21 (by decide) ?_
  refine Ev_callS (bc := 0) (b := 0) dX11_as_22 cs_X11_72 rfl (Nat.le_of_ble_eq_true rfl) (by omega) ?_
  refine c_X11_isWithin (fun _ => ?_) (fun q => absurd q (not_not_intro (by decide)))
  refine Ev_if_ne dX11_as_25 (fun _ => ?_) (fun c => absurd c (by decide))
  refine Ev_iload_n dX11_as_35 rfl ?_
  refine Ev_iconst (v := 1) dX11_as_36 (by decide) ?_
  refine Ev_icmp_ne dX11_as_37 (fun c => absurd (by decide) c) (fun _ => ?_)
  refine Ev_aload_n dX11_as_40 rfl ?_
  refine Ev_inst dX11_as_41 ir_X11_270_7 hSj ?_
  refine Ev_if_eq dX11_as_44 (fun _ => ?_) (fun c => absurd (by decide) c)
  refine Ev_aload_n dX11_as_59 rfl ?_
  refine Ev_iconst (v := 2) dX11_as_60 (by decide) ?_
  refine Ev_callV (bc := 0) (b := 0) dX11_as_61 cv_X11_80 rfl hO (Nat.le_of_ble_eq_true rfl) (by omega) ?_
  refine c_X11_failed hO ?_
  refine Ev_topi (y := (-12)) (by decide) ?_
  refine Ev_iret dX11_as_64 rfl rfl ?_
  exact k

set_option maxHeartbeats 4000000 in
set_option maxRecDepth 100000 in
theorem c_X11_as0_2 {d : Nat} {S : aS} {Q : Option Value → aS → Prop} {lf : Int32} (hO : S[0]? = some (co lf)) {pl n q : Nat} {du lw fr : Int32} (hp7 : pl ≤ 7) (hn9 : n ≤ 9) (hq : q ≤ 8) (hN : S[10]? = some (nt (nI pl) (nI n) du lw fr (nI q))) {cs : Nat} {G : Nat → Nat → Nat} (hg : GD pl n G) {sa : Nat → Option Nat} {ad : Nat → Nat} (hA : S[11]? = some (rA 4 9 sa)) (hsa : ∀ j, j < n → sa j = some (ad j)) {fz : Int} (hC : CN S n G cs fz ad) {j : Nat} (hj : j < n) (hk : G 0 j = 0) (k : Q (some (.int (-12))) (S.set 0 (co 2))) : Mth mX11_as (d + 2) 0 [.ref 0, .int (nI j), .int 2] S Q := by
  have had := (hC j hj).2.1
  have hjG := hg.2.2 j hj
  have hSj : S[ad j]? = some (.inr (7, [.int (nI j), .int (nI (G 1 j)), .int (nI (G 2 j)), .int (nI (G 3 j)), .int (nI (G 4 j)), .int (nI (G 5 j)), .int (nI (tk G fz j)), .int (nI (tn G fz j)), .int (bz (cs.testBit j))])) := by have h := (hC j hj).1; simp only [stc, kc_0 hk] at h; exact h
  refine Mth_of (by decide) rfl ?_
  refine Ev_aload_n dX11_as_0 rfl ?_
  refine Ev_get dX11_as_1 fg_X11_21_11 hO rfl ?_
  refine Ev_iload_n dX11_as_4 rfl ?_
  refine Ev_callV (bc := 0) (b := 0) dX11_as_5 cv_X11_99 rfl hN (Nat.le_of_ble_eq_true rfl) (by omega) ?_
  refine c_X2_stretchAt hp7 hn9 hq hN hA hsa (j := j) hj ?_
  refine Ev_astore_n dX11_as_8 rfl ?_
  refine Ev_aload_n dX11_as_9 rfl ?_
  refine Ev_ifnonnull dX11_as_10 ?_
  refine Ev_iload_n dX11_as_19 rfl ?_
  refine Ev_iconst (v := 0) dX11_as_20 (by decide) ?_
  refine Ev_iconst (v := 2) dX11_as_21 (by decide) ?_
  refine Ev_callS (bc := 0) (b := 0) dX11_as_22 cs_X11_72 rfl (Nat.le_of_ble_eq_true rfl) (by omega) ?_
  refine c_X11_isWithin (fun _ => ?_) (fun q => absurd q (not_not_intro (by decide)))
  refine Ev_if_ne dX11_as_25 (fun _ => ?_) (fun c => absurd c (by decide))
  refine Ev_iload_n dX11_as_35 rfl ?_
  refine Ev_iconst (v := 1) dX11_as_36 (by decide) ?_
  refine Ev_icmp_ne dX11_as_37 (fun _ => ?_) (fun c => absurd c (by decide))
  refine Ev_iload_n dX11_as_47 rfl ?_
  refine Ev_iconst (v := 2) dX11_as_48 (by decide) ?_
  refine Ev_icmp_ne dX11_as_49 (fun c => absurd (by decide) c) (fun _ => ?_)
  refine Ev_aload_n dX11_as_52 rfl ?_
  refine Ev_inst dX11_as_53 ir_X11_272_7 hSj ?_
  refine Ev_if_ne dX11_as_56 (fun c => absurd (by decide) c) (fun _ => ?_)
  refine Ev_aload_n dX11_as_59 rfl ?_
  refine Ev_iconst (v := 2) dX11_as_60 (by decide) ?_
  refine Ev_callV (bc := 0) (b := 0) dX11_as_61 cv_X11_80 rfl hO (Nat.le_of_ble_eq_true rfl) (by omega) ?_
  refine c_X11_failed hO ?_
  refine Ev_topi (y := (-12)) (by decide) ?_
  refine Ev_iret dX11_as_64 rfl rfl ?_
  exact k

set_option maxHeartbeats 4000000 in
set_option maxRecDepth 100000 in
theorem c_X11_as1_out {d : Nat} {S : aS} {Q : Option Value → aS → Prop} {lf : Int32} (hO : S[0]? = some (co lf)) {pl n q : Nat} {du lw fr : Int32} (hp7 : pl ≤ 7) (hn9 : n ≤ 9) (hq : q ≤ 8) (hN : S[10]? = some (nt (nI pl) (nI n) du lw fr (nI q))) {cs : Nat} {G : Nat → Nat → Nat} (hg : GD pl n G) {sa : Nat → Option Nat} {ad : Nat → Nat} (hA : S[11]? = some (rA 4 9 sa)) (hsa : ∀ j, j < n → sa j = some (ad j)) {fz : Int} (hC : CN S n G cs fz ad) {j : Nat} (hj : j < n) (hk : G 0 j = 1) {w : Int32} (hw : ¬ (0 ≤ w.toInt ∧ w.toInt ≤ 2)) (k : Q (some (.int (-2))) (S.set 0 (co 0))) : Mth mX11_as (d + 2) 0 [.ref 0, .int (nI j), .int w] S Q := by
  have had := (hC j hj).2.1
  have hjG := hg.2.2 j hj
  have hSj : S[ad j]? = some (.inr (1, [.int (nI j), .int (nI (G 1 j)), .int (nI (G 2 j)), .int (nI (G 3 j)), .int (nI (G 4 j)), .int (nI (G 5 j)), .int (nI (tk G fz j)), .int (nI (tn G fz j)), .int (bz (cs.testBit j))])) := by have h := (hC j hj).1; simp only [stc, kc_1 hk] at h; exact h
  refine Mth_of (by decide) rfl ?_
  refine Ev_aload_n dX11_as_0 rfl ?_
  refine Ev_get dX11_as_1 fg_X11_21_11 hO rfl ?_
  refine Ev_iload_n dX11_as_4 rfl ?_
  refine Ev_callV (bc := 0) (b := 0) dX11_as_5 cv_X11_99 rfl hN (Nat.le_of_ble_eq_true rfl) (by omega) ?_
  refine c_X2_stretchAt hp7 hn9 hq hN hA hsa (j := j) hj ?_
  refine Ev_astore_n dX11_as_8 rfl ?_
  refine Ev_aload_n dX11_as_9 rfl ?_
  refine Ev_ifnonnull dX11_as_10 ?_
  refine Ev_iload_n dX11_as_19 rfl ?_
  refine Ev_iconst (v := 0) dX11_as_20 (by decide) ?_
  refine Ev_iconst (v := 2) dX11_as_21 (by decide) ?_
  refine Ev_callS (bc := 0) (b := 0) dX11_as_22 cs_X11_72 rfl (Nat.le_of_ble_eq_true rfl) (by omega) ?_
  refine c_X11_isWithin (fun q => absurd q hw) (fun _ => ?_)
  refine Ev_if_ne dX11_as_25 (fun c => absurd (by decide) c) (fun _ => ?_)
  refine Ev_aload_n dX11_as_28 rfl ?_
  refine Ev_bipush (v := (-2)) dX11_as_29 (by decide) ?_
  refine Ev_callV (bc := 0) (b := 0) dX11_as_31 cv_X11_68 rfl hO (Nat.le_of_ble_eq_true rfl) (by omega) ?_
  refine c_X11_refused hO ?_
  refine Ev_iret dX11_as_34 rfl rfl ?_
  exact k

set_option maxHeartbeats 4000000 in
set_option maxRecDepth 100000 in
theorem c_X11_as1_0 {d : Nat} {S : aS} {Q : Option Value → aS → Prop} {lf : Int32} (hO : S[0]? = some (co lf)) {pl n q : Nat} {du lw fr : Int32} (hp7 : pl ≤ 7) (hn9 : n ≤ 9) (hq : q ≤ 8) (hN : S[10]? = some (nt (nI pl) (nI n) du lw fr (nI q))) {cs : Nat} {G : Nat → Nat → Nat} (hg : GD pl n G) {sa : Nat → Option Nat} {ad : Nat → Nat} (hA : S[11]? = some (rA 4 9 sa)) (hsa : ∀ j, j < n → sa j = some (ad j)) {fz : Int} (hC : CN S n G cs fz ad) {j : Nat} (hj : j < n) (hk : G 0 j = 1) (k : Q (some (.int 1)) (S.set 0 (co 0))) : Mth mX11_as (d + 2) 0 [.ref 0, .int (nI j), .int 0] S Q := by
  have had := (hC j hj).2.1
  have hjG := hg.2.2 j hj
  have hSj : S[ad j]? = some (.inr (1, [.int (nI j), .int (nI (G 1 j)), .int (nI (G 2 j)), .int (nI (G 3 j)), .int (nI (G 4 j)), .int (nI (G 5 j)), .int (nI (tk G fz j)), .int (nI (tn G fz j)), .int (bz (cs.testBit j))])) := by have h := (hC j hj).1; simp only [stc, kc_1 hk] at h; exact h
  refine Mth_of (by decide) rfl ?_
  refine Ev_aload_n dX11_as_0 rfl ?_
  refine Ev_get dX11_as_1 fg_X11_21_11 hO rfl ?_
  refine Ev_iload_n dX11_as_4 rfl ?_
  refine Ev_callV (bc := 0) (b := 0) dX11_as_5 cv_X11_99 rfl hN (Nat.le_of_ble_eq_true rfl) (by omega) ?_
  refine c_X2_stretchAt hp7 hn9 hq hN hA hsa (j := j) hj ?_
  refine Ev_astore_n dX11_as_8 rfl ?_
  refine Ev_aload_n dX11_as_9 rfl ?_
  refine Ev_ifnonnull dX11_as_10 ?_
  refine Ev_iload_n dX11_as_19 rfl ?_
  refine Ev_iconst (v := 0) dX11_as_20 (by decide) ?_
  refine Ev_iconst (v := 2) dX11_as_21 (by decide) ?_
  refine Ev_callS (bc := 0) (b := 0) dX11_as_22 cs_X11_72 rfl (Nat.le_of_ble_eq_true rfl) (by omega) ?_
  refine c_X11_isWithin (fun _ => ?_) (fun q => absurd q (not_not_intro (by decide)))
  refine Ev_if_ne dX11_as_25 (fun _ => ?_) (fun c => absurd c (by decide))
  refine Ev_iload_n dX11_as_35 rfl ?_
  refine Ev_iconst (v := 1) dX11_as_36 (by decide) ?_
  refine Ev_icmp_ne dX11_as_37 (fun _ => ?_) (fun c => absurd c (by decide))
  refine Ev_iload_n dX11_as_47 rfl ?_
  refine Ev_iconst (v := 2) dX11_as_48 (by decide) ?_
  refine Ev_icmp_ne dX11_as_49 (fun _ => ?_) (fun c => absurd c (by decide))
  refine Ev_aload_n dX11_as_65 rfl ?_
  refine Ev_iconst (v := 0) dX11_as_66 (by decide) ?_
  refine Ev_put dX11_as_67 fr_X11_60_11 hO rfl rfl rfl ?_
  refine Ev_iconst (v := 1) dX11_as_70 (by decide) ?_
  refine Ev_iret dX11_as_71 rfl rfl ?_
  exact k

set_option maxHeartbeats 4000000 in
set_option maxRecDepth 100000 in
theorem c_X11_as1_1 {d : Nat} {S : aS} {Q : Option Value → aS → Prop} {lf : Int32} (hO : S[0]? = some (co lf)) {pl n q : Nat} {du lw fr : Int32} (hp7 : pl ≤ 7) (hn9 : n ≤ 9) (hq : q ≤ 8) (hN : S[10]? = some (nt (nI pl) (nI n) du lw fr (nI q))) {cs : Nat} {G : Nat → Nat → Nat} (hg : GD pl n G) {sa : Nat → Option Nat} {ad : Nat → Nat} (hA : S[11]? = some (rA 4 9 sa)) (hsa : ∀ j, j < n → sa j = some (ad j)) {fz : Int} (hC : CN S n G cs fz ad) {j : Nat} (hj : j < n) (hk : G 0 j = 1) (k : Q (some (.int 1)) (S.set 0 (co 0))) : Mth mX11_as (d + 2) 0 [.ref 0, .int (nI j), .int 1] S Q := by
  have had := (hC j hj).2.1
  have hjG := hg.2.2 j hj
  have hSj : S[ad j]? = some (.inr (1, [.int (nI j), .int (nI (G 1 j)), .int (nI (G 2 j)), .int (nI (G 3 j)), .int (nI (G 4 j)), .int (nI (G 5 j)), .int (nI (tk G fz j)), .int (nI (tn G fz j)), .int (bz (cs.testBit j))])) := by have h := (hC j hj).1; simp only [stc, kc_1 hk] at h; exact h
  refine Mth_of (by decide) rfl ?_
  refine Ev_aload_n dX11_as_0 rfl ?_
  refine Ev_get dX11_as_1 fg_X11_21_11 hO rfl ?_
  refine Ev_iload_n dX11_as_4 rfl ?_
  refine Ev_callV (bc := 0) (b := 0) dX11_as_5 cv_X11_99 rfl hN (Nat.le_of_ble_eq_true rfl) (by omega) ?_
  refine c_X2_stretchAt hp7 hn9 hq hN hA hsa (j := j) hj ?_
  refine Ev_astore_n dX11_as_8 rfl ?_
  refine Ev_aload_n dX11_as_9 rfl ?_
  refine Ev_ifnonnull dX11_as_10 ?_
  refine Ev_iload_n dX11_as_19 rfl ?_
  refine Ev_iconst (v := 0) dX11_as_20 (by decide) ?_
  refine Ev_iconst (v := 2) dX11_as_21 (by decide) ?_
  refine Ev_callS (bc := 0) (b := 0) dX11_as_22 cs_X11_72 rfl (Nat.le_of_ble_eq_true rfl) (by omega) ?_
  refine c_X11_isWithin (fun _ => ?_) (fun q => absurd q (not_not_intro (by decide)))
  refine Ev_if_ne dX11_as_25 (fun _ => ?_) (fun c => absurd c (by decide))
  refine Ev_iload_n dX11_as_35 rfl ?_
  refine Ev_iconst (v := 1) dX11_as_36 (by decide) ?_
  refine Ev_icmp_ne dX11_as_37 (fun c => absurd (by decide) c) (fun _ => ?_)
  refine Ev_aload_n dX11_as_40 rfl ?_
  refine Ev_inst dX11_as_41 ir_X11_270_1 hSj ?_
  refine Ev_if_eq dX11_as_44 (fun c => absurd c (by decide)) (fun _ => ?_)
  refine Ev_iload_n dX11_as_47 rfl ?_
  refine Ev_iconst (v := 2) dX11_as_48 (by decide) ?_
  refine Ev_icmp_ne dX11_as_49 (fun _ => ?_) (fun c => absurd c (by decide))
  refine Ev_aload_n dX11_as_65 rfl ?_
  refine Ev_iconst (v := 0) dX11_as_66 (by decide) ?_
  refine Ev_put dX11_as_67 fr_X11_60_11 hO rfl rfl rfl ?_
  refine Ev_iconst (v := 1) dX11_as_70 (by decide) ?_
  refine Ev_iret dX11_as_71 rfl rfl ?_
  exact k

set_option maxHeartbeats 4000000 in
set_option maxRecDepth 100000 in
theorem c_X11_as1_2 {d : Nat} {S : aS} {Q : Option Value → aS → Prop} {lf : Int32} (hO : S[0]? = some (co lf)) {pl n q : Nat} {du lw fr : Int32} (hp7 : pl ≤ 7) (hn9 : n ≤ 9) (hq : q ≤ 8) (hN : S[10]? = some (nt (nI pl) (nI n) du lw fr (nI q))) {cs : Nat} {G : Nat → Nat → Nat} (hg : GD pl n G) {sa : Nat → Option Nat} {ad : Nat → Nat} (hA : S[11]? = some (rA 4 9 sa)) (hsa : ∀ j, j < n → sa j = some (ad j)) {fz : Int} (hC : CN S n G cs fz ad) {j : Nat} (hj : j < n) (hk : G 0 j = 1) (k : Q (some (.int (-12))) (S.set 0 (co 2))) : Mth mX11_as (d + 2) 0 [.ref 0, .int (nI j), .int 2] S Q := by
  have had := (hC j hj).2.1
  have hjG := hg.2.2 j hj
  have hSj : S[ad j]? = some (.inr (1, [.int (nI j), .int (nI (G 1 j)), .int (nI (G 2 j)), .int (nI (G 3 j)), .int (nI (G 4 j)), .int (nI (G 5 j)), .int (nI (tk G fz j)), .int (nI (tn G fz j)), .int (bz (cs.testBit j))])) := by have h := (hC j hj).1; simp only [stc, kc_1 hk] at h; exact h
  refine Mth_of (by decide) rfl ?_
  refine Ev_aload_n dX11_as_0 rfl ?_
  refine Ev_get dX11_as_1 fg_X11_21_11 hO rfl ?_
  refine Ev_iload_n dX11_as_4 rfl ?_
  refine Ev_callV (bc := 0) (b := 0) dX11_as_5 cv_X11_99 rfl hN (Nat.le_of_ble_eq_true rfl) (by omega) ?_
  refine c_X2_stretchAt hp7 hn9 hq hN hA hsa (j := j) hj ?_
  refine Ev_astore_n dX11_as_8 rfl ?_
  refine Ev_aload_n dX11_as_9 rfl ?_
  refine Ev_ifnonnull dX11_as_10 ?_
  refine Ev_iload_n dX11_as_19 rfl ?_
  refine Ev_iconst (v := 0) dX11_as_20 (by decide) ?_
  refine Ev_iconst (v := 2) dX11_as_21 (by decide) ?_
  refine Ev_callS (bc := 0) (b := 0) dX11_as_22 cs_X11_72 rfl (Nat.le_of_ble_eq_true rfl) (by omega) ?_
  refine c_X11_isWithin (fun _ => ?_) (fun q => absurd q (not_not_intro (by decide)))
  refine Ev_if_ne dX11_as_25 (fun _ => ?_) (fun c => absurd c (by decide))
  refine Ev_iload_n dX11_as_35 rfl ?_
  refine Ev_iconst (v := 1) dX11_as_36 (by decide) ?_
  refine Ev_icmp_ne dX11_as_37 (fun _ => ?_) (fun c => absurd c (by decide))
  refine Ev_iload_n dX11_as_47 rfl ?_
  refine Ev_iconst (v := 2) dX11_as_48 (by decide) ?_
  refine Ev_icmp_ne dX11_as_49 (fun c => absurd (by decide) c) (fun _ => ?_)
  refine Ev_aload_n dX11_as_52 rfl ?_
  refine Ev_inst dX11_as_53 ir_X11_272_1 hSj ?_
  refine Ev_if_ne dX11_as_56 (fun c => absurd (by decide) c) (fun _ => ?_)
  refine Ev_aload_n dX11_as_59 rfl ?_
  refine Ev_iconst (v := 2) dX11_as_60 (by decide) ?_
  refine Ev_callV (bc := 0) (b := 0) dX11_as_61 cv_X11_80 rfl hO (Nat.le_of_ble_eq_true rfl) (by omega) ?_
  refine c_X11_failed hO ?_
  refine Ev_topi (y := (-12)) (by decide) ?_
  refine Ev_iret dX11_as_64 rfl rfl ?_
  exact k

set_option maxHeartbeats 4000000 in
set_option maxRecDepth 100000 in
theorem c_X11_as2_out {d : Nat} {S : aS} {Q : Option Value → aS → Prop} {lf : Int32} (hO : S[0]? = some (co lf)) {pl n q : Nat} {du lw fr : Int32} (hp7 : pl ≤ 7) (hn9 : n ≤ 9) (hq : q ≤ 8) (hN : S[10]? = some (nt (nI pl) (nI n) du lw fr (nI q))) {cs : Nat} {G : Nat → Nat → Nat} (hg : GD pl n G) {sa : Nat → Option Nat} {ad : Nat → Nat} (hA : S[11]? = some (rA 4 9 sa)) (hsa : ∀ j, j < n → sa j = some (ad j)) {fz : Int} (hC : CN S n G cs fz ad) {j : Nat} (hj : j < n) (hk : G 0 j = 2) {w : Int32} (hw : ¬ (0 ≤ w.toInt ∧ w.toInt ≤ 2)) (k : Q (some (.int (-2))) (S.set 0 (co 0))) : Mth mX11_as (d + 2) 0 [.ref 0, .int (nI j), .int w] S Q := by
  have had := (hC j hj).2.1
  have hjG := hg.2.2 j hj
  have hSj : S[ad j]? = some (.inr (6, [.int (nI j), .int (nI (G 1 j)), .int (nI (G 2 j)), .int (nI (G 3 j)), .int (nI (G 4 j)), .int (nI (G 5 j)), .int (nI (tk G fz j)), .int (nI (tn G fz j)), .int (bz (cs.testBit j))])) := by have h := (hC j hj).1; simp only [stc, kc_2 hk] at h; exact h
  refine Mth_of (by decide) rfl ?_
  refine Ev_aload_n dX11_as_0 rfl ?_
  refine Ev_get dX11_as_1 fg_X11_21_11 hO rfl ?_
  refine Ev_iload_n dX11_as_4 rfl ?_
  refine Ev_callV (bc := 0) (b := 0) dX11_as_5 cv_X11_99 rfl hN (Nat.le_of_ble_eq_true rfl) (by omega) ?_
  refine c_X2_stretchAt hp7 hn9 hq hN hA hsa (j := j) hj ?_
  refine Ev_astore_n dX11_as_8 rfl ?_
  refine Ev_aload_n dX11_as_9 rfl ?_
  refine Ev_ifnonnull dX11_as_10 ?_
  refine Ev_iload_n dX11_as_19 rfl ?_
  refine Ev_iconst (v := 0) dX11_as_20 (by decide) ?_
  refine Ev_iconst (v := 2) dX11_as_21 (by decide) ?_
  refine Ev_callS (bc := 0) (b := 0) dX11_as_22 cs_X11_72 rfl (Nat.le_of_ble_eq_true rfl) (by omega) ?_
  refine c_X11_isWithin (fun q => absurd q hw) (fun _ => ?_)
  refine Ev_if_ne dX11_as_25 (fun c => absurd (by decide) c) (fun _ => ?_)
  refine Ev_aload_n dX11_as_28 rfl ?_
  refine Ev_bipush (v := (-2)) dX11_as_29 (by decide) ?_
  refine Ev_callV (bc := 0) (b := 0) dX11_as_31 cv_X11_68 rfl hO (Nat.le_of_ble_eq_true rfl) (by omega) ?_
  refine c_X11_refused hO ?_
  refine Ev_iret dX11_as_34 rfl rfl ?_
  exact k

set_option maxHeartbeats 4000000 in
set_option maxRecDepth 100000 in
theorem c_X11_as2_0 {d : Nat} {S : aS} {Q : Option Value → aS → Prop} {lf : Int32} (hO : S[0]? = some (co lf)) {pl n q : Nat} {du lw fr : Int32} (hp7 : pl ≤ 7) (hn9 : n ≤ 9) (hq : q ≤ 8) (hN : S[10]? = some (nt (nI pl) (nI n) du lw fr (nI q))) {cs : Nat} {G : Nat → Nat → Nat} (hg : GD pl n G) {sa : Nat → Option Nat} {ad : Nat → Nat} (hA : S[11]? = some (rA 4 9 sa)) (hsa : ∀ j, j < n → sa j = some (ad j)) {fz : Int} (hC : CN S n G cs fz ad) {j : Nat} (hj : j < n) (hk : G 0 j = 2) (k : Q (some (.int 1)) (S.set 0 (co 0))) : Mth mX11_as (d + 2) 0 [.ref 0, .int (nI j), .int 0] S Q := by
  have had := (hC j hj).2.1
  have hjG := hg.2.2 j hj
  have hSj : S[ad j]? = some (.inr (6, [.int (nI j), .int (nI (G 1 j)), .int (nI (G 2 j)), .int (nI (G 3 j)), .int (nI (G 4 j)), .int (nI (G 5 j)), .int (nI (tk G fz j)), .int (nI (tn G fz j)), .int (bz (cs.testBit j))])) := by have h := (hC j hj).1; simp only [stc, kc_2 hk] at h; exact h
  refine Mth_of (by decide) rfl ?_
  refine Ev_aload_n dX11_as_0 rfl ?_
  refine Ev_get dX11_as_1 fg_X11_21_11 hO rfl ?_
  refine Ev_iload_n dX11_as_4 rfl ?_
  refine Ev_callV (bc := 0) (b := 0) dX11_as_5 cv_X11_99 rfl hN (Nat.le_of_ble_eq_true rfl) (by omega) ?_
  refine c_X2_stretchAt hp7 hn9 hq hN hA hsa (j := j) hj ?_
  refine Ev_astore_n dX11_as_8 rfl ?_
  refine Ev_aload_n dX11_as_9 rfl ?_
  refine Ev_ifnonnull dX11_as_10 ?_
  refine Ev_iload_n dX11_as_19 rfl ?_
  refine Ev_iconst (v := 0) dX11_as_20 (by decide) ?_
  refine Ev_iconst (v := 2) dX11_as_21 (by decide) ?_
  refine Ev_callS (bc := 0) (b := 0) dX11_as_22 cs_X11_72 rfl (Nat.le_of_ble_eq_true rfl) (by omega) ?_
  refine c_X11_isWithin (fun _ => ?_) (fun q => absurd q (not_not_intro (by decide)))
  refine Ev_if_ne dX11_as_25 (fun _ => ?_) (fun c => absurd c (by decide))
  refine Ev_iload_n dX11_as_35 rfl ?_
  refine Ev_iconst (v := 1) dX11_as_36 (by decide) ?_
  refine Ev_icmp_ne dX11_as_37 (fun _ => ?_) (fun c => absurd c (by decide))
  refine Ev_iload_n dX11_as_47 rfl ?_
  refine Ev_iconst (v := 2) dX11_as_48 (by decide) ?_
  refine Ev_icmp_ne dX11_as_49 (fun _ => ?_) (fun c => absurd c (by decide))
  refine Ev_aload_n dX11_as_65 rfl ?_
  refine Ev_iconst (v := 0) dX11_as_66 (by decide) ?_
  refine Ev_put dX11_as_67 fr_X11_60_11 hO rfl rfl rfl ?_
  refine Ev_iconst (v := 1) dX11_as_70 (by decide) ?_
  refine Ev_iret dX11_as_71 rfl rfl ?_
  exact k

set_option maxHeartbeats 4000000 in
set_option maxRecDepth 100000 in
theorem c_X11_as2_1 {d : Nat} {S : aS} {Q : Option Value → aS → Prop} {lf : Int32} (hO : S[0]? = some (co lf)) {pl n q : Nat} {du lw fr : Int32} (hp7 : pl ≤ 7) (hn9 : n ≤ 9) (hq : q ≤ 8) (hN : S[10]? = some (nt (nI pl) (nI n) du lw fr (nI q))) {cs : Nat} {G : Nat → Nat → Nat} (hg : GD pl n G) {sa : Nat → Option Nat} {ad : Nat → Nat} (hA : S[11]? = some (rA 4 9 sa)) (hsa : ∀ j, j < n → sa j = some (ad j)) {fz : Int} (hC : CN S n G cs fz ad) {j : Nat} (hj : j < n) (hk : G 0 j = 2) (k : Q (some (.int 1)) (S.set 0 (co 0))) : Mth mX11_as (d + 2) 0 [.ref 0, .int (nI j), .int 1] S Q := by
  have had := (hC j hj).2.1
  have hjG := hg.2.2 j hj
  have hSj : S[ad j]? = some (.inr (6, [.int (nI j), .int (nI (G 1 j)), .int (nI (G 2 j)), .int (nI (G 3 j)), .int (nI (G 4 j)), .int (nI (G 5 j)), .int (nI (tk G fz j)), .int (nI (tn G fz j)), .int (bz (cs.testBit j))])) := by have h := (hC j hj).1; simp only [stc, kc_2 hk] at h; exact h
  refine Mth_of (by decide) rfl ?_
  refine Ev_aload_n dX11_as_0 rfl ?_
  refine Ev_get dX11_as_1 fg_X11_21_11 hO rfl ?_
  refine Ev_iload_n dX11_as_4 rfl ?_
  refine Ev_callV (bc := 0) (b := 0) dX11_as_5 cv_X11_99 rfl hN (Nat.le_of_ble_eq_true rfl) (by omega) ?_
  refine c_X2_stretchAt hp7 hn9 hq hN hA hsa (j := j) hj ?_
  refine Ev_astore_n dX11_as_8 rfl ?_
  refine Ev_aload_n dX11_as_9 rfl ?_
  refine Ev_ifnonnull dX11_as_10 ?_
  refine Ev_iload_n dX11_as_19 rfl ?_
  refine Ev_iconst (v := 0) dX11_as_20 (by decide) ?_
  refine Ev_iconst (v := 2) dX11_as_21 (by decide) ?_
  refine Ev_callS (bc := 0) (b := 0) dX11_as_22 cs_X11_72 rfl (Nat.le_of_ble_eq_true rfl) (by omega) ?_
  refine c_X11_isWithin (fun _ => ?_) (fun q => absurd q (not_not_intro (by decide)))
  refine Ev_if_ne dX11_as_25 (fun _ => ?_) (fun c => absurd c (by decide))
  refine Ev_iload_n dX11_as_35 rfl ?_
  refine Ev_iconst (v := 1) dX11_as_36 (by decide) ?_
  refine Ev_icmp_ne dX11_as_37 (fun c => absurd (by decide) c) (fun _ => ?_)
  refine Ev_aload_n dX11_as_40 rfl ?_
  refine Ev_inst dX11_as_41 ir_X11_270_6 hSj ?_
  refine Ev_if_eq dX11_as_44 (fun c => absurd c (by decide)) (fun _ => ?_)
  refine Ev_iload_n dX11_as_47 rfl ?_
  refine Ev_iconst (v := 2) dX11_as_48 (by decide) ?_
  refine Ev_icmp_ne dX11_as_49 (fun _ => ?_) (fun c => absurd c (by decide))
  refine Ev_aload_n dX11_as_65 rfl ?_
  refine Ev_iconst (v := 0) dX11_as_66 (by decide) ?_
  refine Ev_put dX11_as_67 fr_X11_60_11 hO rfl rfl rfl ?_
  refine Ev_iconst (v := 1) dX11_as_70 (by decide) ?_
  refine Ev_iret dX11_as_71 rfl rfl ?_
  exact k

set_option maxHeartbeats 4000000 in
set_option maxRecDepth 100000 in
theorem c_X11_as2_2 {d : Nat} {S : aS} {Q : Option Value → aS → Prop} {lf : Int32} (hO : S[0]? = some (co lf)) {pl n q : Nat} {du lw fr : Int32} (hp7 : pl ≤ 7) (hn9 : n ≤ 9) (hq : q ≤ 8) (hN : S[10]? = some (nt (nI pl) (nI n) du lw fr (nI q))) {cs : Nat} {G : Nat → Nat → Nat} (hg : GD pl n G) {sa : Nat → Option Nat} {ad : Nat → Nat} (hA : S[11]? = some (rA 4 9 sa)) (hsa : ∀ j, j < n → sa j = some (ad j)) {fz : Int} (hC : CN S n G cs fz ad) {j : Nat} (hj : j < n) (hk : G 0 j = 2) (k : Q (some (.int 1)) (S.set 0 (co 0))) : Mth mX11_as (d + 2) 0 [.ref 0, .int (nI j), .int 2] S Q := by
  have had := (hC j hj).2.1
  have hjG := hg.2.2 j hj
  have hSj : S[ad j]? = some (.inr (6, [.int (nI j), .int (nI (G 1 j)), .int (nI (G 2 j)), .int (nI (G 3 j)), .int (nI (G 4 j)), .int (nI (G 5 j)), .int (nI (tk G fz j)), .int (nI (tn G fz j)), .int (bz (cs.testBit j))])) := by have h := (hC j hj).1; simp only [stc, kc_2 hk] at h; exact h
  refine Mth_of (by decide) rfl ?_
  refine Ev_aload_n dX11_as_0 rfl ?_
  refine Ev_get dX11_as_1 fg_X11_21_11 hO rfl ?_
  refine Ev_iload_n dX11_as_4 rfl ?_
  refine Ev_callV (bc := 0) (b := 0) dX11_as_5 cv_X11_99 rfl hN (Nat.le_of_ble_eq_true rfl) (by omega) ?_
  refine c_X2_stretchAt hp7 hn9 hq hN hA hsa (j := j) hj ?_
  refine Ev_astore_n dX11_as_8 rfl ?_
  refine Ev_aload_n dX11_as_9 rfl ?_
  refine Ev_ifnonnull dX11_as_10 ?_
  refine Ev_iload_n dX11_as_19 rfl ?_
  refine Ev_iconst (v := 0) dX11_as_20 (by decide) ?_
  refine Ev_iconst (v := 2) dX11_as_21 (by decide) ?_
  refine Ev_callS (bc := 0) (b := 0) dX11_as_22 cs_X11_72 rfl (Nat.le_of_ble_eq_true rfl) (by omega) ?_
  refine c_X11_isWithin (fun _ => ?_) (fun q => absurd q (not_not_intro (by decide)))
  refine Ev_if_ne dX11_as_25 (fun _ => ?_) (fun c => absurd c (by decide))
  refine Ev_iload_n dX11_as_35 rfl ?_
  refine Ev_iconst (v := 1) dX11_as_36 (by decide) ?_
  refine Ev_icmp_ne dX11_as_37 (fun _ => ?_) (fun c => absurd c (by decide))
  refine Ev_iload_n dX11_as_47 rfl ?_
  refine Ev_iconst (v := 2) dX11_as_48 (by decide) ?_
  refine Ev_icmp_ne dX11_as_49 (fun c => absurd (by decide) c) (fun _ => ?_)
  refine Ev_aload_n dX11_as_52 rfl ?_
  refine Ev_inst dX11_as_53 ir_X11_272_6 hSj ?_
  refine Ev_if_ne dX11_as_56 (fun _ => ?_) (fun c => absurd c (by decide))
  refine Ev_aload_n dX11_as_65 rfl ?_
  refine Ev_iconst (v := 0) dX11_as_66 (by decide) ?_
  refine Ev_put dX11_as_67 fr_X11_60_11 hO rfl rfl rfl ?_
  refine Ev_iconst (v := 1) dX11_as_70 (by decide) ?_
  refine Ev_iret dX11_as_71 rfl rfl ?_
  exact k

set_option maxHeartbeats 4000000 in
set_option maxRecDepth 100000 in
theorem c_X11_trace {d : Nat} {S : aS} {Q : Option Value → aS → Prop} {lf : Int32} (hO : S[0]? = some (co lf)) {tr : Int32} (hT : S[30]? = some (.inr (9, [.int tr]))) (k : Q (some (.int tr)) S) : Mth mX11_trace d 0 [.ref 0] S Q := by
  refine Mth_of (by decide) rfl ?_
  refine Ev_aload_n dX11_trace_0 rfl ?_
  refine Ev_get dX11_trace_1 fg_X11_56_11 hO rfl ?_
  refine Ev_get dX11_trace_4 fg_X11_274_9 hT rfl ?_
  refine Ev_iret dX11_trace_7 rfl rfl ?_
  exact k

set_option maxHeartbeats 4000000 in
set_option maxRecDepth 100000 in
theorem c_X11_fault {d : Nat} {S : aS} {Q : Option Value → aS → Prop} {lf : Int32} (hO : S[0]? = some (co lf)) (k : Q (some (.int lf)) S) : Mth mX11_fault d 0 [.ref 0] S Q := by
  refine Mth_of (by decide) rfl ?_
  refine Ev_aload_n dX11_fault_0 rfl ?_
  refine Ev_get dX11_fault_1 fg_X11_60_11 hO rfl ?_
  refine Ev_iret dX11_fault_4 rfl rfl ?_
  exact k

set_option maxHeartbeats 4000000 in
set_option maxRecDepth 100000 in
theorem c_X11_many {d : Nat} {S : aS} {Q : Option Value → aS → Prop} {lf : Int32} (hO : S[0]? = some (co lf)) {pl n q : Nat} {du lw fr : Int32} (hp7 : pl ≤ 7) (hn9 : n ≤ 9) (hq : q ≤ 8) (hN : S[10]? = some (nt (nI pl) (nI n) du lw fr (nI q))) {x : Int32} (k : Q (some (.int (if x = 0 then nI pl else if x = 1 then nI n else if x = 2 then du else if x = 3 then lw else if x = 4 then nI q else -2))) S) : Mth mX11_many d 0 [.ref 0, .int x] S Q := by
  refine Mth_of (by decide) rfl ?_
  refine Ev_iload_n dX11_many_0 rfl ?_
  by_cases e1 : x = 0
  · skip
    refine Ev_tableIn (off := 35) (tg := 36) 0 dX11_many_1 (by rw [e1]; decide) (by decide) rfl (by decide) ?_
    refine Ev_aload_n dX11_many_36 rfl ?_
    refine Ev_get dX11_many_37 fg_X11_21_11 hO rfl ?_
    refine Ev_get dX11_many_40 fg_X11_277_2 hN rfl ?_
    refine Ev_iret dX11_many_43 rfl rfl ?_
    rw [if_pos e1] at k
    exact k
  by_cases e2 : x = 1
  · skip
    refine Ev_tableIn (off := 43) (tg := 44) 1 dX11_many_1 (by rw [e2]; decide) (by decide) rfl (by decide) ?_
    refine Ev_aload_n dX11_many_44 rfl ?_
    refine Ev_get dX11_many_45 fg_X11_21_11 hO rfl ?_
    refine Ev_get dX11_many_48 fg_X11_96_2 hN rfl ?_
    refine Ev_iret dX11_many_51 rfl rfl ?_
    rw [if_neg e1, if_pos e2] at k
    exact k
  by_cases e3 : x = 2
  · skip
    refine Ev_tableIn (off := 51) (tg := 52) 2 dX11_many_1 (by rw [e3]; decide) (by decide) rfl (by decide) ?_
    refine Ev_aload_n dX11_many_52 rfl ?_
    refine Ev_get dX11_many_53 fg_X11_21_11 hO rfl ?_
    refine Ev_get dX11_many_56 fg_X11_134_2 hN rfl ?_
    refine Ev_iret dX11_many_59 rfl rfl ?_
    rw [if_neg e1, if_neg e2, if_pos e3] at k
    exact k
  by_cases e4 : x = 3
  · skip
    refine Ev_tableIn (off := 59) (tg := 60) 3 dX11_many_1 (by rw [e4]; decide) (by decide) rfl (by decide) ?_
    refine Ev_aload_n dX11_many_60 rfl ?_
    refine Ev_get dX11_many_61 fg_X11_21_11 hO rfl ?_
    refine Ev_get dX11_many_64 fg_X11_137_2 hN rfl ?_
    refine Ev_iret dX11_many_67 rfl rfl ?_
    rw [if_neg e1, if_neg e2, if_neg e3, if_pos e4] at k
    exact k
  by_cases e5 : x = 4
  · skip
    refine Ev_tableIn (off := 67) (tg := 68) 4 dX11_many_1 (by rw [e5]; decide) (by decide) rfl (by decide) ?_
    refine Ev_aload_n dX11_many_68 rfl ?_
    refine Ev_get dX11_many_69 fg_X11_21_11 hO rfl ?_
    refine Ev_get dX11_many_72 fg_X11_211_2 hN rfl ?_
    refine Ev_iret dX11_many_75 rfl rfl ?_
    rw [if_neg e1, if_neg e2, if_neg e3, if_neg e4, if_pos e5] at k
    exact k
  refine Ev_tableOut (tg := 76) dX11_many_1 (sw_out5 e1 e2 e3 e4 e5) (by decide) ?_
  refine Ev_bipush (v := (-2)) dX11_many_76 (by decide) ?_
  refine Ev_iret dX11_many_78 rfl rfl ?_
  rw [if_neg e1, if_neg e2, if_neg e3, if_neg e4, if_neg e5] at k
  exact k

