/-! ===== the reference's rows, one after another ===== -/
theorem nI_up : ∀ k, nI k - 1 + 1 = nI k
  | 0 => by decide
  | k + 1 => by rw [nI_pred, nI_1]
/-- what is kept, as the reference's fields have it (o: what its scores have more; b: all scores are 0; x: no more steps than these) -/
def kpR (b : Bool) (o : Int) (x : Nat) (acc : rV) (bm : Int32) (bi : Int64) (B : Nat → Int32) : Prop := (acc.2 = none → acc.1 = 0 ∧ bm = 0) ∧ ∀ z s r, acc.2 = some (z, s, r) → 0 < acc.1 ∧ bm = nI s ∧ bi.toInt = z + o ∧ 1 ≤ s ∧ s ≤ x ∧ (b = true → z = 0) ∧ (-50000 ≤ z ∧ z ≤ 2000000) ∧ ∀ j, j < s → B j = nI (r j)
abbrev moM (flt du lw fr ra rp rs ea tr : Int32) (pl n cs q : Nat) (dp bm : Int32) (bi : Int64) : aE := mo flt (nI pl) (nI n) du lw fr (nI cs) ra rp rs ea dp bm bi (nI q) tr
def RX (M : Int32 → Int32 → Int64 → aE) (b : Bool) (o : Int) (x : Nat) (S0 S : aS) (dpv : Int32) (s : Nat) (r e : Nat → Nat) (acc : rV) : Prop := FrR S0 S ∧ ∃ (bm : Int32) (bi : Int64) (R E B : Nat → Int32), S[31]? = some (M dpv bm bi) ∧ S[44]? = some (iA 12 R) ∧ S[46]? = some (iA 6 E) ∧ S[47]? = some (iA 5 B) ∧ (∀ j, j < s → R j = nI (r j)) ∧ (∀ j, j < s → E j = nI (e j)) ∧ kpR b o x acc bm bi B
def RH (M : Int32 → Int32 → Int64 → aE) (b : Bool) (o : Int) (x : Nat) (S0 S : aS) (s k p : Nat) (r e : Nat → Nat) (acc : rV) : Prop := FrR S0 S ∧ ∃ (bm : Int32) (bi : Int64) (R E B : Nat → Int32), S[31]? = some (M (nI s) bm bi) ∧ S[44]? = some (iA 12 R) ∧ S[46]? = some (iA 6 E) ∧ S[47]? = some (iA 5 B) ∧ (∀ j, j < s → R j = nI (r j)) ∧ (∀ j, j < s → E j = nI (e j)) ∧ R s = nI k - 1 ∧ E s = nI p ∧ kpR b o x acc bm bi B
theorem RX_RH {M : Int32 → Int32 → Int64 → aE} {b : Bool} {o : Int} {x : Nat} {S0 S : aS} {s k p : Nat} {r e : Nat → Nat} {acc : rV} {dv : Int32} (hd : dv = nI s) (h : RX M b o x S0 S dv (s + 1) (uz r s k) (uz e s p) acc) : RH M b o x S0 S s (k + 1) p r e acc := by
  obtain ⟨hF, bm, bi, R, E, B, h1, h2, h3, h4, h5, h6, h7⟩ := h
  subst hd
  refine ⟨hF, bm, bi, R, E, B, h1, h2, h3, h4, fun j hj => ?_, fun j hj => ?_, ?_, ?_, h7⟩
  · rw [h5 j (by omega), uz_n _ _ (by omega)]
  · rw [h6 j (by omega), uz_n _ _ (by omega)]
  · rw [h5 s (by omega), uz_s]; exact (nI_pred k).symm
  · rw [h6 s (by omega), uz_s]
theorem MN.fr {S0 S : aS} {n : Nat} {G : Nat → Nat → Nat} (h : MN S0 n G) (hF : FrR S0 S) : MN S n G := by
  intro f hf
  obtain ⟨g, h1, h2⟩ := h f hf
  exact ⟨g, hF.at h1 (by omega), h2⟩
theorem upd_lo {R : Nat → Int32} {r : Nat → Nat} {s : Nat} {v : Int32} (h : ∀ j, j < s → R j = nI (r j)) : ∀ j, j < s → upd R s v j = nI (r j) := fun j hj => by rw [upd_n _ _ (by omega)]; exact h j hj
theorem upd_hi {R : Nat → Int32} {r : Nat → Nat} {s : Nat} {v : Int32} (h : ∀ j, j < s + 1 → R j = nI (r j)) : ∀ j, j < s + 1 → upd R (s + 1) v j = nI (r j) := fun j hj => by rw [upd_n _ _ (by omega)]; exact h j hj
theorem uz_pre {E : Nat → Int32} {e : Nat → Nat} {s p : Nat} (h : ∀ j, j < s → E j = nI (e j)) (hs : E s = nI p) : ∀ j, j < s + 1 → E j = nI (uz e s p j) := by
  intro j hj
  by_cases q : j = s
  · subst q; rw [uz_s]; exact hs
  · rw [uz_n _ _ q]; exact h j (by omega)
theorem tL0_no {G : Nat → Nat → Nat} {cs hm : Nat} {val : Nat → (Nat → Nat) → rV} {s : Nat} {r : Nat → Nat} {p k : Nat} (h : gt G cs k p = none) : tL0 G cs hm val s r p k = un := by unfold tL0; rw [h]; rfl
theorem tL0_hm {G : Nat → Nat → Nat} {cs hm : Nat} {val : Nat → (Nat → Nat) → rV} {s : Nat} {r : Nat → Nat} {p k q : Nat} (h : gt G cs k p = some q) (hq : q = hm) : tL0 G cs hm val s r p k = val (s + 1) (uz r s k) := by
  unfold tL0
  rw [h]
  show hv val hm (s + 1) (uz r s k) q = _
  unfold hv
  rw [if_pos hq]
theorem tL0_so {G : Nat → Nat → Nat} {cs hm : Nat} {val : Nat → (Nat → Nat) → rV} {s : Nat} {r : Nat → Nat} {p k q : Nat} (h : gt G cs k p = some q) (hq : ¬ q = hm) : tL0 G cs hm val s r p k = un := by
  unfold tL0
  rw [h]
  show hv val hm (s + 1) (uz r s k) q = _
  unfold hv
  rw [if_neg hq]
theorem tL_no {G : Nat → Nat → Nat} {cs : Nat} {D : Nat → (Nat → Nat) → Nat → rV} {s : Nat} {r : Nat → Nat} {p k : Nat} (h : gt G cs k p = none) : tL G cs D s r p k = un := by unfold tL; rw [h]; rfl
theorem tL_so {G : Nat → Nat → Nat} {cs : Nat} {D : Nat → (Nat → Nat) → Nat → rV} {s : Nat} {r : Nat → Nat} {p k q : Nat} (h : gt G cs k p = some q) : tL G cs D s r p k = D (s + 1) (uz r s k) q := by unfold tL; rw [h]; rfl

set_option maxHeartbeats 4000000 in
set_option maxRecDepth 100000 in
theorem nx_leaf {flt du lw fr ra rp rs ea tr : Int32} {pl n cs q x : Nat} {G : Nat → Nat → Nat} {b : Bool} {o : Int} {val : Nat → (Nat → Nat) → rV} {S0 : aS} {Qa : rV → Option Value → aS → Prop} {D : Nat} {s : Nat} (hg : GD pl n G) (hcs : cs < 512) (hG0 : MN S0 n G) (hx5 : x ≤ 5) (hs : s + 1 = x) (hT : ∀ (S : aS) (r e : Nat → Nat) (acc : rV), (∀ j, j < x → r j < n) → (jn acc (val x r)).1 < 2147483647 → RX (moM flt du lw fr ra rp rs ea tr pl n cs q) b o x S0 S (nI (x - 1)) x r e acc → (∀ S2, RX (moM flt du lw fr ra rp rs ea tr pl n cs q) b o x S0 S2 (nI (x - 1)) x r e (jn acc (val x r)) → Ev none mX12_nextRow (D + 2) 0 0 [some (.ref 31), some (.int (nI x)), none] [] S2 (Qa (jn acc (val x r)))) → Qa acc (some (.int 1)) S) : ∀ (t k : Nat) (S : aS) (r e : Nat → Nat) (acc : rV) (p : Nat), k + t = n → (∀ j, j < s → r j < n) → p < pl → RH (moM flt du lw fr ra rp rs ea tr pl n cs q) b o x S0 S s k p r e acc → (jn acc (ff (tX G cs n (pl - 1) val s r p 0) t k)).1 < 2147483647 → (∀ S2, RX (moM flt du lw fr ra rp rs ea tr pl n cs q) b o x S0 S2 (nI s - 1) s r e (jn acc (ff (tX G cs n (pl - 1) val s r p 0) t k)) → Ev none mX12_nextRow (D + 2) 0 0 [some (.ref 31), some (.int (nI x)), none] [] S2 (Qa (jn acc (ff (tX G cs n (pl - 1) val s r p 0) t k)))) → Ev none mX12_nextRow (D + 2) 0 0 [some (.ref 31), some (.int (nI x)), none] [] S (Qa acc) := by
  have hn9 := hg.2.1
  have hp7 := hg.1
  have hxs : x - 1 = s := by omega
  have hT9 : ∀ (S : aS) (r e : Nat → Nat) (acc : rV), (∀ j, j < s + 1 → r j < n) → (jn acc (val (s + 1) r)).1 < 2147483647 → RX (moM flt du lw fr ra rp rs ea tr pl n cs q) b o x S0 S (nI s) (s + 1) r e acc → (∀ S2, RX (moM flt du lw fr ra rp rs ea tr pl n cs q) b o x S0 S2 (nI s) (s + 1) r e (jn acc (val (s + 1) r)) → Ev none mX12_nextRow (D + 2) 0 0 [some (.ref 31), some (.int (nI x)), none] [] S2 (Qa (jn acc (val (s + 1) r)))) → Qa acc (some (.int 1)) S := by
    subst hs
    exact hT
  intro t
  induction t with
  | zero =>
    intro k S r e acc p hk hr hp hH hcn kc
    obtain ⟨hF, bm, bi, R, E, B, h31, h44, h46, h47, hR, hE, hRs, hEs, hkp⟩ := hH
    have hk2 : k = n := by omega
    simp only [ff] at hcn kc
    rw [jn_un] at hcn kc
    refine Ev_aload_n dX12_nextRow_0 rfl ?_
    refine Ev_get dX12_nextRow_1 fg_X12_229_12 h31 rfl ?_
    refine Ev_if_lt dX12_nextRow_4 (fun c => absurd c (nI_pos (by omega))) (fun _ => ?_)
    refine Ev_aload_n dX12_nextRow_7 rfl ?_
    refine Ev_get dX12_nextRow_8 fg_X12_46_12 h31 rfl ?_
    refine Ev_aload_n dX12_nextRow_11 rfl ?_
    refine Ev_get dX12_nextRow_12 fg_X12_229_12 h31 rfl ?_
    refine Ev_dup2 dX12_nextRow_15 rfl rfl ?_
    refine Ev_ialoadN (j := s) dX12_nextRow_16 h44 (by omega) (by decide) ?_
    refine Ev_iconst (v := 1) dX12_nextRow_17 (by decide) ?_
    refine Ev_iadd dX12_nextRow_18 ?_
    refine Ev_topi (y := nI k) (by rw [hRs]; exact nI_up k) ?_
    refine Ev_iastoreN (j := s) dX12_nextRow_19 h44 (by omega) (by decide) ?_
    refine Ev_aload_n dX12_nextRow_20 rfl ?_
    refine Ev_get dX12_nextRow_21 fg_X12_46_12 (gn (by decide) h31) rfl ?_
    refine Ev_aload_n dX12_nextRow_24 rfl ?_
    refine Ev_get dX12_nextRow_25 fg_X12_229_12 (gn (by decide) h31) rfl ?_
    refine Ev_ialoadN (j := s) dX12_nextRow_28 (gs h44) (by omega) (by decide) ?_
    refine Ev_topi (y := nI k) (upd_s _ _ _) ?_
    refine Ev_aload_n dX12_nextRow_29 rfl ?_
    refine Ev_get dX12_nextRow_30 fg_X12_101_12 (gn (by decide) h31) rfl ?_
    refine Ev_icmp_ne dX12_nextRow_33 (fun c => absurd (by rw [hk2]) c) (fun _ => ?_)
    refine Ev_aload_n dX12_nextRow_36 rfl ?_
    refine Ev_dup dX12_nextRow_37 rfl ?_
    refine Ev_get dX12_nextRow_38 fg_X12_229_12 (gn (by decide) h31) rfl ?_
    refine Ev_iconst (v := 1) dX12_nextRow_41 (by decide) ?_
    refine Ev_isub dX12_nextRow_42 ?_
    refine Ev_put dX12_nextRow_43 fr_X12_229_12 (gn (by decide) h31) rfl rfl rfl ?_
    refine Ev_goto dX12_nextRow_46 ?_
    exact kc _ ⟨(FrR.st (FrR.st hF (by decide)) (by decide)), _, _, _, _, _, (gs (gn (by decide) h31)), (gn (by decide) (gs h44)), (gn (by decide) (gn (by decide) h46)), (gn (by decide) (gn (by decide) h47)), upd_lo hR, hE, hkp⟩
  | succ t ih =>
    intro k S r e acc p hk hr hp hH hcn kc
    obtain ⟨hF, bm, bi, R, E, B, h31, h44, h46, h47, hR, hE, hRs, hEs, hkp⟩ := hH
    have hrr : ∀ j, j < s + 1 → uz r s k j < n := by
      intro j hj
      by_cases q2 : j = s
      · subst q2; rw [uz_s]; omega
      · rw [uz_n _ _ q2]; exact hr j (by omega)
    simp only [ff] at hcn kc
    cases hgt : gt G cs k p with
    | none =>
      rw [show tX G cs n (pl - 1) val s r p 0 k = un from tL0_no hgt, un_jn] at hcn kc
      refine Ev_aload_n dX12_nextRow_0 rfl ?_
      refine Ev_get dX12_nextRow_1 fg_X12_229_12 h31 rfl ?_
      refine Ev_if_lt dX12_nextRow_4 (fun c => absurd c (nI_pos (by omega))) (fun _ => ?_)
      refine Ev_aload_n dX12_nextRow_7 rfl ?_
      refine Ev_get dX12_nextRow_8 fg_X12_46_12 h31 rfl ?_
      refine Ev_aload_n dX12_nextRow_11 rfl ?_
      refine Ev_get dX12_nextRow_12 fg_X12_229_12 h31 rfl ?_
      refine Ev_dup2 dX12_nextRow_15 rfl rfl ?_
      refine Ev_ialoadN (j := s) dX12_nextRow_16 h44 (by omega) (by decide) ?_
      refine Ev_iconst (v := 1) dX12_nextRow_17 (by decide) ?_
      refine Ev_iadd dX12_nextRow_18 ?_
      refine Ev_topi (y := nI k) (by rw [hRs]; exact nI_up k) ?_
      refine Ev_iastoreN (j := s) dX12_nextRow_19 h44 (by omega) (by decide) ?_
      refine Ev_aload_n dX12_nextRow_20 rfl ?_
      refine Ev_get dX12_nextRow_21 fg_X12_46_12 (gn (by decide) h31) rfl ?_
      refine Ev_aload_n dX12_nextRow_24 rfl ?_
      refine Ev_get dX12_nextRow_25 fg_X12_229_12 (gn (by decide) h31) rfl ?_
      refine Ev_ialoadN (j := s) dX12_nextRow_28 (gs h44) (by omega) (by decide) ?_
      refine Ev_topi (y := nI k) (upd_s _ _ _) ?_
      refine Ev_aload_n dX12_nextRow_29 rfl ?_
      refine Ev_get dX12_nextRow_30 fg_X12_101_12 (gn (by decide) h31) rfl ?_
      refine Ev_icmp_ne dX12_nextRow_33 (fun _ => ?_) (fun c => absurd c (fun z => absurd ((nIinj (by omega) (by omega)).mp z) (by omega)))
      refine Ev_aload_n dX12_nextRow_49 rfl ?_
      refine Ev_aload_n dX12_nextRow_50 rfl ?_
      refine Ev_get dX12_nextRow_51 fg_X12_46_12 (gn (by decide) h31) rfl ?_
      refine Ev_aload_n dX12_nextRow_54 rfl ?_
      refine Ev_get dX12_nextRow_55 fg_X12_229_12 (gn (by decide) h31) rfl ?_
      refine Ev_ialoadN (j := s) dX12_nextRow_58 (gs h44) (by omega) (by decide) ?_
      refine Ev_topi (y := nI k) (upd_s _ _ _) ?_
      refine Ev_aload_n dX12_nextRow_59 rfl ?_
      refine Ev_get dX12_nextRow_60 fg_X12_52_12 (gn (by decide) h31) rfl ?_
      refine Ev_aload_n dX12_nextRow_63 rfl ?_
      refine Ev_get dX12_nextRow_64 fg_X12_229_12 (gn (by decide) h31) rfl ?_
      refine Ev_ialoadN (j := s) dX12_nextRow_67 (gn (by decide) h46) (by omega) (by decide) ?_
      refine Ev_topi (y := nI p) hEs ?_
      refine Ev_callV (bc := 0) (b := 0) dX12_nextRow_68 cv_X12_196 rfl (gn (by decide) h31) (Nat.le_of_ble_eq_true rfl) (by omega) ?_
      refine c_X12_goesTo hg hcs (gn (by decide) h31) (MN.off (hG0.fr hF) (by decide)) (j := k) (by omega) (show p < 100 by omega) ?_
      rw [hgt]
      refine Ev_topi (y := (-9)) rfl ?_
      refine Ev_istore_n dX12_nextRow_71 rfl ?_
      refine Ev_iload_n dX12_nextRow_72 rfl ?_
      refine Ev_if_lt dX12_nextRow_73 (fun _ => ?_) (fun c => absurd (by decide) c)
      refine Ev_iload_n dX12_nextRow_98 rfl ?_
      refine Ev_if_lt dX12_nextRow_99 (fun _ => ?_) (fun c => absurd (by decide) c)
      refine Ev_goto dX12_nextRow_132 ?_
      refine Ev_loc (la2 := [some (.ref 31), some (.int (nI x)), none]) ⟨rfl, rfl, trivial⟩ ?_
      exact ih (k + 1) _ r e acc p (by omega) hr hp ⟨(FrR.st hF (by decide)), _, _, _, _, _, (gn (by decide) h31), (gs h44), (gn (by decide) h46), (gn (by decide) h47), upd_lo hR, hE, (by rw [upd_s]; exact (nI_pred k).symm), hEs, hkp⟩ hcn kc
    | some q9 =>
      have hq9 := (gt_some hg (show k < n by omega) hgt).2.1
      by_cases hqh : q9 = pl - 1
      · rw [show tX G cs n (pl - 1) val s r p 0 k = val (s + 1) (uz r s k) from tL0_hm hgt hqh, ← jn_assoc] at hcn kc
        refine Ev_aload_n dX12_nextRow_0 rfl ?_
        refine Ev_get dX12_nextRow_1 fg_X12_229_12 h31 rfl ?_
        refine Ev_if_lt dX12_nextRow_4 (fun c => absurd c (nI_pos (by omega))) (fun _ => ?_)
        refine Ev_aload_n dX12_nextRow_7 rfl ?_
        refine Ev_get dX12_nextRow_8 fg_X12_46_12 h31 rfl ?_
        refine Ev_aload_n dX12_nextRow_11 rfl ?_
        refine Ev_get dX12_nextRow_12 fg_X12_229_12 h31 rfl ?_
        refine Ev_dup2 dX12_nextRow_15 rfl rfl ?_
        refine Ev_ialoadN (j := s) dX12_nextRow_16 h44 (by omega) (by decide) ?_
        refine Ev_iconst (v := 1) dX12_nextRow_17 (by decide) ?_
        refine Ev_iadd dX12_nextRow_18 ?_
        refine Ev_topi (y := nI k) (by rw [hRs]; exact nI_up k) ?_
        refine Ev_iastoreN (j := s) dX12_nextRow_19 h44 (by omega) (by decide) ?_
        refine Ev_aload_n dX12_nextRow_20 rfl ?_
        refine Ev_get dX12_nextRow_21 fg_X12_46_12 (gn (by decide) h31) rfl ?_
        refine Ev_aload_n dX12_nextRow_24 rfl ?_
        refine Ev_get dX12_nextRow_25 fg_X12_229_12 (gn (by decide) h31) rfl ?_
        refine Ev_ialoadN (j := s) dX12_nextRow_28 (gs h44) (by omega) (by decide) ?_
        refine Ev_topi (y := nI k) (upd_s _ _ _) ?_
        refine Ev_aload_n dX12_nextRow_29 rfl ?_
        refine Ev_get dX12_nextRow_30 fg_X12_101_12 (gn (by decide) h31) rfl ?_
        refine Ev_icmp_ne dX12_nextRow_33 (fun _ => ?_) (fun c => absurd c (fun z => absurd ((nIinj (by omega) (by omega)).mp z) (by omega)))
        refine Ev_aload_n dX12_nextRow_49 rfl ?_
        refine Ev_aload_n dX12_nextRow_50 rfl ?_
        refine Ev_get dX12_nextRow_51 fg_X12_46_12 (gn (by decide) h31) rfl ?_
        refine Ev_aload_n dX12_nextRow_54 rfl ?_
        refine Ev_get dX12_nextRow_55 fg_X12_229_12 (gn (by decide) h31) rfl ?_
        refine Ev_ialoadN (j := s) dX12_nextRow_58 (gs h44) (by omega) (by decide) ?_
        refine Ev_topi (y := nI k) (upd_s _ _ _) ?_
        refine Ev_aload_n dX12_nextRow_59 rfl ?_
        refine Ev_get dX12_nextRow_60 fg_X12_52_12 (gn (by decide) h31) rfl ?_
        refine Ev_aload_n dX12_nextRow_63 rfl ?_
        refine Ev_get dX12_nextRow_64 fg_X12_229_12 (gn (by decide) h31) rfl ?_
        refine Ev_ialoadN (j := s) dX12_nextRow_67 (gn (by decide) h46) (by omega) (by decide) ?_
        refine Ev_topi (y := nI p) hEs ?_
        refine Ev_callV (bc := 0) (b := 0) dX12_nextRow_68 cv_X12_196 rfl (gn (by decide) h31) (Nat.le_of_ble_eq_true rfl) (by omega) ?_
        refine c_X12_goesTo hg hcs (gn (by decide) h31) (MN.off (hG0.fr hF) (by decide)) (j := k) (by omega) (show p < 100 by omega) ?_
        rw [hgt]
        refine Ev_topi (y := nI q9) rfl ?_
        refine Ev_istore_n dX12_nextRow_71 rfl ?_
        refine Ev_iload_n dX12_nextRow_72 rfl ?_
        refine Ev_if_lt dX12_nextRow_73 (fun c => absurd c (nI_pos (by omega))) (fun _ => ?_)
        refine Ev_aload_n dX12_nextRow_76 rfl ?_
        refine Ev_get dX12_nextRow_77 fg_X12_229_12 (gn (by decide) h31) rfl ?_
        refine Ev_iload_n dX12_nextRow_80 rfl ?_
        refine Ev_iconst (v := 1) dX12_nextRow_81 (by decide) ?_
        refine Ev_isub dX12_nextRow_82 ?_
        refine Ev_topi (y := nI (x - 1)) (nsub (b := 1) (by omega)) ?_
        refine Ev_icmp_ne dX12_nextRow_83 (fun c => absurd (by rw [hxs]) c) (fun _ => ?_)
        refine Ev_iload_n dX12_nextRow_86 rfl ?_
        refine Ev_aload_n dX12_nextRow_87 rfl ?_
        refine Ev_get dX12_nextRow_88 fg_X12_94_12 (gn (by decide) h31) rfl ?_
        refine Ev_iconst (v := 1) dX12_nextRow_91 (by decide) ?_
        refine Ev_isub dX12_nextRow_92 ?_
        refine Ev_topi (y := nI (pl - 1)) (nsub (b := 1) (by omega)) ?_
        refine Ev_icmp_ne dX12_nextRow_93 (fun c => absurd (by rw [hqh]) c) (fun _ => ?_)
        refine Ev_iconst (v := 1) dX12_nextRow_96 (by decide) ?_
        refine Ev_iret dX12_nextRow_97 rfl (by decide) ?_
        refine hT9 _ (uz r s k) (uz e s p) acc hrr (Nat.lt_of_le_of_lt (Nat.le_add_right _ _) hcn) ⟨(FrR.st hF (by decide)), _, _, _, _, _, (gn (by decide) h31), (gs h44), (gn (by decide) h46), (gn (by decide) h47), (upd_pre hR), (uz_pre hE hEs), hkp⟩ (fun S2 hX2 => ?_)
        exact ih (k + 1) S2 r e _ p (by omega) hr hp (RX_RH rfl hX2) hcn kc
      · rw [show tX G cs n (pl - 1) val s r p 0 k = un from tL0_so hgt hqh, un_jn] at hcn kc
        refine Ev_aload_n dX12_nextRow_0 rfl ?_
        refine Ev_get dX12_nextRow_1 fg_X12_229_12 h31 rfl ?_
        refine Ev_if_lt dX12_nextRow_4 (fun c => absurd c (nI_pos (by omega))) (fun _ => ?_)
        refine Ev_aload_n dX12_nextRow_7 rfl ?_
        refine Ev_get dX12_nextRow_8 fg_X12_46_12 h31 rfl ?_
        refine Ev_aload_n dX12_nextRow_11 rfl ?_
        refine Ev_get dX12_nextRow_12 fg_X12_229_12 h31 rfl ?_
        refine Ev_dup2 dX12_nextRow_15 rfl rfl ?_
        refine Ev_ialoadN (j := s) dX12_nextRow_16 h44 (by omega) (by decide) ?_
        refine Ev_iconst (v := 1) dX12_nextRow_17 (by decide) ?_
        refine Ev_iadd dX12_nextRow_18 ?_
        refine Ev_topi (y := nI k) (by rw [hRs]; exact nI_up k) ?_
        refine Ev_iastoreN (j := s) dX12_nextRow_19 h44 (by omega) (by decide) ?_
        refine Ev_aload_n dX12_nextRow_20 rfl ?_
        refine Ev_get dX12_nextRow_21 fg_X12_46_12 (gn (by decide) h31) rfl ?_
        refine Ev_aload_n dX12_nextRow_24 rfl ?_
        refine Ev_get dX12_nextRow_25 fg_X12_229_12 (gn (by decide) h31) rfl ?_
        refine Ev_ialoadN (j := s) dX12_nextRow_28 (gs h44) (by omega) (by decide) ?_
        refine Ev_topi (y := nI k) (upd_s _ _ _) ?_
        refine Ev_aload_n dX12_nextRow_29 rfl ?_
        refine Ev_get dX12_nextRow_30 fg_X12_101_12 (gn (by decide) h31) rfl ?_
        refine Ev_icmp_ne dX12_nextRow_33 (fun _ => ?_) (fun c => absurd c (fun z => absurd ((nIinj (by omega) (by omega)).mp z) (by omega)))
        refine Ev_aload_n dX12_nextRow_49 rfl ?_
        refine Ev_aload_n dX12_nextRow_50 rfl ?_
        refine Ev_get dX12_nextRow_51 fg_X12_46_12 (gn (by decide) h31) rfl ?_
        refine Ev_aload_n dX12_nextRow_54 rfl ?_
        refine Ev_get dX12_nextRow_55 fg_X12_229_12 (gn (by decide) h31) rfl ?_
        refine Ev_ialoadN (j := s) dX12_nextRow_58 (gs h44) (by omega) (by decide) ?_
        refine Ev_topi (y := nI k) (upd_s _ _ _) ?_
        refine Ev_aload_n dX12_nextRow_59 rfl ?_
        refine Ev_get dX12_nextRow_60 fg_X12_52_12 (gn (by decide) h31) rfl ?_
        refine Ev_aload_n dX12_nextRow_63 rfl ?_
        refine Ev_get dX12_nextRow_64 fg_X12_229_12 (gn (by decide) h31) rfl ?_
        refine Ev_ialoadN (j := s) dX12_nextRow_67 (gn (by decide) h46) (by omega) (by decide) ?_
        refine Ev_topi (y := nI p) hEs ?_
        refine Ev_callV (bc := 0) (b := 0) dX12_nextRow_68 cv_X12_196 rfl (gn (by decide) h31) (Nat.le_of_ble_eq_true rfl) (by omega) ?_
        refine c_X12_goesTo hg hcs (gn (by decide) h31) (MN.off (hG0.fr hF) (by decide)) (j := k) (by omega) (show p < 100 by omega) ?_
        rw [hgt]
        refine Ev_topi (y := nI q9) rfl ?_
        refine Ev_istore_n dX12_nextRow_71 rfl ?_
        refine Ev_iload_n dX12_nextRow_72 rfl ?_
        refine Ev_if_lt dX12_nextRow_73 (fun c => absurd c (nI_pos (by omega))) (fun _ => ?_)
        refine Ev_aload_n dX12_nextRow_76 rfl ?_
        refine Ev_get dX12_nextRow_77 fg_X12_229_12 (gn (by decide) h31) rfl ?_
        refine Ev_iload_n dX12_nextRow_80 rfl ?_
        refine Ev_iconst (v := 1) dX12_nextRow_81 (by decide) ?_
        refine Ev_isub dX12_nextRow_82 ?_
        refine Ev_topi (y := nI (x - 1)) (nsub (b := 1) (by omega)) ?_
        refine Ev_icmp_ne dX12_nextRow_83 (fun c => absurd (by rw [hxs]) c) (fun _ => ?_)
        refine Ev_iload_n dX12_nextRow_86 rfl ?_
        refine Ev_aload_n dX12_nextRow_87 rfl ?_
        refine Ev_get dX12_nextRow_88 fg_X12_94_12 (gn (by decide) h31) rfl ?_
        refine Ev_iconst (v := 1) dX12_nextRow_91 (by decide) ?_
        refine Ev_isub dX12_nextRow_92 ?_
        refine Ev_topi (y := nI (pl - 1)) (nsub (b := 1) (by omega)) ?_
        refine Ev_icmp_ne dX12_nextRow_93 (fun _ => ?_) (fun c => absurd c (fun z => absurd ((nIinj (by omega) (by omega)).mp z) hqh))
        refine Ev_goto dX12_nextRow_132 ?_
        refine Ev_loc (la2 := [some (.ref 31), some (.int (nI x)), none]) ⟨rfl, rfl, trivial⟩ ?_
        exact ih (k + 1) _ r e acc p (by omega) hr hp ⟨(FrR.st hF (by decide)), _, _, _, _, _, (gn (by decide) h31), (gs h44), (gn (by decide) h46), (gn (by decide) h47), upd_lo hR, hE, (by rw [upd_s]; exact (nI_pred k).symm), hEs, hkp⟩ hcn kc

set_option maxHeartbeats 4000000 in
set_option maxRecDepth 100000 in
theorem nx_in {flt du lw fr ra rp rs ea tr : Int32} {pl n cs q x : Nat} {G : Nat → Nat → Nat} {b : Bool} {o : Int} {val : Nat → (Nat → Nat) → rV} {S0 : aS} {Qa : rV → Option Value → aS → Prop} {D : Nat} {s f : Nat} (hg : GD pl n G) (hcs : cs < 512) (hG0 : MN S0 n G) (hx5 : x ≤ 5) (hs : s + (f + 1) + 1 = x) (IH : ∀ (t k : Nat) (S : aS) (r e : Nat → Nat) (acc : rV) (p : Nat), k + t = n → (∀ j, j < s + 1 → r j < n) → p < pl → RH (moM flt du lw fr ra rp rs ea tr pl n cs q) b o x S0 S (s + 1) k p r e acc → (jn acc (ff (tX G cs n (pl - 1) val (s + 1) r p f) t k)).1 < 2147483647 → (∀ S2, RX (moM flt du lw fr ra rp rs ea tr pl n cs q) b o x S0 S2 (nI (s + 1) - 1) (s + 1) r e (jn acc (ff (tX G cs n (pl - 1) val (s + 1) r p f) t k)) → Ev none mX12_nextRow (D + 2) 0 0 [some (.ref 31), some (.int (nI x)), none] [] S2 (Qa (jn acc (ff (tX G cs n (pl - 1) val (s + 1) r p f) t k)))) → Ev none mX12_nextRow (D + 2) 0 0 [some (.ref 31), some (.int (nI x)), none] [] S (Qa acc)) : ∀ (t k : Nat) (S : aS) (r e : Nat → Nat) (acc : rV) (p : Nat), k + t = n → (∀ j, j < s → r j < n) → p < pl → RH (moM flt du lw fr ra rp rs ea tr pl n cs q) b o x S0 S s k p r e acc → (jn acc (ff (tX G cs n (pl - 1) val s r p (f + 1)) t k)).1 < 2147483647 → (∀ S2, RX (moM flt du lw fr ra rp rs ea tr pl n cs q) b o x S0 S2 (nI s - 1) s r e (jn acc (ff (tX G cs n (pl - 1) val s r p (f + 1)) t k)) → Ev none mX12_nextRow (D + 2) 0 0 [some (.ref 31), some (.int (nI x)), none] [] S2 (Qa (jn acc (ff (tX G cs n (pl - 1) val s r p (f + 1)) t k)))) → Ev none mX12_nextRow (D + 2) 0 0 [some (.ref 31), some (.int (nI x)), none] [] S (Qa acc) := by
  have hn9 := hg.2.1
  have hp7 := hg.1
  intro t
  induction t with
  | zero =>
    intro k S r e acc p hk hr hp hH hcn kc
    obtain ⟨hF, bm, bi, R, E, B, h31, h44, h46, h47, hR, hE, hRs, hEs, hkp⟩ := hH
    have hk2 : k = n := by omega
    simp only [ff] at hcn kc
    rw [jn_un] at hcn kc
    refine Ev_aload_n dX12_nextRow_0 rfl ?_
    refine Ev_get dX12_nextRow_1 fg_X12_229_12 h31 rfl ?_
    refine Ev_if_lt dX12_nextRow_4 (fun c => absurd c (nI_pos (by omega))) (fun _ => ?_)
    refine Ev_aload_n dX12_nextRow_7 rfl ?_
    refine Ev_get dX12_nextRow_8 fg_X12_46_12 h31 rfl ?_
    refine Ev_aload_n dX12_nextRow_11 rfl ?_
    refine Ev_get dX12_nextRow_12 fg_X12_229_12 h31 rfl ?_
    refine Ev_dup2 dX12_nextRow_15 rfl rfl ?_
    refine Ev_ialoadN (j := s) dX12_nextRow_16 h44 (by omega) (by decide) ?_
    refine Ev_iconst (v := 1) dX12_nextRow_17 (by decide) ?_
    refine Ev_iadd dX12_nextRow_18 ?_
    refine Ev_topi (y := nI k) (by rw [hRs]; exact nI_up k) ?_
    refine Ev_iastoreN (j := s) dX12_nextRow_19 h44 (by omega) (by decide) ?_
    refine Ev_aload_n dX12_nextRow_20 rfl ?_
    refine Ev_get dX12_nextRow_21 fg_X12_46_12 (gn (by decide) h31) rfl ?_
    refine Ev_aload_n dX12_nextRow_24 rfl ?_
    refine Ev_get dX12_nextRow_25 fg_X12_229_12 (gn (by decide) h31) rfl ?_
    refine Ev_ialoadN (j := s) dX12_nextRow_28 (gs h44) (by omega) (by decide) ?_
    refine Ev_topi (y := nI k) (upd_s _ _ _) ?_
    refine Ev_aload_n dX12_nextRow_29 rfl ?_
    refine Ev_get dX12_nextRow_30 fg_X12_101_12 (gn (by decide) h31) rfl ?_
    refine Ev_icmp_ne dX12_nextRow_33 (fun c => absurd (by rw [hk2]) c) (fun _ => ?_)
    refine Ev_aload_n dX12_nextRow_36 rfl ?_
    refine Ev_dup dX12_nextRow_37 rfl ?_
    refine Ev_get dX12_nextRow_38 fg_X12_229_12 (gn (by decide) h31) rfl ?_
    refine Ev_iconst (v := 1) dX12_nextRow_41 (by decide) ?_
    refine Ev_isub dX12_nextRow_42 ?_
    refine Ev_put dX12_nextRow_43 fr_X12_229_12 (gn (by decide) h31) rfl rfl rfl ?_
    refine Ev_goto dX12_nextRow_46 ?_
    exact kc _ ⟨(FrR.st (FrR.st hF (by decide)) (by decide)), _, _, _, _, _, (gs (gn (by decide) h31)), (gn (by decide) (gs h44)), (gn (by decide) (gn (by decide) h46)), (gn (by decide) (gn (by decide) h47)), upd_lo hR, hE, hkp⟩
  | succ t ih =>
    intro k S r e acc p hk hr hp hH hcn kc
    obtain ⟨hF, bm, bi, R, E, B, h31, h44, h46, h47, hR, hE, hRs, hEs, hkp⟩ := hH
    have hrr : ∀ j, j < s + 1 → uz r s k j < n := by
      intro j hj
      by_cases q2 : j = s
      · subst q2; rw [uz_s]; omega
      · rw [uz_n _ _ q2]; exact hr j (by omega)
    simp only [ff] at hcn kc
    cases hgt : gt G cs k p with
    | none =>
      rw [show tX G cs n (pl - 1) val s r p (f + 1) k = un from tL_no hgt, un_jn] at hcn kc
      refine Ev_aload_n dX12_nextRow_0 rfl ?_
      refine Ev_get dX12_nextRow_1 fg_X12_229_12 h31 rfl ?_
      refine Ev_if_lt dX12_nextRow_4 (fun c => absurd c (nI_pos (by omega))) (fun _ => ?_)
      refine Ev_aload_n dX12_nextRow_7 rfl ?_
      refine Ev_get dX12_nextRow_8 fg_X12_46_12 h31 rfl ?_
      refine Ev_aload_n dX12_nextRow_11 rfl ?_
      refine Ev_get dX12_nextRow_12 fg_X12_229_12 h31 rfl ?_
      refine Ev_dup2 dX12_nextRow_15 rfl rfl ?_
      refine Ev_ialoadN (j := s) dX12_nextRow_16 h44 (by omega) (by decide) ?_
      refine Ev_iconst (v := 1) dX12_nextRow_17 (by decide) ?_
      refine Ev_iadd dX12_nextRow_18 ?_
      refine Ev_topi (y := nI k) (by rw [hRs]; exact nI_up k) ?_
      refine Ev_iastoreN (j := s) dX12_nextRow_19 h44 (by omega) (by decide) ?_
      refine Ev_aload_n dX12_nextRow_20 rfl ?_
      refine Ev_get dX12_nextRow_21 fg_X12_46_12 (gn (by decide) h31) rfl ?_
      refine Ev_aload_n dX12_nextRow_24 rfl ?_
      refine Ev_get dX12_nextRow_25 fg_X12_229_12 (gn (by decide) h31) rfl ?_
      refine Ev_ialoadN (j := s) dX12_nextRow_28 (gs h44) (by omega) (by decide) ?_
      refine Ev_topi (y := nI k) (upd_s _ _ _) ?_
      refine Ev_aload_n dX12_nextRow_29 rfl ?_
      refine Ev_get dX12_nextRow_30 fg_X12_101_12 (gn (by decide) h31) rfl ?_
      refine Ev_icmp_ne dX12_nextRow_33 (fun _ => ?_) (fun c => absurd c (fun z => absurd ((nIinj (by omega) (by omega)).mp z) (by omega)))
      refine Ev_aload_n dX12_nextRow_49 rfl ?_
      refine Ev_aload_n dX12_nextRow_50 rfl ?_
      refine Ev_get dX12_nextRow_51 fg_X12_46_12 (gn (by decide) h31) rfl ?_
      refine Ev_aload_n dX12_nextRow_54 rfl ?_
      refine Ev_get dX12_nextRow_55 fg_X12_229_12 (gn (by decide) h31) rfl ?_
      refine Ev_ialoadN (j := s) dX12_nextRow_58 (gs h44) (by omega) (by decide) ?_
      refine Ev_topi (y := nI k) (upd_s _ _ _) ?_
      refine Ev_aload_n dX12_nextRow_59 rfl ?_
      refine Ev_get dX12_nextRow_60 fg_X12_52_12 (gn (by decide) h31) rfl ?_
      refine Ev_aload_n dX12_nextRow_63 rfl ?_
      refine Ev_get dX12_nextRow_64 fg_X12_229_12 (gn (by decide) h31) rfl ?_
      refine Ev_ialoadN (j := s) dX12_nextRow_67 (gn (by decide) h46) (by omega) (by decide) ?_
      refine Ev_topi (y := nI p) hEs ?_
      refine Ev_callV (bc := 0) (b := 0) dX12_nextRow_68 cv_X12_196 rfl (gn (by decide) h31) (Nat.le_of_ble_eq_true rfl) (by omega) ?_
      refine c_X12_goesTo hg hcs (gn (by decide) h31) (MN.off (hG0.fr hF) (by decide)) (j := k) (by omega) (show p < 100 by omega) ?_
      rw [hgt]
      refine Ev_topi (y := (-9)) rfl ?_
      refine Ev_istore_n dX12_nextRow_71 rfl ?_
      refine Ev_iload_n dX12_nextRow_72 rfl ?_
      refine Ev_if_lt dX12_nextRow_73 (fun _ => ?_) (fun c => absurd (by decide) c)
      refine Ev_iload_n dX12_nextRow_98 rfl ?_
      refine Ev_if_lt dX12_nextRow_99 (fun _ => ?_) (fun c => absurd (by decide) c)
      refine Ev_goto dX12_nextRow_132 ?_
      refine Ev_loc (la2 := [some (.ref 31), some (.int (nI x)), none]) ⟨rfl, rfl, trivial⟩ ?_
      exact ih (k + 1) _ r e acc p (by omega) hr hp ⟨(FrR.st hF (by decide)), _, _, _, _, _, (gn (by decide) h31), (gs h44), (gn (by decide) h46), (gn (by decide) h47), upd_lo hR, hE, (by rw [upd_s]; exact (nI_pred k).symm), hEs, hkp⟩ hcn kc
    | some q9 =>
      have hq9 := (gt_some hg (show k < n by omega) hgt).2.1
      rw [show tX G cs n (pl - 1) val s r p (f + 1) k = Ln G cs n (pl - 1) val f (s + 1) (uz r s k) q9 from tL_so hgt, ← jn_assoc] at hcn kc
      refine Ev_aload_n dX12_nextRow_0 rfl ?_
      refine Ev_get dX12_nextRow_1 fg_X12_229_12 h31 rfl ?_
      refine Ev_if_lt dX12_nextRow_4 (fun c => absurd c (nI_pos (by omega))) (fun _ => ?_)
      refine Ev_aload_n dX12_nextRow_7 rfl ?_
      refine Ev_get dX12_nextRow_8 fg_X12_46_12 h31 rfl ?_
      refine Ev_aload_n dX12_nextRow_11 rfl ?_
      refine Ev_get dX12_nextRow_12 fg_X12_229_12 h31 rfl ?_
      refine Ev_dup2 dX12_nextRow_15 rfl rfl ?_
      refine Ev_ialoadN (j := s) dX12_nextRow_16 h44 (by omega) (by decide) ?_
      refine Ev_iconst (v := 1) dX12_nextRow_17 (by decide) ?_
      refine Ev_iadd dX12_nextRow_18 ?_
      refine Ev_topi (y := nI k) (by rw [hRs]; exact nI_up k) ?_
      refine Ev_iastoreN (j := s) dX12_nextRow_19 h44 (by omega) (by decide) ?_
      refine Ev_aload_n dX12_nextRow_20 rfl ?_
      refine Ev_get dX12_nextRow_21 fg_X12_46_12 (gn (by decide) h31) rfl ?_
      refine Ev_aload_n dX12_nextRow_24 rfl ?_
      refine Ev_get dX12_nextRow_25 fg_X12_229_12 (gn (by decide) h31) rfl ?_
      refine Ev_ialoadN (j := s) dX12_nextRow_28 (gs h44) (by omega) (by decide) ?_
      refine Ev_topi (y := nI k) (upd_s _ _ _) ?_
      refine Ev_aload_n dX12_nextRow_29 rfl ?_
      refine Ev_get dX12_nextRow_30 fg_X12_101_12 (gn (by decide) h31) rfl ?_
      refine Ev_icmp_ne dX12_nextRow_33 (fun _ => ?_) (fun c => absurd c (fun z => absurd ((nIinj (by omega) (by omega)).mp z) (by omega)))
      refine Ev_aload_n dX12_nextRow_49 rfl ?_
      refine Ev_aload_n dX12_nextRow_50 rfl ?_
      refine Ev_get dX12_nextRow_51 fg_X12_46_12 (gn (by decide) h31) rfl ?_
      refine Ev_aload_n dX12_nextRow_54 rfl ?_
      refine Ev_get dX12_nextRow_55 fg_X12_229_12 (gn (by decide) h31) rfl ?_
      refine Ev_ialoadN (j := s) dX12_nextRow_58 (gs h44) (by omega) (by decide) ?_
      refine Ev_topi (y := nI k) (upd_s _ _ _) ?_
      refine Ev_aload_n dX12_nextRow_59 rfl ?_
      refine Ev_get dX12_nextRow_60 fg_X12_52_12 (gn (by decide) h31) rfl ?_
      refine Ev_aload_n dX12_nextRow_63 rfl ?_
      refine Ev_get dX12_nextRow_64 fg_X12_229_12 (gn (by decide) h31) rfl ?_
      refine Ev_ialoadN (j := s) dX12_nextRow_67 (gn (by decide) h46) (by omega) (by decide) ?_
      refine Ev_topi (y := nI p) hEs ?_
      refine Ev_callV (bc := 0) (b := 0) dX12_nextRow_68 cv_X12_196 rfl (gn (by decide) h31) (Nat.le_of_ble_eq_true rfl) (by omega) ?_
      refine c_X12_goesTo hg hcs (gn (by decide) h31) (MN.off (hG0.fr hF) (by decide)) (j := k) (by omega) (show p < 100 by omega) ?_
      rw [hgt]
      refine Ev_topi (y := nI q9) rfl ?_
      refine Ev_istore_n dX12_nextRow_71 rfl ?_
      refine Ev_iload_n dX12_nextRow_72 rfl ?_
      refine Ev_if_lt dX12_nextRow_73 (fun c => absurd c (nI_pos (by omega))) (fun _ => ?_)
      refine Ev_aload_n dX12_nextRow_76 rfl ?_
      refine Ev_get dX12_nextRow_77 fg_X12_229_12 (gn (by decide) h31) rfl ?_
      refine Ev_iload_n dX12_nextRow_80 rfl ?_
      refine Ev_iconst (v := 1) dX12_nextRow_81 (by decide) ?_
      refine Ev_isub dX12_nextRow_82 ?_
      refine Ev_topi (y := nI (x - 1)) (nsub (b := 1) (by omega)) ?_
      refine Ev_icmp_ne dX12_nextRow_83 (fun _ => ?_) (fun c => absurd c (fun z => absurd ((nIinj (by omega) (by omega)).mp z) (by omega)))
      refine Ev_iload_n dX12_nextRow_98 rfl ?_
      refine Ev_if_lt dX12_nextRow_99 (fun c => absurd c (nI_pos (by omega))) (fun _ => ?_)
      refine Ev_aload_n dX12_nextRow_102 rfl ?_
      refine Ev_dup dX12_nextRow_103 rfl ?_
      refine Ev_get dX12_nextRow_104 fg_X12_229_12 (gn (by decide) h31) rfl ?_
      refine Ev_iconst (v := 1) dX12_nextRow_107 (by decide) ?_
      refine Ev_iadd dX12_nextRow_108 ?_
      refine Ev_topi (y := nI (s + 1)) (nI_add _ _) ?_
      refine Ev_put dX12_nextRow_109 fr_X12_229_12 (gn (by decide) h31) rfl rfl rfl ?_
      refine Ev_aload_n dX12_nextRow_112 rfl ?_
      refine Ev_get dX12_nextRow_113 fg_X12_52_12 (gs (gn (by decide) h31)) rfl ?_
      refine Ev_aload_n dX12_nextRow_116 rfl ?_
      refine Ev_get dX12_nextRow_117 fg_X12_229_12 (gs (gn (by decide) h31)) rfl ?_
      refine Ev_iload_n dX12_nextRow_120 rfl ?_
      refine Ev_iastoreN (j := s + 1) dX12_nextRow_121 (gn (by decide) (gn (by decide) h46)) (by omega) (by decide) ?_
      refine Ev_aload_n dX12_nextRow_122 rfl ?_
      refine Ev_get dX12_nextRow_123 fg_X12_46_12 (gn (by decide) (gs (gn (by decide) h31))) rfl ?_
      refine Ev_aload_n dX12_nextRow_126 rfl ?_
      refine Ev_get dX12_nextRow_127 fg_X12_229_12 (gn (by decide) (gs (gn (by decide) h31))) rfl ?_
      refine Ev_iconst (v := (-1)) dX12_nextRow_130 (by decide) ?_
      refine Ev_iastoreN (j := s + 1) dX12_nextRow_131 (gn (by decide) (gn (by decide) (gs h44))) (by omega) (by decide) ?_
      refine Ev_goto dX12_nextRow_132 ?_
      refine Ev_loc (la2 := [some (.ref 31), some (.int (nI x)), none]) ⟨rfl, rfl, trivial⟩ ?_
      refine IH n 0 _ (uz r s k) (uz e s p) acc q9 (by omega) hrr hq9 ⟨(FrR.st (FrR.st (FrR.st (FrR.st hF (by decide)) (by decide)) (by decide)) (by decide)), _, _, _, _, _, (gn (by decide) (gn (by decide) (gs (gn (by decide) h31)))), (gs (gn (by decide) (gn (by decide) (gs h44)))), (gn (by decide) (gs (gn (by decide) (gn (by decide) h46)))), (gn (by decide) (gn (by decide) (gn (by decide) (gn (by decide) h47)))), (upd_hi (upd_pre hR)), (upd_hi (uz_pre hE hEs)), (by rw [upd_s]; decide), (by rw [upd_s]), hkp⟩ (by rw [← Ln_tX]; exact Nat.lt_of_le_of_lt (Nat.le_add_right _ _) hcn) (fun S2 hX2 => ?_)
      rw [← Ln_tX] at hX2 ⊢
      exact ih (k + 1) S2 r e _ p (by omega) hr hp (RX_RH (nI_pred s) hX2) hcn kc

theorem nx_all {flt du lw fr ra rp rs ea tr : Int32} {pl n cs q x : Nat} {G : Nat → Nat → Nat} {b : Bool} {o : Int} {val : Nat → (Nat → Nat) → rV} {S0 : aS} {Qa : rV → Option Value → aS → Prop} {D : Nat} (hg : GD pl n G) (hcs : cs < 512) (hG0 : MN S0 n G) (hx5 : x ≤ 5) (hT : ∀ (S : aS) (r e : Nat → Nat) (acc : rV), (∀ j, j < x → r j < n) → (jn acc (val x r)).1 < 2147483647 → RX (moM flt du lw fr ra rp rs ea tr pl n cs q) b o x S0 S (nI (x - 1)) x r e acc → (∀ S2, RX (moM flt du lw fr ra rp rs ea tr pl n cs q) b o x S0 S2 (nI (x - 1)) x r e (jn acc (val x r)) → Ev none mX12_nextRow (D + 2) 0 0 [some (.ref 31), some (.int (nI x)), none] [] S2 (Qa (jn acc (val x r)))) → Qa acc (some (.int 1)) S) : ∀ (f s : Nat), s + f + 1 = x → ∀ (t k : Nat) (S : aS) (r e : Nat → Nat) (acc : rV) (p : Nat), k + t = n → (∀ j, j < s → r j < n) → p < pl → RH (moM flt du lw fr ra rp rs ea tr pl n cs q) b o x S0 S s k p r e acc → (jn acc (ff (tX G cs n (pl - 1) val s r p f) t k)).1 < 2147483647 → (∀ S2, RX (moM flt du lw fr ra rp rs ea tr pl n cs q) b o x S0 S2 (nI s - 1) s r e (jn acc (ff (tX G cs n (pl - 1) val s r p f) t k)) → Ev none mX12_nextRow (D + 2) 0 0 [some (.ref 31), some (.int (nI x)), none] [] S2 (Qa (jn acc (ff (tX G cs n (pl - 1) val s r p f) t k)))) → Ev none mX12_nextRow (D + 2) 0 0 [some (.ref 31), some (.int (nI x)), none] [] S (Qa acc)
  | 0, s, hs => nx_leaf hg hcs hG0 hx5 (by omega) hT
  | f + 1, s, hs => nx_in hg hcs hG0 hx5 (by omega) (nx_all hg hcs hG0 hx5 hT f (s + 1) (by omega))

