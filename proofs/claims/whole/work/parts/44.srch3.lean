/-! ===== what the three searches ask, and the calls over them ===== -/
abbrev vJ (G : Nat → Nat → Nat) (n : Nat) (fz lw du : Int) (s : Nat) (r : Nat → Nat) : rV := (1, some (jy lw du (sgN G n (goN r s) : Int) (sumN (fun x => tk G fz (r x)) s : Int), s, r))
abbrev vS (G : Nat → Nat → Nat) (fz : Int) (s : Nat) (r : Nat → Nat) : rV := (1, some (((prodN (fun x => tn G fz (r x)) s * 10 ^ (5 - s) : Nat) : Int), s, r))
def vT (G : Nat → Nat → Nat) (fz : Int) (tt q : Nat) (ro : Nat → Nat) (rb : Nat → Bool) (s : Nat) (r : Nat → Nat) : rV := if sumN (fun x => tk G fz (r x)) s ≤ tt ∧ trB G ro rb (goN r s) q = true then (1, some (0, s, r)) else un
theorem vJ_of {G : Nat → Nat → Nat} {n : Nat} {fz lw du : Int} : ∀ s r, ofL s (vJ G n fz lw du s r) := fun s r b h => by cases h; rfl
theorem vS_of {G : Nat → Nat → Nat} {fz : Int} : ∀ s r, ofL s (vS G fz s r) := fun s r b h => by cases h; rfl
theorem vT_of {G : Nat → Nat → Nat} {fz : Int} {tt q : Nat} {ro : Nat → Nat} {rb : Nat → Bool} : ∀ s r, ofL s (vT G fz tt q ro rb s r) := by
  intro s r b h
  unfold vT at h
  split at h
  · cases h; rfl
  · cases h
theorem vT_1 {G : Nat → Nat → Nat} {fz : Int} {tt q : Nat} {ro : Nat → Nat} {rb : Nat → Bool} : ∀ s r, (vT G fz tt q ro rb s r).1 ≤ 1 := by
  intro s r
  unfold vT
  split
  · exact Nat.le_refl _
  · exact Nat.zero_le _
theorem cst_200 {lw late : Int} (h : late ≤ 200) : 0 ≤ cst lw late ∧ cst lw late ≤ 40000 := by
  unfold cst
  split
  · omega
  · split
    · omega
    · split
      · have h1 : late * late ≤ 200 * 200 := Int.mul_le_mul h h (by omega) (by omega)
        have h2 : 0 ≤ late * late := Int.mul_nonneg (by omega) (by omega)
        omega
      · split <;> omega
theorem jy_b {G : Nat → Nat → Nat} {pl n m : Nat} {fz lw du : Int} {r : Nat → Nat} (hg : GD pl n G) (hm : m ≤ 5) (hr : ∀ x, x < m → r x < n) (hdu : 0 ≤ du ∧ du ≤ 99) : sgN G n (goN r m) ≤ 100 ∧ sumN (fun x => tk G fz (r x)) m ≤ 200 ∧ -50000 ≤ jy lw du (sgN G n (goN r m) : Int) (sumN (fun x => tk G fz (r x)) m : Int) ∧ jy lw du (sgN G n (goN r m) : Int) (sumN (fun x => tk G fz (r x)) m : Int) ≤ 1000 := by
  have hn9 := hg.2.1
  have hsg : sgN G n (goN r m) ≤ n * 9 := sumN_le n (fun x hx => by have := hg.2.2 x hx; show (if _ then _ else _) ≤ 9; split <;> omega)
  have hsm : sumN (fun x => tk G fz (r x)) m ≤ m * 21 := sumN_le m (fun x hx => (tk_le hg _ (hr x hx)).1)
  have hc := cst_200 (lw := lw) (late := (sumN (fun x => tk G fz (r x)) m : Int) - du) (by omega)
  unfold jy
  omega
theorem wgh0 {pl n q cs : Nat} {mo mi wa uw mu du lw fr : Int32} {G : Nat → Nat → Nat} {fz : Int} {ad : Nat → Nat} (hg : GD pl n G) (hq : q ≤ 8) (hlw : 0 ≤ lw.toInt ∧ lw.toInt ≤ 2) (hdu : 0 ≤ du.toInt ∧ du.toInt ≤ 99) : WGH (vJ G n fz lw.toInt du.toInt) 0 mo mi wa uw mu pl n q cs du lw fr G fz ad := by
  intro d S Q acc ks fo sc R K r s p he h15 h23 h24 hW hR hr hs1 hs5 hkp hcn k
  obtain ⟨b1, b2, b3, b4⟩ := jy_b (fz := fz) (lw := lw.toInt) hg hs5 hr hdu
  refine c_weighV0 h15 hW (by omega) h23 h24 ⟨hs1, hs5⟩ (fun Q2 h => c_scoreOf0 h15 hg.1 hg.2.1 hq he.1 hlw hdu hW (by omega) (by omega) h) (by omega) hkp hR hcn k
theorem pr_b {G : Nat → Nat → Nat} {fz : Int} {r : Nat → Nat} (m : Nat) : prodN (fun x => tn G fz (r x)) m ≤ 10 ^ m := prodN_le m (fun _ _ => tn_le _ _)
theorem wgh1 {pl n q cs : Nat} {mo mi wa uw mu du lw fr : Int32} {G : Nat → Nat → Nat} {fz : Int} {ad : Nat → Nat} : WGH (vS G fz) 1 mo mi wa uw mu pl n q cs du lw fr G fz ad := by
  intro d S Q acc ks fo sc R K r s p he h15 h23 h24 hW hR hr hs1 hs5 hkp hcn k
  have h5 := s5 hs5 (pr_b (G := G) (fz := fz) (r := r) s)
  refine c_weighV1 h15 hW (by omega) h23 h24 ⟨hs1, hs5⟩ (fun Q2 h => c_scoreOf1 h15 hW hs5 (pr_b s) h) (by omega) hkp hR hcn k
theorem wgh2 {pl n q cs tt : Nat} {mo du lw fr : Int32} {G : Nat → Nat → Nat} {fz : Int} {ad : Nat → Nat} {ro : Nat → Nat} {rb : Nat → Bool} (hg : GD pl n G) (htt : tt ≤ 200) (hro : ∀ x, x < q → ro x < n) : WGH (vT G fz tt q ro rb) 2 mo (nI tt) (nI (rdS ro rb true q)) (nI (rdS ro rb false q)) (nI (mdS G n)) pl n q cs du lw fr G fz ad := by
  intro d S Q acc ks fo sc R K r s p he h15 h23 h24 hW hR hr hs1 hs5 hkp hcn k
  have hn9 := hg.2.1
  have hsm : sumN (fun x => tk G fz (r x)) s ≤ s * 21 := sumN_le s (fun x hx => (tk_le hg _ (hr x hx)).1)
  have hgl : goN r s < 512 := Nat.lt_of_lt_of_le (goN_lt s hr) (p9 hn9)
  have hwl : rdS ro rb true q < 512 := Nat.lt_of_lt_of_le (rdS_lt q hro) (p9 hn9)
  have hts := tr_set (G := G) (ro := ro) (rb := rb) (g := goN r s) hro
  have e0 : iZ 0 = 0 := by decide
  by_cases hc : sumN (fun x => tk G fz (r x)) s ≤ tt ∧ trB G ro rb (goN r s) q = true
  · have ev : vT G fz tt q ro rb s r = (1, some (0, s, r)) := if_pos hc
    rw [ev] at hcn k
    refine c_weighV2 h15 hW (by omega) h23 h24 ⟨hs1, hs5⟩ (v := 0) (fun Q2 h => c_scoreOf2 h15 (by rw [e0] at h; exact h)) (by omega) (fun Q2 h => c_X4_isTrail h15 hW htt (by omega) hgl hwl (fun _ _ => h) (fun z => absurd ⟨hc.1, hts.mpr hc.2⟩ z)) hkp hR hcn k
  · have ev : vT G fz tt q ro rb s r = un := if_neg hc
    rw [ev] at k
    have h := k ks fo sc K (by rw [jn_un]; exact hkp)
    rw [gid h24, gid h15] at h
    exact c_weigh2_n h15 (fun Q2 h2 => c_X4_isTrail h15 hW htt (by omega) hgl hwl (fun z1 z2 => absurd ⟨z1, hts.mp z2⟩ hc) (fun _ => h2)) h
def r0 : Nat → Nat := fun _ => 0
def FrL (S0 S : aS) : Prop := ∀ a, a ≠ 15 → ¬ (16 < a ∧ a < 25) → S[a]? = S0[a]?
theorem FrL.st {a : Nat} {S0 S : aS} {c : aE} (h : FrL S0 S) (ha : a = 15 ∨ (16 < a ∧ a < 25)) : FrL S0 (S.set a c) := by
  intro b h1 h2
  rw [List.getElem?_set_ne (by omega)]
  exact h b h1 h2
theorem FrL.rf {S : aS} : FrL S S := fun _ _ _ => rfl
theorem FrL.go {S0 S S2 : aS} (h : FrL S0 S) (h2 : FrC 0 S S2) : FrL S0 S2 := by
  intro b h1 h3
  rw [h2 b h1 (by omega) (by omega) (by omega)]
  exact h b h1 h3
theorem FrL.at {a : Nat} {S0 S : aS} {c : aE} (h : FrL S0 S) (h0 : S0[a]? = some c) (h1 : a ≠ 15 ∧ ¬ (16 < a ∧ a < 25)) : S[a]? = some c := by
  rw [h a h1.1 h1.2]
  exact h0
theorem WKC_0 {G : Nat → Nat → Nat} {n : Nat} {fz : Int} {r : Nat → Nat} : WKC G n fz r 0 0 = wkc 0 0 0 0 0 1 := by
  simp only [WKC, sumN, goN, prodN, sg0]
  rfl

set_option maxHeartbeats 4000000 in
set_option maxRecDepth 100000 in
theorem c_look {d : Nat} {S : aS} {Q : Option Value → aS → Prop} {val : Nat → (Nat → Nat) → rV} {m pl n q cs : Nat} {du lw fr go mi : Int32} {G : Nat → Nat → Nat} {fz : Int} {ad : Nat → Nat} {ro : Nat → Nat} {rb : Nat → Bool} {fo fw : Nat → Int32} (hg : GD pl n G) (hq : q ≤ 8) (hm : 1 ≤ m ∧ m ≤ 5) (hp0 : 0 < pl) (he : eC S pl n q cs du lw fr G fz ad) (h15 : ∃ (x1 x2 x3 x4 x5 x6 x7 x8 x9 : Int32) (v : Value), S[15]? = some (.inr (4, [.ref 16, .ref 23, .ref 24, .int x1, .int x2, .int x3, v, .int x4, .int x5, .int x6, .int x7, .int x8, .int x9]))) (h23 : ∃ f : Nat → Int32, S[23]? = some (iA 5 f)) (h24 : ∃ f : Nat → Int32, S[24]? = some (iA 5 f)) (hX : WX S) (h12 : S[12]? = some (iA 8 fo)) (h13 : S[13]? = some (zA 8 fw)) (hrd : ∀ x, x < q → fo x = nI (ro x) ∧ fw x = bz (rb x)) (hro : ∀ x, x < q → ro x < n) (hw : WGH val go (nI m) mi (nI (rdS ro rb true q)) (nI (rdS ro rb false q)) (nI (mdS G n)) pl n q cs du lw fr G fz ad) (hv1 : ∀ s r, (val s r).1 ≤ 1) (k : ∀ S2, FrL S S2 → cG S2 go (nI m) mi (nI (rdS ro rb true q)) (nI (rdS ro rb false q)) (nI (mdS G n)) (Dn G cs n (pl - 1) val m 0 r0 0) 0 r0 → Q none S2) : Mth mX4_look (d + 14) 0 [.ref 15, .ref 10, .int go, .int (nI m), .int mi] S Q := by
  have hn9 := hg.2.1
  have hp7 := hg.1
  have hgo := c_goOn (d := d + (5 - m)) hg hq hm.2 hw m 0 (by omega)
  unfold GON at hgo
  rw [show d + (5 - m) + m + 8 = d + 13 by omega] at hgo
  have hcn := Dn_small (G := G) (cs := cs) (hm := pl - 1) hv1 hn9 hm.2 0 r0 0
  obtain ⟨h10, ⟨sa, h11, hsa⟩, hC, fa, h16, hfa⟩ := he
  obtain ⟨x1, x2, x3, x4, x5, x6, x7, x8, x9, v, h15b⟩ := h15
  obtain ⟨R, h23b⟩ := h23
  obtain ⟨K, h24b⟩ := h24
  obtain ⟨y1, y2, y3, y4, y5, y6, hX1⟩ := hX 0 (by decide)
  refine Mth_of (by decide) rfl ?_
  refine Ev_aload_n dX4_look_0 rfl ?_
  refine Ev_aload_n dX4_look_1 rfl ?_
  refine Ev_put dX4_look_2 fr_X4_25_4 h15b rfl rfl rfl ?_
  refine Ev_aload_n dX4_look_5 rfl ?_
  refine Ev_iload_n dX4_look_6 rfl ?_
  refine Ev_put dX4_look_7 fr_X4_29_4 (gs h15b) rfl rfl rfl ?_
  refine Ev_st gss ?_
  refine Ev_aload_n dX4_look_10 rfl ?_
  refine Ev_iload_n dX4_look_11 rfl ?_
  refine Ev_iconst (v := 5) dX4_look_12 (by decide) ?_
  refine Ev_minN (u := m) (v := 5) dX4_look_13 wm_X4_33 (Nat.le_of_ble_eq_true rfl) (by omega) (by omega) ?_
  refine Ev_topi (y := nI m) (by rw [Nat.min_eq_left (by omega)]) ?_
  refine Ev_put dX4_look_16 fr_X4_39_4 (gs h15b) rfl rfl rfl ?_
  refine Ev_st gss ?_
  refine Ev_aload_n dX4_look_19 rfl ?_
  refine Ev_iload dX4_look_20 rfl ?_
  refine Ev_put dX4_look_22 fr_X4_42_4 (gs h15b) rfl rfl rfl ?_
  refine Ev_st gss ?_
  refine Ev_aload_n dX4_look_25 rfl ?_
  refine Ev_aload_n dX4_look_26 rfl ?_
  refine Ev_get dX4_look_27 fg_X4_25_4 (gs h15b) rfl ?_
  refine Ev_iconst (v := 1) dX4_look_30 (by decide) ?_
  refine Ev_callV (bc := 0) (b := 0) dX4_look_31 cv_X4_45 rfl (gn (by decide) h10) (Nat.le_of_ble_eq_true rfl) (by omega) ?_
  refine c_X2_readSet1 hp7 hn9 hq (gn (by decide) h10) (gn (by decide) h12) (gn (by decide) h13) hrd hro ?_
  refine Ev_put dX4_look_34 fr_X4_51_4 (gs h15b) rfl rfl rfl ?_
  refine Ev_st gss ?_
  refine Ev_aload_n dX4_look_37 rfl ?_
  refine Ev_aload_n dX4_look_38 rfl ?_
  refine Ev_get dX4_look_39 fg_X4_25_4 (gs h15b) rfl ?_
  refine Ev_iconst (v := 0) dX4_look_42 (by decide) ?_
  refine Ev_callV (bc := 0) (b := 0) dX4_look_43 cv_X4_45 rfl (gn (by decide) h10) (Nat.le_of_ble_eq_true rfl) (by omega) ?_
  refine c_X2_readSet0 hp7 hn9 hq (gn (by decide) h10) (gn (by decide) h12) (gn (by decide) h13) hrd hro ?_
  refine Ev_put dX4_look_46 fr_X4_54_4 (gs h15b) rfl rfl rfl ?_
  refine Ev_st gss ?_
  refine Ev_aload_n dX4_look_49 rfl ?_
  refine Ev_aload_n dX4_look_50 rfl ?_
  refine Ev_get dX4_look_51 fg_X4_25_4 (gs h15b) rfl ?_
  refine Ev_callV (bc := 0) (b := 0) dX4_look_54 cv_X4_57 rfl (gn (by decide) h10) (Nat.le_of_ble_eq_true rfl) (by omega) ?_
  refine c_X2_muddySet hp7 hn9 hq (gn (by decide) h10) hg (gn (by decide) h11) hsa (CN.off hC (by omega)) ?_
  refine Ev_put dX4_look_57 fr_X4_61_4 (gs h15b) rfl rfl rfl ?_
  refine Ev_st gss ?_
  refine Ev_aload_n dX4_look_60 rfl ?_
  refine Ev_iconst (v := 0) dX4_look_61 (by decide) ?_
  refine Ev_put dX4_look_62 fr_X4_64_4 (gs h15b) rfl rfl rfl ?_
  refine Ev_st gss ?_
  refine Ev_aload_n dX4_look_65 rfl ?_
  refine Ev_iconst (v := 0) dX4_look_66 (by decide) ?_
  refine Ev_put dX4_look_67 fr_X4_67_4 (gs h15b) rfl rfl rfl ?_
  refine Ev_st gss ?_
  refine Ev_aload_n dX4_look_70 rfl ?_
  refine Ev_iconst (v := 0) dX4_look_71 (by decide) ?_
  refine Ev_put dX4_look_72 fr_X4_70_4 (gs h15b) rfl rfl rfl ?_
  refine Ev_st gss ?_
  refine Ev_aload_n dX4_look_75 rfl ?_
  refine Ev_get dX4_look_76 fg_X4_11_4 (gs h15b) rfl ?_
  refine Ev_iconst (v := 0) dX4_look_79 (by decide) ?_
  refine Ev_aaloadN (j := 0) dX4_look_80 (gn (by decide) h16) (Or.inr (Or.inr rfl)) (by omega) (by decide) (some (17 + 0)) (hfa _ (by omega)) ?_
  refine Ev_callV (bc := 0) (b := 0) dX4_look_81 cv_X4_73 rfl (gn (by omega) hX1) (Nat.le_of_ble_eq_true rfl) (by omega) ?_
  refine c_X10_begin (gn (by omega) hX1) ?_
  refine Ev_aload_n dX4_look_84 rfl ?_
  refine Ev_iconst (v := 0) dX4_look_85 (by decide) ?_
  refine Ev_callV (bc := 0) (b := 0) dX4_look_86 cv_X4_76 rfl (gn (by omega) (gs h15b)) (Nat.le_of_ble_eq_true rfl) (by omega) ?_
  refine hgo _ _ un r0 0 ⟨(gn (by omega) (gn (by decide) h10)), ⟨sa, (gn (by omega) (gn (by decide) h11)), hsa⟩, (CN.off (CN.off hC (by omega)) (by omega)), fa, (gn (by omega) (gn (by decide) h16)), hfa⟩ ⟨_, _, _, _, _, (gn (by omega) (gs h15b)), (gn (by omega) (gn (by decide) h23b)), (gn (by omega) (gn (by decide) h24b)), fun x hx => absurd hx (Nat.not_lt_zero x), ⟨rfl, fun _ => ⟨rfl, rfl⟩, fun z s r h => by cases h⟩, (WX.put (WX.off hX (by decide)) (show 0 < 6 by decide))⟩ (by rw [WKC_0]; exact (gs (gn (by omega) hX1))) (fun x hx => absurd hx (Nat.not_lt_zero x)) hp0 (by rw [un_jn]; omega) (fun S2 hF2 hG2 => ?_)
  rw [un_jn] at hG2
  refine Ev_vret dX4_look_89 rfl ?_
  exact k S2 (FrL.go (FrL.st (FrL.st FrL.rf (by omega)) (by omega)) hF2) hG2

set_option maxHeartbeats 4000000 in
set_option maxRecDepth 100000 in
theorem c_X4_sf0 {d : Nat} {S : aS} {Q : Option Value → aS → Prop} {s j : Nat} {fo sc go mo mi wa uw mu : Int32} {K : Nat → Int32} (h15 : S[15]? = some (sC (nI s) fo sc go mo mi wa uw mu)) (h24 : S[24]? = some (iA 5 K)) (hs : s ≤ 5) (hj : j ≤ 4) (ky : j < s → Q (some (.int (K j))) S) (kn : ¬ j < s → Q (some (.int (-9))) S) : Mth mX4_stretchFound d 0 [.ref 15, .int (nI j)] S Q := by
  refine Mth_of (by decide) rfl ?_
  refine Ev_iload_n dX4_stretchFound_0 rfl ?_
  refine Ev_if_lt dX4_stretchFound_1 (fun c => absurd c (nI_pos (by omega))) (fun _ => ?_)
  refine Ev_iload_n dX4_stretchFound_4 rfl ?_
  refine Ev_aload_n dX4_stretchFound_5 rfl ?_
  refine Ev_get dX4_stretchFound_6 fg_X4_70_4 h15 rfl ?_
  refine Ev_icmp_ge dX4_stretchFound_9 (fun c1 => ?_) (fun c1 => ?_)
  · skip
    have c1 : s ≤ j := (nle (a := s) (b := j) (by omega) (by omega)).mp c1
    refine Ev_bipush (v := (-9)) dX4_stretchFound_30 (by decide) ?_
    refine Ev_iret dX4_stretchFound_32 rfl rfl ?_
    exact kn (by omega)
  · skip
    have c1 : ¬ (s ≤ j) := fun z => c1 ((nle (a := s) (b := j) (by omega) (by omega)).mpr z)
    refine Ev_iload_n dX4_stretchFound_12 rfl ?_
    refine Ev_aload_n dX4_stretchFound_13 rfl ?_
    refine Ev_get dX4_stretchFound_14 fg_X4_22_4 h15 rfl ?_
    refine Ev_alen (z := 5) dX4_stretchFound_17 h24 (by decide) rfl rfl ?_
    refine Ev_icmp_ge dX4_stretchFound_18 (fun c2 => ?_) (fun c2 => ?_)
    · skip
      have c2 : 5 ≤ j := (nle (a := 5) (b := j) (by omega) (by omega)).mp c2
      refine Ev_bipush (v := (-9)) dX4_stretchFound_30 (by decide) ?_
      refine Ev_iret dX4_stretchFound_32 rfl rfl ?_
      exact kn (by omega)
    · skip
      have c2 : ¬ (5 ≤ j) := fun z => c2 ((nle (a := 5) (b := j) (by omega) (by omega)).mpr z)
      refine Ev_aload_n dX4_stretchFound_21 rfl ?_
      refine Ev_get dX4_stretchFound_22 fg_X4_22_4 h15 rfl ?_
      refine Ev_iload_n dX4_stretchFound_25 rfl ?_
      refine Ev_ialoadN (j := j) dX4_stretchFound_26 h24 (by omega) (by decide) ?_
      refine Ev_goto dX4_stretchFound_27 ?_
      refine Ev_iret dX4_stretchFound_32 rfl rfl ?_
      exact ky (by omega)

def anJ (acc : rV) (j : Nat) : Int32 := match acc.2 with
  | none => -9
  | some (_, s, r) => if j < s then nI (r j) else -9
def anZ (o : Int) (acc : rV) : Int32 := match acc.2 with
  | none => -9
  | some (z, _, _) => iZ (o + z)
theorem c_X4_sf {d : Nat} {S : aS} {Q : Option Value → aS → Prop} {ks fo sc go mo mi wa uw mu : Int32} {K : Nat → Int32} {acc : rV} {j : Nat} (h15 : S[15]? = some (sC ks fo sc go mo mi wa uw mu)) (h24 : S[24]? = some (iA 5 K)) (hkp : kpC acc ks fo sc K) (hj : j ≤ 4) (k : Q (some (.int (anJ acc j))) S) : Mth mX4_stretchFound d 0 [.ref 15, .int (nI j)] S Q := by
  obtain ⟨c, bb⟩ := acc
  obtain ⟨k1, k2, k3⟩ := hkp
  cases bb with
  | none =>
    obtain ⟨-, e2⟩ := k2 rfl
    subst e2
    exact c_X4_sf0 (s := 0) h15 h24 (by decide) hj (fun h => absurd h (Nat.not_lt_zero j)) (fun _ => k)
  | some b =>
    obtain ⟨z, s, r⟩ := b
    obtain ⟨f1, f2, f3, f4, f5, f6, f7, f8⟩ := k3 z s r rfl
    subst f3
    have k : Q (some (.int (if j < s then nI (r j) else -9))) S := k
    refine c_X4_sf0 h15 h24 f5 hj (fun h => ?_) (fun h => ?_)
    · rw [if_pos h] at k
      rw [f8 j h]
      exact k
    · rw [if_neg h] at k
      exact k

set_option maxHeartbeats 4000000 in
set_option maxRecDepth 100000 in
theorem c_joyFound_0 {d : Nat} {S : aS} {Q : Option Value → aS → Prop} {lf : Int32} (hO : S[0]? = some (co lf)) {ks sc go mo mi wa uw mu : Int32} (h15 : S[15]? = some (sC ks 0 sc go mo mi wa uw mu)) (k : Q (some (.int (-9))) S) : Mth mX11_joyFound d 0 [.ref 0] S Q := by
  refine Mth_of (by decide) rfl ?_
  refine Ev_aload_n dX11_joyFound_0 rfl ?_
  refine Ev_get dX11_joyFound_1 fg_X11_35_11 hO rfl ?_
  refine Ev_get dX11_joyFound_4 fg_X11_205_4 h15 rfl ?_
  refine Ev_if_ne dX11_joyFound_7 (fun c => absurd (by decide) c) (fun _ => ?_)
  refine Ev_bipush (v := (-9)) dX11_joyFound_10 (by decide) ?_
  refine Ev_goto dX11_joyFound_12 ?_
  refine Ev_iret dX11_joyFound_25 rfl rfl ?_
  exact k

set_option maxHeartbeats 4000000 in
set_option maxRecDepth 100000 in
theorem c_joyFound_1 {d : Nat} {S : aS} {Q : Option Value → aS → Prop} {lf : Int32} (hO : S[0]? = some (co lf)) {ks go mo mi wa uw mu : Int32} {c5 : Nat} {z : Int} (h15 : S[15]? = some (sC ks (nI c5) (iZ z) go mo mi wa uw mu)) (hc : 0 < c5 ∧ c5 < 2147483648) (hz : -50000 ≤ z ∧ z ≤ 2000000) (k : Q (some (.int (iZ (100000 + z)))) S) : Mth mX11_joyFound d 0 [.ref 0] S Q := by
  refine Mth_of (by decide) rfl ?_
  refine Ev_aload_n dX11_joyFound_0 rfl ?_
  refine Ev_get dX11_joyFound_1 fg_X11_35_11 hO rfl ?_
  refine Ev_get dX11_joyFound_4 fg_X11_205_4 h15 rfl ?_
  refine Ev_if_ne dX11_joyFound_7 (fun _ => ?_) (fun c => absurd c (fun z => absurd ((nIinj (a := c5) (b := 0) (by omega) (by omega)).mp z) (by omega)))
  refine Ev_ldc dX11_joyFound_15 wl_X11_160 ?_
  refine Ev_aload_n dX11_joyFound_17 rfl ?_
  refine Ev_get dX11_joyFound_18 fg_X11_35_11 hO rfl ?_
  refine Ev_get dX11_joyFound_21 fg_X11_208_4 h15 rfl ?_
  refine Ev_iadd dX11_joyFound_24 ?_
  refine Ev_topi (y := iZ (100000 + z)) (toZ (xadd (x := 100000) rfl (iZt (by omega)) (by omega))) ?_
  refine Ev_iret dX11_joyFound_25 rfl rfl ?_
  exact k

theorem c_joyFound {d : Nat} {S : aS} {Q : Option Value → aS → Prop} {lf ks fo sc go mo mi wa uw mu : Int32} {K : Nat → Int32} {acc : rV} (hO : S[0]? = some (co lf)) (h15 : S[15]? = some (sC ks fo sc go mo mi wa uw mu)) (hkp : kpC acc ks fo sc K) (hcn : acc.1 < 2147483648) (k : Q (some (.int (anZ 100000 acc))) S) : Mth mX11_joyFound d 0 [.ref 0] S Q := by
  obtain ⟨c, bb⟩ := acc
  obtain ⟨k1, k2, k3⟩ := hkp
  cases bb with
  | none =>
    obtain ⟨e1, e2⟩ := k2 rfl
    have e1 : c = 0 := e1
    subst e1
    have k1 : fo = 0 := k1
    subst k1
    exact c_joyFound_0 hO h15 k
  | some b =>
    obtain ⟨z, s, r⟩ := b
    obtain ⟨f1, f2, f3, f4, f5, f6, f7, f8⟩ := k3 z s r rfl
    have k1 : fo = nI c := k1
    subst k1
    subst f2
    exact c_joyFound_1 hO h15 ⟨f1, hcn⟩ ⟨f6, f7⟩ k

set_option maxHeartbeats 4000000 in
set_option maxRecDepth 100000 in
theorem c_refusal {d : Nat} {S : aS} {Q : Option Value → aS → Prop} {lf : Int32} (hO : S[0]? = some (co lf)) {pl n q : Nat} {du lw fr : Int32} (hp7 : pl ≤ 7) (hn9 : n ≤ 9) (hq : q ≤ 8) (hN : S[10]? = some (nt (nI pl) (nI n) du lw fr (nI q))) {x y : Int32} (kb : ¬ ((1 ≤ x.toInt ∧ x.toInt ≤ 5) ∧ (-1 ≤ y.toInt ∧ y.toInt ≤ 4)) → Q (some (.int (-2))) S) (ks : ((1 ≤ x.toInt ∧ x.toInt ≤ 5) ∧ (-1 ≤ y.toInt ∧ y.toInt ≤ 4)) → pl = 0 → Q (some (.int (-3))) S) (k : ((1 ≤ x.toInt ∧ x.toInt ≤ 5) ∧ (-1 ≤ y.toInt ∧ y.toInt ≤ 4)) → ¬ pl = 0 → Q (some (.int 0)) S) : Mth mX11_refusalOfSearch (d + 1) 0 [.ref 0, .int x, .int y] S Q := by
  have z1 := z32_1; have z5 := z32_5; have zm := z32_m1; have z4 := z32_4
  refine Mth_of (by decide) rfl ?_
  refine Ev_iload_n dX11_refusalOfSearch_0 rfl ?_
  refine Ev_iconst (v := 1) dX11_refusalOfSearch_1 (by decide) ?_
  refine Ev_iconst (v := 5) dX11_refusalOfSearch_2 (by decide) ?_
  refine Ev_callS (bc := 0) (b := 0) dX11_refusalOfSearch_3 cs_X11_72 rfl (Nat.le_of_ble_eq_true rfl) (by omega) ?_
  refine c_X11_isWithin (fun q1 => ?_) (fun q1 => ?_)
  · skip
    refine Ev_if_eq dX11_refusalOfSearch_6 (fun c => absurd c (by decide)) (fun _ => ?_)
    refine Ev_iload_n dX11_refusalOfSearch_9 rfl ?_
    refine Ev_iconst (v := (-1)) dX11_refusalOfSearch_10 (by decide) ?_
    refine Ev_iconst (v := 4) dX11_refusalOfSearch_11 (by decide) ?_
    refine Ev_callS (bc := 0) (b := 0) dX11_refusalOfSearch_12 cs_X11_72 rfl (Nat.le_of_ble_eq_true rfl) (by omega) ?_
    refine c_X11_isWithin (fun q2 => ?_) (fun q2 => ?_)
    · skip
      refine Ev_if_ne dX11_refusalOfSearch_15 (fun _ => ?_) (fun c => absurd c (by decide))
      refine Ev_aload_n dX11_refusalOfSearch_21 rfl ?_
      refine Ev_get dX11_refusalOfSearch_22 fg_X11_21_11 hO rfl ?_
      refine Ev_callV (bc := 0) (b := 0) dX11_refusalOfSearch_25 cv_X11_130 rfl hN (Nat.le_of_ble_eq_true rfl) (by omega) ?_
      refine c_X2_isNone hp7 hn9 hq hN (fun q3 => ?_) (fun q3 => ?_)
      · skip
        refine Ev_if_eq dX11_refusalOfSearch_28 (fun c => absurd c (by decide)) (fun _ => ?_)
        refine Ev_bipush (v := (-3)) dX11_refusalOfSearch_31 (by decide) ?_
        refine Ev_goto dX11_refusalOfSearch_33 ?_
        refine Ev_iret dX11_refusalOfSearch_37 rfl rfl ?_
        first | exact k (by omega) (by omega) | exact ks (by omega) (by omega) | exact kb (by omega)
      · skip
        refine Ev_if_eq dX11_refusalOfSearch_28 (fun _ => ?_) (fun c => absurd (by decide) c)
        refine Ev_iconst (v := 0) dX11_refusalOfSearch_36 (by decide) ?_
        refine Ev_iret dX11_refusalOfSearch_37 rfl rfl ?_
        first | exact k (by omega) (by omega) | exact ks (by omega) (by omega) | exact kb (by omega)
    · skip
      refine Ev_if_ne dX11_refusalOfSearch_15 (fun c => absurd (by decide) c) (fun _ => ?_)
      refine Ev_bipush (v := (-2)) dX11_refusalOfSearch_18 (by decide) ?_
      refine Ev_iret dX11_refusalOfSearch_20 rfl rfl ?_
      first | exact k (by omega) (by omega) | exact ks (by omega) (by omega) | exact kb (by omega)
  · skip
    refine Ev_if_eq dX11_refusalOfSearch_6 (fun _ => ?_) (fun c => absurd (by decide) c)
    refine Ev_bipush (v := (-2)) dX11_refusalOfSearch_18 (by decide) ?_
    refine Ev_iret dX11_refusalOfSearch_20 rfl rfl ?_
    first | exact k (by omega) (by omega) | exact ks (by omega) (by omega) | exact kb (by omega)

set_option maxHeartbeats 4000000 in
set_option maxRecDepth 100000 in
theorem c_X11_best_b {d : Nat} {S : aS} {Q : Option Value → aS → Prop} {lf : Int32} (hO : S[0]? = some (co lf)) {pl n q : Nat} {du lw fr : Int32} (hp7 : pl ≤ 7) (hn9 : n ≤ 9) (hq : q ≤ 8) (hN : S[10]? = some (nt (nI pl) (nI n) du lw fr (nI q))) {x y : Int32} (hxy : ¬ ((1 ≤ x.toInt ∧ x.toInt ≤ 5) ∧ (-1 ≤ y.toInt ∧ y.toInt ≤ 4))) (k : Q (some (.int (-2))) S) : Mth mX11_best (d + 2) 0 [.ref 0, .int x, .int y] S Q := by
  refine Mth_of (by decide) rfl ?_
  refine Ev_aload_n dX11_best_0 rfl ?_
  refine Ev_iload_n dX11_best_1 rfl ?_
  refine Ev_iload_n dX11_best_2 rfl ?_
  refine Ev_callV (bc := 0) (b := 0) dX11_best_3 cv_X11_191 rfl hO (Nat.le_of_ble_eq_true rfl) (by omega) ?_
  refine c_refusal hO hp7 hn9 hq hN (fun _ => ?_) (fun q => absurd q hxy) (fun q => absurd q hxy)
  refine Ev_istore_n dX11_best_6 rfl ?_
  refine Ev_iload_n dX11_best_7 rfl ?_
  refine Ev_if_eq dX11_best_8 (fun c => absurd c (by decide)) (fun _ => ?_)
  refine Ev_iload_n dX11_best_11 rfl ?_
  refine Ev_iret dX11_best_12 rfl rfl ?_
  exact k

set_option maxHeartbeats 4000000 in
set_option maxRecDepth 100000 in
theorem c_X11_best_s {d : Nat} {S : aS} {Q : Option Value → aS → Prop} {lf : Int32} (hO : S[0]? = some (co lf)) {pl n q : Nat} {du lw fr : Int32} (hp7 : pl ≤ 7) (hn9 : n ≤ 9) (hq : q ≤ 8) (hN : S[10]? = some (nt (nI pl) (nI n) du lw fr (nI q))) {x y : Int32} (hxy : (1 ≤ x.toInt ∧ x.toInt ≤ 5) ∧ (-1 ≤ y.toInt ∧ y.toInt ≤ 4)) (hpl : pl = 0) (k : Q (some (.int (-3))) S) : Mth mX11_best (d + 2) 0 [.ref 0, .int x, .int y] S Q := by
  refine Mth_of (by decide) rfl ?_
  refine Ev_aload_n dX11_best_0 rfl ?_
  refine Ev_iload_n dX11_best_1 rfl ?_
  refine Ev_iload_n dX11_best_2 rfl ?_
  refine Ev_callV (bc := 0) (b := 0) dX11_best_3 cv_X11_191 rfl hO (Nat.le_of_ble_eq_true rfl) (by omega) ?_
  refine c_refusal hO hp7 hn9 hq hN (fun q => absurd hxy q) (fun _ _ => ?_) (fun _ q => absurd hpl q)
  refine Ev_istore_n dX11_best_6 rfl ?_
  refine Ev_iload_n dX11_best_7 rfl ?_
  refine Ev_if_eq dX11_best_8 (fun c => absurd c (by decide)) (fun _ => ?_)
  refine Ev_iload_n dX11_best_11 rfl ?_
  refine Ev_iret dX11_best_12 rfl rfl ?_
  exact k

set_option maxHeartbeats 4000000 in
set_option maxRecDepth 100000 in
theorem c_X11_safest_b {d : Nat} {S : aS} {Q : Option Value → aS → Prop} {lf : Int32} (hO : S[0]? = some (co lf)) {pl n q : Nat} {du lw fr : Int32} (hp7 : pl ≤ 7) (hn9 : n ≤ 9) (hq : q ≤ 8) (hN : S[10]? = some (nt (nI pl) (nI n) du lw fr (nI q))) {x y : Int32} (hxy : ¬ ((1 ≤ x.toInt ∧ x.toInt ≤ 5) ∧ (-1 ≤ y.toInt ∧ y.toInt ≤ 4))) (k : Q (some (.int (-2))) S) : Mth mX11_safest (d + 2) 0 [.ref 0, .int x, .int y] S Q := by
  refine Mth_of (by decide) rfl ?_
  refine Ev_aload_n dX11_safest_0 rfl ?_
  refine Ev_iload_n dX11_safest_1 rfl ?_
  refine Ev_iload_n dX11_safest_2 rfl ?_
  refine Ev_callV (bc := 0) (b := 0) dX11_safest_3 cv_X11_191 rfl hO (Nat.le_of_ble_eq_true rfl) (by omega) ?_
  refine c_refusal hO hp7 hn9 hq hN (fun _ => ?_) (fun q => absurd q hxy) (fun q => absurd q hxy)
  refine Ev_istore_n dX11_safest_6 rfl ?_
  refine Ev_iload_n dX11_safest_7 rfl ?_
  refine Ev_if_eq dX11_safest_8 (fun c => absurd c (by decide)) (fun _ => ?_)
  refine Ev_iload_n dX11_safest_11 rfl ?_
  refine Ev_iret dX11_safest_12 rfl rfl ?_
  exact k

set_option maxHeartbeats 4000000 in
set_option maxRecDepth 100000 in
theorem c_X11_safest_s {d : Nat} {S : aS} {Q : Option Value → aS → Prop} {lf : Int32} (hO : S[0]? = some (co lf)) {pl n q : Nat} {du lw fr : Int32} (hp7 : pl ≤ 7) (hn9 : n ≤ 9) (hq : q ≤ 8) (hN : S[10]? = some (nt (nI pl) (nI n) du lw fr (nI q))) {x y : Int32} (hxy : (1 ≤ x.toInt ∧ x.toInt ≤ 5) ∧ (-1 ≤ y.toInt ∧ y.toInt ≤ 4)) (hpl : pl = 0) (k : Q (some (.int (-3))) S) : Mth mX11_safest (d + 2) 0 [.ref 0, .int x, .int y] S Q := by
  refine Mth_of (by decide) rfl ?_
  refine Ev_aload_n dX11_safest_0 rfl ?_
  refine Ev_iload_n dX11_safest_1 rfl ?_
  refine Ev_iload_n dX11_safest_2 rfl ?_
  refine Ev_callV (bc := 0) (b := 0) dX11_safest_3 cv_X11_191 rfl hO (Nat.le_of_ble_eq_true rfl) (by omega) ?_
  refine c_refusal hO hp7 hn9 hq hN (fun q => absurd hxy q) (fun _ _ => ?_) (fun _ q => absurd hpl q)
  refine Ev_istore_n dX11_safest_6 rfl ?_
  refine Ev_iload_n dX11_safest_7 rfl ?_
  refine Ev_if_eq dX11_safest_8 (fun c => absurd c (by decide)) (fun _ => ?_)
  refine Ev_iload_n dX11_safest_11 rfl ?_
  refine Ev_iret dX11_safest_12 rfl rfl ?_
  exact k

set_option maxHeartbeats 4000000 in
set_option maxRecDepth 100000 in
theorem c_X11_trails_t {d : Nat} {S : aS} {Q : Option Value → aS → Prop} {lf : Int32} (hO : S[0]? = some (co lf)) {pl n q : Nat} {du lw fr : Int32} (hp7 : pl ≤ 7) (hn9 : n ≤ 9) (hq : q ≤ 8) (hN : S[10]? = some (nt (nI pl) (nI n) du lw fr (nI q))) {x y t : Int32} (ht : ¬ (0 ≤ t.toInt ∧ t.toInt ≤ 200)) (k : Q (some (.int (-2))) S) : Mth mX11_trails (d + 2) 0 [.ref 0, .int x, .int t, .int y] S Q := by
  refine Mth_of (by decide) rfl ?_
  refine Ev_iload_n dX11_trails_0 rfl ?_
  refine Ev_iconst (v := 0) dX11_trails_1 (by decide) ?_
  refine Ev_sipush (v := 200) dX11_trails_2 (by decide) ?_
  refine Ev_callS (bc := 0) (b := 0) dX11_trails_5 cs_X11_72 rfl (Nat.le_of_ble_eq_true rfl) (by omega) ?_
  refine c_X11_isWithin (fun q => absurd q ht) (fun _ => ?_)
  refine Ev_if_ne dX11_trails_8 (fun c => absurd (by decide) c) (fun _ => ?_)
  refine Ev_bipush (v := (-2)) dX11_trails_11 (by decide) ?_
  refine Ev_iret dX11_trails_13 rfl rfl ?_
  exact k

set_option maxHeartbeats 4000000 in
set_option maxRecDepth 100000 in
theorem c_X11_trails_b {d : Nat} {S : aS} {Q : Option Value → aS → Prop} {lf : Int32} (hO : S[0]? = some (co lf)) {pl n q : Nat} {du lw fr : Int32} (hp7 : pl ≤ 7) (hn9 : n ≤ 9) (hq : q ≤ 8) (hN : S[10]? = some (nt (nI pl) (nI n) du lw fr (nI q))) {x y t : Int32} (ht : (0 ≤ t.toInt ∧ t.toInt ≤ 200)) (hxy : ¬ ((1 ≤ x.toInt ∧ x.toInt ≤ 5) ∧ (-1 ≤ y.toInt ∧ y.toInt ≤ 4))) (k : Q (some (.int (-2))) S) : Mth mX11_trails (d + 2) 0 [.ref 0, .int x, .int t, .int y] S Q := by
  refine Mth_of (by decide) rfl ?_
  refine Ev_iload_n dX11_trails_0 rfl ?_
  refine Ev_iconst (v := 0) dX11_trails_1 (by decide) ?_
  refine Ev_sipush (v := 200) dX11_trails_2 (by decide) ?_
  refine Ev_callS (bc := 0) (b := 0) dX11_trails_5 cs_X11_72 rfl (Nat.le_of_ble_eq_true rfl) (by omega) ?_
  refine c_X11_isWithin (fun _ => ?_) (fun q => absurd q (not_not_intro ht))
  refine Ev_if_ne dX11_trails_8 (fun _ => ?_) (fun c => absurd c (by decide))
  refine Ev_aload_n dX11_trails_14 rfl ?_
  refine Ev_iload_n dX11_trails_15 rfl ?_
  refine Ev_iload_n dX11_trails_16 rfl ?_
  refine Ev_callV (bc := 0) (b := 0) dX11_trails_17 cv_X11_191 rfl hO (Nat.le_of_ble_eq_true rfl) (by omega) ?_
  refine c_refusal hO hp7 hn9 hq hN (fun _ => ?_) (fun q => absurd q hxy) (fun q => absurd q hxy)
  refine Ev_istore dX11_trails_20 rfl ?_
  refine Ev_iload dX11_trails_22 rfl ?_
  refine Ev_if_eq dX11_trails_24 (fun c => absurd c (by decide)) (fun _ => ?_)
  refine Ev_iload dX11_trails_27 rfl ?_
  refine Ev_iret dX11_trails_29 rfl rfl ?_
  exact k

set_option maxHeartbeats 4000000 in
set_option maxRecDepth 100000 in
theorem c_X11_trails_s {d : Nat} {S : aS} {Q : Option Value → aS → Prop} {lf : Int32} (hO : S[0]? = some (co lf)) {pl n q : Nat} {du lw fr : Int32} (hp7 : pl ≤ 7) (hn9 : n ≤ 9) (hq : q ≤ 8) (hN : S[10]? = some (nt (nI pl) (nI n) du lw fr (nI q))) {x y t : Int32} (ht : (0 ≤ t.toInt ∧ t.toInt ≤ 200)) (hxy : (1 ≤ x.toInt ∧ x.toInt ≤ 5) ∧ (-1 ≤ y.toInt ∧ y.toInt ≤ 4)) (hpl : pl = 0) (k : Q (some (.int (-3))) S) : Mth mX11_trails (d + 2) 0 [.ref 0, .int x, .int t, .int y] S Q := by
  refine Mth_of (by decide) rfl ?_
  refine Ev_iload_n dX11_trails_0 rfl ?_
  refine Ev_iconst (v := 0) dX11_trails_1 (by decide) ?_
  refine Ev_sipush (v := 200) dX11_trails_2 (by decide) ?_
  refine Ev_callS (bc := 0) (b := 0) dX11_trails_5 cs_X11_72 rfl (Nat.le_of_ble_eq_true rfl) (by omega) ?_
  refine c_X11_isWithin (fun _ => ?_) (fun q => absurd q (not_not_intro ht))
  refine Ev_if_ne dX11_trails_8 (fun _ => ?_) (fun c => absurd c (by decide))
  refine Ev_aload_n dX11_trails_14 rfl ?_
  refine Ev_iload_n dX11_trails_15 rfl ?_
  refine Ev_iload_n dX11_trails_16 rfl ?_
  refine Ev_callV (bc := 0) (b := 0) dX11_trails_17 cv_X11_191 rfl hO (Nat.le_of_ble_eq_true rfl) (by omega) ?_
  refine c_refusal hO hp7 hn9 hq hN (fun q => absurd hxy q) (fun _ _ => ?_) (fun _ q => absurd hpl q)
  refine Ev_istore dX11_trails_20 rfl ?_
  refine Ev_iload dX11_trails_22 rfl ?_
  refine Ev_if_eq dX11_trails_24 (fun c => absurd c (by decide)) (fun _ => ?_)
  refine Ev_iload dX11_trails_27 rfl ?_
  refine Ev_iret dX11_trails_29 rfl rfl ?_
  exact k

theorem nI_n1 {x : Nat} (h : x < 2147483648) : ¬ nI x = -1 := by
  intro z
  have h1 := nIt h
  rw [z] at h1
  have h2 : (-1 : Int32).toInt = -1 := by decide
  omega
theorem anZ_0 {acc : rV} {ks fo sc : Int32} {K : Nat → Int32} (hkp : kpC acc ks fo sc K) (hc : acc.1 < 2147483648) (hf : fo = 0) : anZ 0 acc = -9 := by
  obtain ⟨c, bb⟩ := acc
  obtain ⟨k1, k2, k3⟩ := hkp
  cases bb with
  | none => rfl
  | some b =>
    obtain ⟨z, s, r⟩ := b
    obtain ⟨f1, -⟩ := k3 z s r rfl
    have f1 : 0 < c := f1
    have k1 : fo = nI c := k1
    rw [k1] at hf
    have := (nIinj (a := c) (b := 0) hc (by decide)).mp hf
    omega
theorem anZ_1 {acc : rV} {ks fo sc : Int32} {K : Nat → Int32} (hkp : kpC acc ks fo sc K) (hc : acc.1 < 2147483648) (hf : ¬ fo = 0) : anZ 0 acc = sc := by
  obtain ⟨c, bb⟩ := acc
  obtain ⟨k1, k2, k3⟩ := hkp
  cases bb with
  | none =>
    obtain ⟨e1, -⟩ := k2 rfl
    have e1 : c = 0 := e1
    subst e1
    exact absurd k1 hf
  | some b =>
    obtain ⟨z, s, r⟩ := b
    obtain ⟨f1, f2, -⟩ := k3 z s r rfl
    rw [f2]
    show iZ (0 + z) = iZ z
    rw [Int.zero_add]

set_option maxHeartbeats 4000000 in
set_option maxRecDepth 100000 in
theorem c_X11_best_m {d : Nat} {S : aS} {Q : Option Value → aS → Prop} {m pl n q cs : Nat} {du lw fr lf : Int32} {G : Nat → Nat → Nat} {fz : Int} {ad : Nat → Nat} {ro : Nat → Nat} {rb : Nat → Bool} {fo fw : Nat → Int32} (hlw : 0 ≤ lw.toInt ∧ lw.toInt ≤ 2) (hdu : 0 ≤ du.toInt ∧ du.toInt ≤ 99) (hO : S[0]? = some (co lf)) (hg : GD pl n G) (hq : q ≤ 8) (hm : 1 ≤ m ∧ m ≤ 5) (hpl : ¬ pl = 0) (he : eC S pl n q cs du lw fr G fz ad) (h15 : ∃ (x1 x2 x3 x4 x5 x6 x7 x8 x9 : Int32) (v : Value), S[15]? = some (.inr (4, [.ref 16, .ref 23, .ref 24, .int x1, .int x2, .int x3, v, .int x4, .int x5, .int x6, .int x7, .int x8, .int x9]))) (h23 : ∃ f : Nat → Int32, S[23]? = some (iA 5 f)) (h24 : ∃ f : Nat → Int32, S[24]? = some (iA 5 f)) (hX : WX S) (h12 : S[12]? = some (iA 8 fo)) (h13 : S[13]? = some (zA 8 fw)) (hrd : ∀ x, x < q → fo x = nI (ro x) ∧ fw x = bz (rb x)) (hro : ∀ x, x < q → ro x < n) (k : ∀ S2, FrL S S2 → cG S2 0 (nI m) 0 (nI (rdS ro rb true q)) (nI (rdS ro rb false q)) (nI (mdS G n)) (Dn G cs n (pl - 1) (vJ G n fz lw.toInt du.toInt) m 0 r0 0) 0 r0 → Q (some (.int (anZ 100000 (Dn G cs n (pl - 1) (vJ G n fz lw.toInt du.toInt) m 0 r0 0)))) S2)  : Mth mX11_best (d + 16) 0 [.ref 0, .int (nI m), .int (-1)] S Q := by
  have hn9 := hg.2.1
  have hp7 := hg.1
  have hp0 : 0 < pl := by omega
  have hcn := Dn_small (G := G) (cs := cs) (hm := pl - 1) (val := vJ G n fz lw.toInt du.toInt) (fun _ _ => Nat.le_refl _) hn9 hm.2 0 r0 0
  have h15d := h15
  obtain ⟨x1, x2, x3, x4, x5, x6, x7, x8, x9, v, h15c⟩ := h15d
  have hxy : (1 ≤ (nI m).toInt ∧ (nI m).toInt ≤ 5) ∧ (-1 ≤ ((-1) : Int32).toInt ∧ ((-1) : Int32).toInt ≤ 4) := by
    rw [nIt (by omega)]
    exact ⟨by omega, by decide⟩
  refine Mth_of (by decide) rfl ?_
  refine Ev_aload_n dX11_best_0 rfl ?_
  refine Ev_iload_n dX11_best_1 rfl ?_
  refine Ev_iload_n dX11_best_2 rfl ?_
  refine Ev_callV (bc := 0) (b := 0) dX11_best_3 cv_X11_191 rfl hO (Nat.le_of_ble_eq_true rfl) (by omega) ?_
  refine c_refusal hO hp7 hn9 hq he.1 (fun z => absurd hxy z) (fun _ z => absurd z hpl) (fun _ _ => ?_)
  refine Ev_istore_n dX11_best_6 rfl ?_
  refine Ev_iload_n dX11_best_7 rfl ?_
  refine Ev_if_eq dX11_best_8 (fun _ => ?_) (fun c => absurd (by decide) c)
  refine Ev_aload_n dX11_best_13 rfl ?_
  refine Ev_get dX11_best_14 fg_X11_35_11 hO rfl ?_
  refine Ev_aload_n dX11_best_17 rfl ?_
  refine Ev_get dX11_best_18 fg_X11_21_11 hO rfl ?_
  refine Ev_iconst (v := 0) dX11_best_21 (by decide) ?_
  refine Ev_iload_n dX11_best_22 rfl ?_
  refine Ev_iconst (v := 0) dX11_best_23 (by decide) ?_
  refine Ev_callV (bc := 0) (b := 0) dX11_best_24 cv_X11_195 rfl h15c (Nat.le_of_ble_eq_true rfl) (by omega) ?_
  refine c_look hg hq hm hp0 he h15 h23 h24 hX h12 h13 hrd hro (wgh0 hg hq hlw hdu) (fun _ _ => Nat.le_refl _) (fun S2 hF2 hG2 => ?_)
  have hG3 := hG2
  obtain ⟨ks, fo2, sc, R, K, g15, g23, g24, hR, hkp, hX2⟩ := hG3
  refine Ev_iload_n dX11_best_27 rfl ?_
  refine Ev_iconst (v := (-1)) dX11_best_28 (by decide) ?_
  refine Ev_icmp_ne dX11_best_29 (fun c => absurd (by decide) c) (fun _ => ?_)
  refine Ev_aload_n dX11_best_32 rfl ?_
  refine Ev_callV (bc := 0) (b := 0) dX11_best_33 cv_X11_199 rfl (hF2.at hO (by omega)) (Nat.le_of_ble_eq_true rfl) (by omega) ?_
  refine c_joyFound (hF2.at hO (by omega)) g15 hkp (Nat.lt_of_le_of_lt hcn (by decide)) ?_
  refine Ev_goto dX11_best_36 ?_
  refine Ev_iret dX11_best_47 rfl rfl ?_
  exact k S2 hF2 hG2

set_option maxHeartbeats 4000000 in
set_option maxRecDepth 100000 in
theorem c_X11_best_j {d : Nat} {S : aS} {Q : Option Value → aS → Prop} {m pl n q cs : Nat} {du lw fr lf : Int32} {G : Nat → Nat → Nat} {fz : Int} {ad : Nat → Nat} {ro : Nat → Nat} {rb : Nat → Bool} {fo fw : Nat → Int32} (hlw : 0 ≤ lw.toInt ∧ lw.toInt ≤ 2) (hdu : 0 ≤ du.toInt ∧ du.toInt ≤ 99) {j : Nat} (hj : j ≤ 4) (hO : S[0]? = some (co lf)) (hg : GD pl n G) (hq : q ≤ 8) (hm : 1 ≤ m ∧ m ≤ 5) (hpl : ¬ pl = 0) (he : eC S pl n q cs du lw fr G fz ad) (h15 : ∃ (x1 x2 x3 x4 x5 x6 x7 x8 x9 : Int32) (v : Value), S[15]? = some (.inr (4, [.ref 16, .ref 23, .ref 24, .int x1, .int x2, .int x3, v, .int x4, .int x5, .int x6, .int x7, .int x8, .int x9]))) (h23 : ∃ f : Nat → Int32, S[23]? = some (iA 5 f)) (h24 : ∃ f : Nat → Int32, S[24]? = some (iA 5 f)) (hX : WX S) (h12 : S[12]? = some (iA 8 fo)) (h13 : S[13]? = some (zA 8 fw)) (hrd : ∀ x, x < q → fo x = nI (ro x) ∧ fw x = bz (rb x)) (hro : ∀ x, x < q → ro x < n) (k : ∀ S2, FrL S S2 → cG S2 0 (nI m) 0 (nI (rdS ro rb true q)) (nI (rdS ro rb false q)) (nI (mdS G n)) (Dn G cs n (pl - 1) (vJ G n fz lw.toInt du.toInt) m 0 r0 0) 0 r0 → Q (some (.int (anJ (Dn G cs n (pl - 1) (vJ G n fz lw.toInt du.toInt) m 0 r0 0) j))) S2)  : Mth mX11_best (d + 16) 0 [.ref 0, .int (nI m), .int (nI j)] S Q := by
  have hn9 := hg.2.1
  have hp7 := hg.1
  have hp0 : 0 < pl := by omega
  have hcn := Dn_small (G := G) (cs := cs) (hm := pl - 1) (val := vJ G n fz lw.toInt du.toInt) (fun _ _ => Nat.le_refl _) hn9 hm.2 0 r0 0
  have h15d := h15
  obtain ⟨x1, x2, x3, x4, x5, x6, x7, x8, x9, v, h15c⟩ := h15d
  have hxy : (1 ≤ (nI m).toInt ∧ (nI m).toInt ≤ 5) ∧ (-1 ≤ (nI j : Int32).toInt ∧ (nI j : Int32).toInt ≤ 4) := by
    rw [nIt (by omega), nIt (by omega)]
    omega
  refine Mth_of (by decide) rfl ?_
  refine Ev_aload_n dX11_best_0 rfl ?_
  refine Ev_iload_n dX11_best_1 rfl ?_
  refine Ev_iload_n dX11_best_2 rfl ?_
  refine Ev_callV (bc := 0) (b := 0) dX11_best_3 cv_X11_191 rfl hO (Nat.le_of_ble_eq_true rfl) (by omega) ?_
  refine c_refusal hO hp7 hn9 hq he.1 (fun z => absurd hxy z) (fun _ z => absurd z hpl) (fun _ _ => ?_)
  refine Ev_istore_n dX11_best_6 rfl ?_
  refine Ev_iload_n dX11_best_7 rfl ?_
  refine Ev_if_eq dX11_best_8 (fun _ => ?_) (fun c => absurd (by decide) c)
  refine Ev_aload_n dX11_best_13 rfl ?_
  refine Ev_get dX11_best_14 fg_X11_35_11 hO rfl ?_
  refine Ev_aload_n dX11_best_17 rfl ?_
  refine Ev_get dX11_best_18 fg_X11_21_11 hO rfl ?_
  refine Ev_iconst (v := 0) dX11_best_21 (by decide) ?_
  refine Ev_iload_n dX11_best_22 rfl ?_
  refine Ev_iconst (v := 0) dX11_best_23 (by decide) ?_
  refine Ev_callV (bc := 0) (b := 0) dX11_best_24 cv_X11_195 rfl h15c (Nat.le_of_ble_eq_true rfl) (by omega) ?_
  refine c_look hg hq hm hp0 he h15 h23 h24 hX h12 h13 hrd hro (wgh0 hg hq hlw hdu) (fun _ _ => Nat.le_refl _) (fun S2 hF2 hG2 => ?_)
  have hG3 := hG2
  obtain ⟨ks, fo2, sc, R, K, g15, g23, g24, hR, hkp, hX2⟩ := hG3
  refine Ev_iload_n dX11_best_27 rfl ?_
  refine Ev_iconst (v := (-1)) dX11_best_28 (by decide) ?_
  refine Ev_icmp_ne dX11_best_29 (fun _ => ?_) (fun c => absurd c (nI_n1 (by omega)))
  refine Ev_aload_n dX11_best_39 rfl ?_
  refine Ev_get dX11_best_40 fg_X11_35_11 (hF2.at hO (by omega)) rfl ?_
  refine Ev_iload_n dX11_best_43 rfl ?_
  refine Ev_callV (bc := 0) (b := 0) dX11_best_44 cv_X11_202 rfl g15 (Nat.le_of_ble_eq_true rfl) (by omega) ?_
  refine c_X4_sf g15 g24 hkp hj ?_
  refine Ev_iret dX11_best_47 rfl rfl ?_
  exact k S2 hF2 hG2

set_option maxHeartbeats 4000000 in
set_option maxRecDepth 100000 in
theorem c_X11_safest_m {d : Nat} {S : aS} {Q : Option Value → aS → Prop} {m pl n q cs : Nat} {du lw fr lf : Int32} {G : Nat → Nat → Nat} {fz : Int} {ad : Nat → Nat} {ro : Nat → Nat} {rb : Nat → Bool} {fo fw : Nat → Int32} (hO : S[0]? = some (co lf)) (hg : GD pl n G) (hq : q ≤ 8) (hm : 1 ≤ m ∧ m ≤ 5) (hpl : ¬ pl = 0) (he : eC S pl n q cs du lw fr G fz ad) (h15 : ∃ (x1 x2 x3 x4 x5 x6 x7 x8 x9 : Int32) (v : Value), S[15]? = some (.inr (4, [.ref 16, .ref 23, .ref 24, .int x1, .int x2, .int x3, v, .int x4, .int x5, .int x6, .int x7, .int x8, .int x9]))) (h23 : ∃ f : Nat → Int32, S[23]? = some (iA 5 f)) (h24 : ∃ f : Nat → Int32, S[24]? = some (iA 5 f)) (hX : WX S) (h12 : S[12]? = some (iA 8 fo)) (h13 : S[13]? = some (zA 8 fw)) (hrd : ∀ x, x < q → fo x = nI (ro x) ∧ fw x = bz (rb x)) (hro : ∀ x, x < q → ro x < n) (k : ∀ S2, FrL S S2 → cG S2 1 (nI m) 0 (nI (rdS ro rb true q)) (nI (rdS ro rb false q)) (nI (mdS G n)) (Dn G cs n (pl - 1) (vS G fz) m 0 r0 0) 0 r0 → Q (some (.int (anZ 0 (Dn G cs n (pl - 1) (vS G fz) m 0 r0 0)))) S2)  : Mth mX11_safest (d + 16) 0 [.ref 0, .int (nI m), .int (-1)] S Q := by
  have hn9 := hg.2.1
  have hp7 := hg.1
  have hp0 : 0 < pl := by omega
  have hcn := Dn_small (G := G) (cs := cs) (hm := pl - 1) (val := vS G fz) (fun _ _ => Nat.le_refl _) hn9 hm.2 0 r0 0
  have h15d := h15
  obtain ⟨x1, x2, x3, x4, x5, x6, x7, x8, x9, v, h15c⟩ := h15d
  have hxy : (1 ≤ (nI m).toInt ∧ (nI m).toInt ≤ 5) ∧ (-1 ≤ ((-1) : Int32).toInt ∧ ((-1) : Int32).toInt ≤ 4) := by
    rw [nIt (by omega)]
    exact ⟨by omega, by decide⟩
  refine Mth_of (by decide) rfl ?_
  refine Ev_aload_n dX11_safest_0 rfl ?_
  refine Ev_iload_n dX11_safest_1 rfl ?_
  refine Ev_iload_n dX11_safest_2 rfl ?_
  refine Ev_callV (bc := 0) (b := 0) dX11_safest_3 cv_X11_191 rfl hO (Nat.le_of_ble_eq_true rfl) (by omega) ?_
  refine c_refusal hO hp7 hn9 hq he.1 (fun z => absurd hxy z) (fun _ z => absurd z hpl) (fun _ _ => ?_)
  refine Ev_istore_n dX11_safest_6 rfl ?_
  refine Ev_iload_n dX11_safest_7 rfl ?_
  refine Ev_if_eq dX11_safest_8 (fun _ => ?_) (fun c => absurd (by decide) c)
  refine Ev_aload_n dX11_safest_13 rfl ?_
  refine Ev_get dX11_safest_14 fg_X11_35_11 hO rfl ?_
  refine Ev_aload_n dX11_safest_17 rfl ?_
  refine Ev_get dX11_safest_18 fg_X11_21_11 hO rfl ?_
  refine Ev_iconst (v := 1) dX11_safest_21 (by decide) ?_
  refine Ev_iload_n dX11_safest_22 rfl ?_
  refine Ev_iconst (v := 0) dX11_safest_23 (by decide) ?_
  refine Ev_callV (bc := 0) (b := 0) dX11_safest_24 cv_X11_195 rfl h15c (Nat.le_of_ble_eq_true rfl) (by omega) ?_
  refine c_look hg hq hm hp0 he h15 h23 h24 hX h12 h13 hrd hro wgh1 (fun _ _ => Nat.le_refl _) (fun S2 hF2 hG2 => ?_)
  have hG3 := hG2
  obtain ⟨ks, fo2, sc, R, K, g15, g23, g24, hR, hkp, hX2⟩ := hG3
  refine Ev_iload_n dX11_safest_27 rfl ?_
  refine Ev_iconst (v := (-1)) dX11_safest_28 (by decide) ?_
  refine Ev_icmp_eq dX11_safest_29 (fun _ => ?_) (fun c => absurd (by decide) c)
  refine Ev_aload_n dX11_safest_41 rfl ?_
  refine Ev_get dX11_safest_42 fg_X11_35_11 (hF2.at hO (by omega)) rfl ?_
  refine Ev_get dX11_safest_45 fg_X11_205_4 g15 rfl ?_
  refine Ev_if_ne dX11_safest_48 (fun c1 => ?_) (fun c1 => ?_)
  · skip
    have c8 := c1
    refine Ev_aload_n dX11_safest_56 rfl ?_
    refine Ev_get dX11_safest_57 fg_X11_35_11 (hF2.at hO (by omega)) rfl ?_
    refine Ev_get dX11_safest_60 fg_X11_208_4 g15 rfl ?_
    refine Ev_iret dX11_safest_63 rfl rfl ?_
    have hk := k S2 hF2 hG2
    rw [anZ_1 hkp (Nat.lt_of_le_of_lt hcn (by decide)) c8] at hk
    exact hk
  · skip
    have c8 := c1
    refine Ev_bipush (v := (-9)) dX11_safest_51 (by decide) ?_
    refine Ev_goto dX11_safest_53 ?_
    refine Ev_iret dX11_safest_63 rfl rfl ?_
    have hk := k S2 hF2 hG2
    rw [anZ_0 hkp (Nat.lt_of_le_of_lt hcn (by decide)) c8] at hk
    exact hk

set_option maxHeartbeats 4000000 in
set_option maxRecDepth 100000 in
theorem c_X11_safest_j {d : Nat} {S : aS} {Q : Option Value → aS → Prop} {m pl n q cs : Nat} {du lw fr lf : Int32} {G : Nat → Nat → Nat} {fz : Int} {ad : Nat → Nat} {ro : Nat → Nat} {rb : Nat → Bool} {fo fw : Nat → Int32} {j : Nat} (hj : j ≤ 4) (hO : S[0]? = some (co lf)) (hg : GD pl n G) (hq : q ≤ 8) (hm : 1 ≤ m ∧ m ≤ 5) (hpl : ¬ pl = 0) (he : eC S pl n q cs du lw fr G fz ad) (h15 : ∃ (x1 x2 x3 x4 x5 x6 x7 x8 x9 : Int32) (v : Value), S[15]? = some (.inr (4, [.ref 16, .ref 23, .ref 24, .int x1, .int x2, .int x3, v, .int x4, .int x5, .int x6, .int x7, .int x8, .int x9]))) (h23 : ∃ f : Nat → Int32, S[23]? = some (iA 5 f)) (h24 : ∃ f : Nat → Int32, S[24]? = some (iA 5 f)) (hX : WX S) (h12 : S[12]? = some (iA 8 fo)) (h13 : S[13]? = some (zA 8 fw)) (hrd : ∀ x, x < q → fo x = nI (ro x) ∧ fw x = bz (rb x)) (hro : ∀ x, x < q → ro x < n) (k : ∀ S2, FrL S S2 → cG S2 1 (nI m) 0 (nI (rdS ro rb true q)) (nI (rdS ro rb false q)) (nI (mdS G n)) (Dn G cs n (pl - 1) (vS G fz) m 0 r0 0) 0 r0 → Q (some (.int (anJ (Dn G cs n (pl - 1) (vS G fz) m 0 r0 0) j))) S2)  : Mth mX11_safest (d + 16) 0 [.ref 0, .int (nI m), .int (nI j)] S Q := by
  have hn9 := hg.2.1
  have hp7 := hg.1
  have hp0 : 0 < pl := by omega
  have hcn := Dn_small (G := G) (cs := cs) (hm := pl - 1) (val := vS G fz) (fun _ _ => Nat.le_refl _) hn9 hm.2 0 r0 0
  have h15d := h15
  obtain ⟨x1, x2, x3, x4, x5, x6, x7, x8, x9, v, h15c⟩ := h15d
  have hxy : (1 ≤ (nI m).toInt ∧ (nI m).toInt ≤ 5) ∧ (-1 ≤ (nI j : Int32).toInt ∧ (nI j : Int32).toInt ≤ 4) := by
    rw [nIt (by omega), nIt (by omega)]
    omega
  refine Mth_of (by decide) rfl ?_
  refine Ev_aload_n dX11_safest_0 rfl ?_
  refine Ev_iload_n dX11_safest_1 rfl ?_
  refine Ev_iload_n dX11_safest_2 rfl ?_
  refine Ev_callV (bc := 0) (b := 0) dX11_safest_3 cv_X11_191 rfl hO (Nat.le_of_ble_eq_true rfl) (by omega) ?_
  refine c_refusal hO hp7 hn9 hq he.1 (fun z => absurd hxy z) (fun _ z => absurd z hpl) (fun _ _ => ?_)
  refine Ev_istore_n dX11_safest_6 rfl ?_
  refine Ev_iload_n dX11_safest_7 rfl ?_
  refine Ev_if_eq dX11_safest_8 (fun _ => ?_) (fun c => absurd (by decide) c)
  refine Ev_aload_n dX11_safest_13 rfl ?_
  refine Ev_get dX11_safest_14 fg_X11_35_11 hO rfl ?_
  refine Ev_aload_n dX11_safest_17 rfl ?_
  refine Ev_get dX11_safest_18 fg_X11_21_11 hO rfl ?_
  refine Ev_iconst (v := 1) dX11_safest_21 (by decide) ?_
  refine Ev_iload_n dX11_safest_22 rfl ?_
  refine Ev_iconst (v := 0) dX11_safest_23 (by decide) ?_
  refine Ev_callV (bc := 0) (b := 0) dX11_safest_24 cv_X11_195 rfl h15c (Nat.le_of_ble_eq_true rfl) (by omega) ?_
  refine c_look hg hq hm hp0 he h15 h23 h24 hX h12 h13 hrd hro wgh1 (fun _ _ => Nat.le_refl _) (fun S2 hF2 hG2 => ?_)
  have hG3 := hG2
  obtain ⟨ks, fo2, sc, R, K, g15, g23, g24, hR, hkp, hX2⟩ := hG3
  refine Ev_iload_n dX11_safest_27 rfl ?_
  refine Ev_iconst (v := (-1)) dX11_safest_28 (by decide) ?_
  refine Ev_icmp_eq dX11_safest_29 (fun c => absurd c (nI_n1 (by omega))) (fun _ => ?_)
  refine Ev_aload_n dX11_safest_32 rfl ?_
  refine Ev_get dX11_safest_33 fg_X11_35_11 (hF2.at hO (by omega)) rfl ?_
  refine Ev_iload_n dX11_safest_36 rfl ?_
  refine Ev_callV (bc := 0) (b := 0) dX11_safest_37 cv_X11_202 rfl g15 (Nat.le_of_ble_eq_true rfl) (by omega) ?_
  refine c_X4_sf g15 g24 hkp hj ?_
  refine Ev_iret dX11_safest_40 rfl rfl ?_
  exact k S2 hF2 hG2

set_option maxHeartbeats 4000000 in
set_option maxRecDepth 100000 in
theorem c_X11_trails_m {d : Nat} {S : aS} {Q : Option Value → aS → Prop} {m pl n q cs : Nat} {du lw fr lf : Int32} {G : Nat → Nat → Nat} {fz : Int} {ad : Nat → Nat} {ro : Nat → Nat} {rb : Nat → Bool} {fo fw : Nat → Int32} {tt : Nat} (htt : tt ≤ 200) (hO : S[0]? = some (co lf)) (hg : GD pl n G) (hq : q ≤ 8) (hm : 1 ≤ m ∧ m ≤ 5) (hpl : ¬ pl = 0) (he : eC S pl n q cs du lw fr G fz ad) (h15 : ∃ (x1 x2 x3 x4 x5 x6 x7 x8 x9 : Int32) (v : Value), S[15]? = some (.inr (4, [.ref 16, .ref 23, .ref 24, .int x1, .int x2, .int x3, v, .int x4, .int x5, .int x6, .int x7, .int x8, .int x9]))) (h23 : ∃ f : Nat → Int32, S[23]? = some (iA 5 f)) (h24 : ∃ f : Nat → Int32, S[24]? = some (iA 5 f)) (hX : WX S) (h12 : S[12]? = some (iA 8 fo)) (h13 : S[13]? = some (zA 8 fw)) (hrd : ∀ x, x < q → fo x = nI (ro x) ∧ fw x = bz (rb x)) (hro : ∀ x, x < q → ro x < n) (k : ∀ S2, FrL S S2 → cG S2 2 (nI m) (nI tt) (nI (rdS ro rb true q)) (nI (rdS ro rb false q)) (nI (mdS G n)) (Dn G cs n (pl - 1) (vT G fz tt q ro rb) m 0 r0 0) 0 r0 → Q (some (.int (nI (Dn G cs n (pl - 1) (vT G fz tt q ro rb) m 0 r0 0).1))) S2)  : Mth mX11_trails (d + 16) 0 [.ref 0, .int (nI m), .int (nI tt), .int (-1)] S Q := by
  have hn9 := hg.2.1
  have hp7 := hg.1
  have hp0 : 0 < pl := by omega
  have hcn := Dn_small (G := G) (cs := cs) (hm := pl - 1) (val := vT G fz tt q ro rb) vT_1 hn9 hm.2 0 r0 0
  have h15d := h15
  obtain ⟨x1, x2, x3, x4, x5, x6, x7, x8, x9, v, h15c⟩ := h15d
  have hxy : (1 ≤ (nI m).toInt ∧ (nI m).toInt ≤ 5) ∧ (-1 ≤ ((-1) : Int32).toInt ∧ ((-1) : Int32).toInt ≤ 4) := by
    rw [nIt (by omega)]
    exact ⟨by omega, by decide⟩
  refine Mth_of (by decide) rfl ?_
  refine Ev_iload_n dX11_trails_0 rfl ?_
  refine Ev_iconst (v := 0) dX11_trails_1 (by decide) ?_
  refine Ev_sipush (v := 200) dX11_trails_2 (by decide) ?_
  refine Ev_callS (bc := 0) (b := 0) dX11_trails_5 cs_X11_72 rfl (Nat.le_of_ble_eq_true rfl) (by omega) ?_
  refine c_X11_isWithin (fun _ => ?_) (fun q => absurd q (not_not_intro (by rw [nIt (by omega)]; exact ⟨by rw [z32_0]; omega, by rw [z32_200]; omega⟩)))
  refine Ev_if_ne dX11_trails_8 (fun _ => ?_) (fun c => absurd c (by decide))
  refine Ev_aload_n dX11_trails_14 rfl ?_
  refine Ev_iload_n dX11_trails_15 rfl ?_
  refine Ev_iload_n dX11_trails_16 rfl ?_
  refine Ev_callV (bc := 0) (b := 0) dX11_trails_17 cv_X11_191 rfl hO (Nat.le_of_ble_eq_true rfl) (by omega) ?_
  refine c_refusal hO hp7 hn9 hq he.1 (fun z => absurd hxy z) (fun _ z => absurd z hpl) (fun _ _ => ?_)
  refine Ev_istore dX11_trails_20 rfl ?_
  refine Ev_iload dX11_trails_22 rfl ?_
  refine Ev_if_eq dX11_trails_24 (fun _ => ?_) (fun c => absurd (by decide) c)
  refine Ev_aload_n dX11_trails_30 rfl ?_
  refine Ev_get dX11_trails_31 fg_X11_35_11 hO rfl ?_
  refine Ev_aload_n dX11_trails_34 rfl ?_
  refine Ev_get dX11_trails_35 fg_X11_21_11 hO rfl ?_
  refine Ev_iconst (v := 2) dX11_trails_38 (by decide) ?_
  refine Ev_iload_n dX11_trails_39 rfl ?_
  refine Ev_iload_n dX11_trails_40 rfl ?_
  refine Ev_callV (bc := 0) (b := 0) dX11_trails_41 cv_X11_195 rfl h15c (Nat.le_of_ble_eq_true rfl) (by omega) ?_
  refine c_look hg hq hm hp0 he h15 h23 h24 hX h12 h13 hrd hro (wgh2 hg htt hro) vT_1 (fun S2 hF2 hG2 => ?_)
  have hG3 := hG2
  obtain ⟨ks, fo2, sc, R, K, g15, g23, g24, hR, hkp, hX2⟩ := hG3
  refine Ev_iload_n dX11_trails_44 rfl ?_
  refine Ev_iconst (v := (-1)) dX11_trails_45 (by decide) ?_
  refine Ev_icmp_ne dX11_trails_46 (fun c => absurd (by decide) c) (fun _ => ?_)
  refine Ev_aload_n dX11_trails_49 rfl ?_
  refine Ev_get dX11_trails_50 fg_X11_35_11 (hF2.at hO (by omega)) rfl ?_
  refine Ev_get dX11_trails_53 fg_X11_205_4 g15 rfl ?_
  refine Ev_goto dX11_trails_56 ?_
  refine Ev_iret dX11_trails_67 rfl rfl ?_
  rw [hkp.1]
  exact k S2 hF2 hG2

set_option maxHeartbeats 4000000 in
set_option maxRecDepth 100000 in
theorem c_X11_trails_j {d : Nat} {S : aS} {Q : Option Value → aS → Prop} {m pl n q cs : Nat} {du lw fr lf : Int32} {G : Nat → Nat → Nat} {fz : Int} {ad : Nat → Nat} {ro : Nat → Nat} {rb : Nat → Bool} {fo fw : Nat → Int32} {tt : Nat} (htt : tt ≤ 200) {j : Nat} (hj : j ≤ 4) (hO : S[0]? = some (co lf)) (hg : GD pl n G) (hq : q ≤ 8) (hm : 1 ≤ m ∧ m ≤ 5) (hpl : ¬ pl = 0) (he : eC S pl n q cs du lw fr G fz ad) (h15 : ∃ (x1 x2 x3 x4 x5 x6 x7 x8 x9 : Int32) (v : Value), S[15]? = some (.inr (4, [.ref 16, .ref 23, .ref 24, .int x1, .int x2, .int x3, v, .int x4, .int x5, .int x6, .int x7, .int x8, .int x9]))) (h23 : ∃ f : Nat → Int32, S[23]? = some (iA 5 f)) (h24 : ∃ f : Nat → Int32, S[24]? = some (iA 5 f)) (hX : WX S) (h12 : S[12]? = some (iA 8 fo)) (h13 : S[13]? = some (zA 8 fw)) (hrd : ∀ x, x < q → fo x = nI (ro x) ∧ fw x = bz (rb x)) (hro : ∀ x, x < q → ro x < n) (k : ∀ S2, FrL S S2 → cG S2 2 (nI m) (nI tt) (nI (rdS ro rb true q)) (nI (rdS ro rb false q)) (nI (mdS G n)) (Dn G cs n (pl - 1) (vT G fz tt q ro rb) m 0 r0 0) 0 r0 → Q (some (.int (anJ (Dn G cs n (pl - 1) (vT G fz tt q ro rb) m 0 r0 0) j))) S2)  : Mth mX11_trails (d + 16) 0 [.ref 0, .int (nI m), .int (nI tt), .int (nI j)] S Q := by
  have hn9 := hg.2.1
  have hp7 := hg.1
  have hp0 : 0 < pl := by omega
  have hcn := Dn_small (G := G) (cs := cs) (hm := pl - 1) (val := vT G fz tt q ro rb) vT_1 hn9 hm.2 0 r0 0
  have h15d := h15
  obtain ⟨x1, x2, x3, x4, x5, x6, x7, x8, x9, v, h15c⟩ := h15d
  have hxy : (1 ≤ (nI m).toInt ∧ (nI m).toInt ≤ 5) ∧ (-1 ≤ (nI j : Int32).toInt ∧ (nI j : Int32).toInt ≤ 4) := by
    rw [nIt (by omega), nIt (by omega)]
    omega
  refine Mth_of (by decide) rfl ?_
  refine Ev_iload_n dX11_trails_0 rfl ?_
  refine Ev_iconst (v := 0) dX11_trails_1 (by decide) ?_
  refine Ev_sipush (v := 200) dX11_trails_2 (by decide) ?_
  refine Ev_callS (bc := 0) (b := 0) dX11_trails_5 cs_X11_72 rfl (Nat.le_of_ble_eq_true rfl) (by omega) ?_
  refine c_X11_isWithin (fun _ => ?_) (fun q => absurd q (not_not_intro (by rw [nIt (by omega)]; exact ⟨by rw [z32_0]; omega, by rw [z32_200]; omega⟩)))
  refine Ev_if_ne dX11_trails_8 (fun _ => ?_) (fun c => absurd c (by decide))
  refine Ev_aload_n dX11_trails_14 rfl ?_
  refine Ev_iload_n dX11_trails_15 rfl ?_
  refine Ev_iload_n dX11_trails_16 rfl ?_
  refine Ev_callV (bc := 0) (b := 0) dX11_trails_17 cv_X11_191 rfl hO (Nat.le_of_ble_eq_true rfl) (by omega) ?_
  refine c_refusal hO hp7 hn9 hq he.1 (fun z => absurd hxy z) (fun _ z => absurd z hpl) (fun _ _ => ?_)
  refine Ev_istore dX11_trails_20 rfl ?_
  refine Ev_iload dX11_trails_22 rfl ?_
  refine Ev_if_eq dX11_trails_24 (fun _ => ?_) (fun c => absurd (by decide) c)
  refine Ev_aload_n dX11_trails_30 rfl ?_
  refine Ev_get dX11_trails_31 fg_X11_35_11 hO rfl ?_
  refine Ev_aload_n dX11_trails_34 rfl ?_
  refine Ev_get dX11_trails_35 fg_X11_21_11 hO rfl ?_
  refine Ev_iconst (v := 2) dX11_trails_38 (by decide) ?_
  refine Ev_iload_n dX11_trails_39 rfl ?_
  refine Ev_iload_n dX11_trails_40 rfl ?_
  refine Ev_callV (bc := 0) (b := 0) dX11_trails_41 cv_X11_195 rfl h15c (Nat.le_of_ble_eq_true rfl) (by omega) ?_
  refine c_look hg hq hm hp0 he h15 h23 h24 hX h12 h13 hrd hro (wgh2 hg htt hro) vT_1 (fun S2 hF2 hG2 => ?_)
  have hG3 := hG2
  obtain ⟨ks, fo2, sc, R, K, g15, g23, g24, hR, hkp, hX2⟩ := hG3
  refine Ev_iload_n dX11_trails_44 rfl ?_
  refine Ev_iconst (v := (-1)) dX11_trails_45 (by decide) ?_
  refine Ev_icmp_ne dX11_trails_46 (fun _ => ?_) (fun c => absurd c (nI_n1 (by omega)))
  refine Ev_aload_n dX11_trails_59 rfl ?_
  refine Ev_get dX11_trails_60 fg_X11_35_11 (hF2.at hO (by omega)) rfl ?_
  refine Ev_iload_n dX11_trails_63 rfl ?_
  refine Ev_callV (bc := 0) (b := 0) dX11_trails_64 cv_X11_202 rfl g15 (Nat.le_of_ble_eq_true rfl) (by omega) ?_
  refine c_X4_sf g15 g24 hkp hj ?_
  refine Ev_iret dX11_trails_67 rfl rfl ?_
  exact k S2 hF2 hG2

