/-! ===== the component's search ===== -/
/-- nothing has changed but the search's own cells, and the walks behind the s-th -/
def FrC (s : Nat) (S0 S : aS) : Prop := ∀ a, a ≠ 15 → a ≠ 23 → a ≠ 24 → ¬ (17 + s < a ∧ a < 23) → S[a]? = S0[a]?
theorem FrC.rf {s : Nat} {S : aS} : FrC s S S := fun _ _ _ _ _ => rfl
theorem FrC.st {s a : Nat} {S0 S : aS} {c : aE} (h : FrC s S0 S) (ha : a = 15 ∨ a = 23 ∨ a = 24 ∨ (17 + s < a ∧ a < 23)) : FrC s S0 (S.set a c) := by
  intro b h1 h2 h3 h4
  rw [List.getElem?_set_ne (by omega)]
  exact h b h1 h2 h3 h4
theorem FrC.tr {s t : Nat} {S0 S S2 : aS} (h : FrC s S0 S) (h2 : FrC t S S2) (hs : s ≤ t) : FrC s S0 S2 := by
  intro b h1 h3 h4 h5
  rw [h2 b h1 h3 h4 (by omega)]
  exact h b h1 h3 h4 h5
theorem FrC.at {s a : Nat} {S0 S : aS} {c : aE} (h : FrC s S0 S) (h0 : S0[a]? = some c) (h1 : a ≠ 15 ∧ a ≠ 23 ∧ a ≠ 24 ∧ ¬ (17 + s < a ∧ a < 23)) : S[a]? = some c := by
  rw [h a h1.1 h1.2.1 h1.2.2.1 h1.2.2.2]
  exact h0
def eC (S : aS) (pl n q cs : Nat) (du lw fr : Int32) (G : Nat → Nat → Nat) (fz : Int) (ad : Nat → Nat) : Prop := S[10]? = some (nt (nI pl) (nI n) du lw fr (nI q)) ∧ cT S n ad ∧ CN S n G cs fz ad ∧ ∃ fa : Nat → Option Nat, S[16]? = some (rA 5 6 fa) ∧ ∀ k, k < 6 → fa k = some (17 + k)
theorem eC.fr {S S2 : aS} {pl n q cs s : Nat} {du lw fr : Int32} {G : Nat → Nat → Nat} {fz : Int} {ad : Nat → Nat} (h : eC S pl n q cs du lw fr G fz ad) (hF : FrC s S S2) : eC S2 pl n q cs du lw fr G fz ad := by
  obtain ⟨h1, ⟨sa, h2, h2b⟩, h3, fa, h4, h4b⟩ := h
  exact ⟨hF.at h1 (by omega), ⟨sa, hF.at h2 (by omega), h2b⟩, fun j hj => ⟨hF.at (h3 j hj).1 (by have := (h3 j hj).2.1; omega), (h3 j hj).2⟩, fa, hF.at h4 (by omega), h4b⟩
/-- six walks stand -/
def WX (S : aS) : Prop := ∀ j, j < 6 → ∃ (p s m g o : Int32) (t : Int64), S[17 + j]? = some (wkc p s m g o t)
theorem WX.off {S : aS} {a : Nat} {c : aE} (h : WX S) (ha : a < 17 ∨ 22 < a) : WX (S.set a c) := by
  intro j hj
  obtain ⟨p, s, m, g, o, t, h1⟩ := h j hj
  exact ⟨p, s, m, g, o, t, gn (by omega) h1⟩
theorem WX.put {S : aS} {i : Nat} {p s m g o : Int32} {t : Int64} (h : WX S) (hi : i < 6) : WX (S.set (17 + i) (wkc p s m g o t)) := by
  intro j hj
  by_cases e : j = i
  · subst e
    obtain ⟨p1, s1, m1, g1, o1, t1, h1⟩ := h j hj
    exact ⟨p, s, m, g, o, t, gs h1⟩
  · obtain ⟨p1, s1, m1, g1, o1, t1, h1⟩ := h j hj
    exact ⟨p1, s1, m1, g1, o1, t1, gn (by omega) h1⟩
def cG (S : aS) (go mo mi wa uw mu : Int32) (acc : rV) (s : Nat) (r : Nat → Nat) : Prop := ∃ (ks fo sc : Int32) (R K : Nat → Int32), S[15]? = some (sC ks fo sc go mo mi wa uw mu) ∧ S[23]? = some (iA 5 R) ∧ S[24]? = some (iA 5 K) ∧ (∀ x, x < s → R x = nI (r x)) ∧ kpC acc ks fo sc K ∧ WX S
theorem sumN_uzr {f : Nat → Nat} {r : Nat → Nat} {s k m : Nat} (h : m ≤ s) : sumN (fun x => f (uz r s k x)) m = sumN (fun x => f (r x)) m := sumN_congr m (fun y hy => by rw [uz_n _ _ (by omega)])
theorem prodN_uzr {f : Nat → Nat} {r : Nat → Nat} {s k m : Nat} (h : m ≤ s) : prodN (fun x => f (uz r s k x)) m = prodN (fun x => f (r x)) m := prodN_congr m (fun y hy => by rw [uz_n _ _ (by omega)])
theorem goN_uzr {r : Nat → Nat} {s k m : Nat} (h : m ≤ s) : goN (uz r s k) m = goN r m := goN_congr m (fun y hy => by rw [uz_n _ _ (by omega)])
theorem WKC_uz {G : Nat → Nat → Nat} {n : Nat} {fz : Int} {r : Nat → Nat} {p s k : Nat} : WKC G n fz (uz r s k) p s = WKC G n fz r p s := by
  unfold WKC
  rw [goN_uzr (Nat.le_refl s), sumN_uzr (f := tk G fz) (Nat.le_refl s), prodN_uzr (f := tn G fz) (Nat.le_refl s)]
/-- weighing, as a search goes on with it -/
def WGH (val : Nat → (Nat → Nat) → rV) (go mo mi wa uw mu : Int32) (pl n q cs : Nat) (du lw fr : Int32) (G : Nat → Nat → Nat) (fz : Int) (ad : Nat → Nat) : Prop := ∀ (d : Nat) (S : aS) (Q : Option Value → aS → Prop) (acc : rV) (ks fo sc : Int32) (R K : Nat → Int32) (r : Nat → Nat) (s p : Nat), eC S pl n q cs du lw fr G fz ad → S[15]? = some (sC ks fo sc go mo mi wa uw mu) → S[23]? = some (iA 5 R) → S[24]? = some (iA 5 K) → S[17 + s]? = some (WKC G n fz r p s) → (∀ x, x < s → R x = nI (r x)) → (∀ x, x < s → r x < n) → 1 ≤ s → s ≤ 5 → kpC acc ks fo sc K → acc.1 + (val s r).1 < 2147483647 → (∀ ks2 fo2 sc2 K2, kpC (jn acc (val s r)) ks2 fo2 sc2 K2 → Q none ((S.set 24 (iA 5 K2)).set 15 (sC ks2 fo2 sc2 go mo mi wa uw mu))) → Mth mX4_weigh (d + 4) 0 [.ref 15, .ref (17 + s)] S Q
/-- the search from the s-th walk on, as its caller goes on with it -/
def GON (val : Nat → (Nat → Nat) → rV) (go mo mi wa uw mu : Int32) (pl n q cs : Nat) (du lw fr : Int32) (G : Nat → Nat → Nat) (fz : Int) (ad : Nat → Nat) (d f s : Nat) : Prop := ∀ (S : aS) (Q : Option Value → aS → Prop) (acc : rV) (r : Nat → Nat) (p : Nat), eC S pl n q cs du lw fr G fz ad → cG S go mo mi wa uw mu acc s r → S[17 + s]? = some (WKC G n fz r p s) → (∀ x, x < s → r x < n) → p < pl → (jn acc (Dn G cs n (pl - 1) val f s r p)).1 < 2147483647 → (∀ S2, FrC s S S2 → cG S2 go mo mi wa uw mu (jn acc (Dn G cs n (pl - 1) val f s r p)) s r → Q none S2) → Mth mX4_goOn (d + f + 8) 0 [.ref 15, .int (nI s)] S Q
theorem tD_no {G : Nat → Nat → Nat} {cs hm : Nat} {val : Nat → (Nat → Nat) → rV} {D : Nat → (Nat → Nat) → Nat → rV} {s : Nat} {r : Nat → Nat} {p k : Nat} (h : gt G cs k p = none) : tD G cs hm val D s r p k = un := by unfold tD; rw [h]; rfl
theorem tD_hm {G : Nat → Nat → Nat} {cs hm : Nat} {val : Nat → (Nat → Nat) → rV} {D : Nat → (Nat → Nat) → Nat → rV} {s : Nat} {r : Nat → Nat} {p k q : Nat} (h : gt G cs k p = some q) (hq : q = hm) : tD G cs hm val D s r p k = jn (val (s + 1) (uz r s k)) (D (s + 1) (uz r s k) q) := by
  unfold tD
  rw [h]
  show jn (hv val hm (s + 1) (uz r s k) q) _ = _
  unfold hv
  rw [if_pos hq]
theorem tD_so {G : Nat → Nat → Nat} {cs hm : Nat} {val : Nat → (Nat → Nat) → rV} {D : Nat → (Nat → Nat) → Nat → rV} {s : Nat} {r : Nat → Nat} {p k q : Nat} (h : gt G cs k p = some q) (hq : ¬ q = hm) : tD G cs hm val D s r p k = D (s + 1) (uz r s k) q := by
  unfold tD
  rw [h]
  show jn (hv val hm (s + 1) (uz r s k) q) _ = _
  unfold hv
  rw [if_neg hq, un_jn]

theorem upd_pre {R : Nat → Int32} {r : Nat → Nat} {s k : Nat} (hR : ∀ x, x < s → R x = nI (r x)) : ∀ x, x < s + 1 → upd R s (nI k) x = nI (uz r s k x) := by
  intro x hx
  by_cases e : x = s
  · subst e; rw [upd_s, uz_s]
  · rw [upd_n _ _ e, uz_n _ _ e]; exact hR x (by omega)
theorem jn_cn1 {a b c d : rV} {m : Nat} (h : (jn a (jn (jn b c) d)).1 < m) : a.1 + b.1 < m := by
  have h : a.1 + ((b.1 + c.1) + d.1) < m := h
  omega
theorem jn_cn2 {a b c d : rV} {m : Nat} (h : (jn a (jn (jn b c) d)).1 < m) : (jn (jn a b) c).1 < m := by
  have h : a.1 + ((b.1 + c.1) + d.1) < m := h
  show (a.1 + b.1) + c.1 < m
  omega
theorem jn_cn3 {a b c : rV} {m : Nat} (h : (jn a (jn b c)).1 < m) : (jn a b).1 < m := by
  have h : a.1 + (b.1 + c.1) < m := h
  show a.1 + b.1 < m
  omega
theorem jn_ac3 {a b c d : rV} : jn a (jn (jn b c) d) = jn (jn (jn a b) c) d := by
  rw [jn_assoc b c d, jn_assoc (jn a b) c d, jn_assoc a b (jn c d)]
theorem cG_dn {S : aS} {go mo mi wa uw mu : Int32} {acc : rV} {s k : Nat} {r : Nat → Nat} (h : cG S go mo mi wa uw mu acc (s + 1) (uz r s k)) : cG S go mo mi wa uw mu acc s r := by
  obtain ⟨ks, fo, sc, R, K, h1, h2, h3, h4, h5⟩ := h
  exact ⟨ks, fo, sc, R, K, h1, h2, h3, fun x hx => by rw [h4 x (by omega), uz_n _ _ (by omega)], h5⟩
set_option maxHeartbeats 4000000 in
set_option maxRecDepth 100000 in
theorem l_goOn {d : Nat} {S0 : aS} {Q : Option Value → aS → Prop} {val : Nat → (Nat → Nat) → rV} {go mi wa uw mu : Int32} {mo pl n q cs : Nat} {du lw fr : Int32} {G : Nat → Nat → Nat} {fz : Int} {ad : Nat → Nat} {f s p : Nat} {r : Nat → Nat} (hg : GD pl n G) (hq : q ≤ 8) (hmo : mo ≤ 5) (hs : s + (f + 1) = mo) (hw : WGH val go (nI mo) mi wa uw mu pl n q cs du lw fr G fz ad) (IH : GON val go (nI mo) mi wa uw mu pl n q cs du lw fr G fz ad d f (s + 1)) (hr : ∀ x, x < s → r x < n) (hp : p < pl) (he0 : eC S0 pl n q cs du lw fr G fz ad) (hW0 : S0[17 + s]? = some (WKC G n fz r p s)) : ∀ (t k : Nat) (S : aS) (acc : rV), k + t = n → FrC s S0 S → eC S pl n q cs du lw fr G fz ad → cG S go (nI mo) mi wa uw mu acc s r → S[17 + s]? = some (WKC G n fz r p s) → (jn acc (ff (tD G cs (pl - 1) val (Dn G cs n (pl - 1) val f) s r p) t k)).1 < 2147483647 → (∀ S2, FrC s S0 S2 → cG S2 go (nI mo) mi wa uw mu (jn acc (ff (tD G cs (pl - 1) val (Dn G cs n (pl - 1) val f) s r p) t k)) s r → Q none S2) → Ev none mX4_goOn (d + f + 9) 0 37 [some (.ref 15), some (.int (nI s)), some (.ref (17 + s)), some (.ref (17 + (s + 1))), some (.int (nI k)), none] [] S Q := by
  have hn9 := hg.2.1
  have hp7 := hg.1
  intro t
  induction t with
  | zero =>
    intro k S acc hk hF he hG0 hW hcn kc
    have hk2 : k = n := by omega
    have he1 := he
    have hG1 := hG0
    obtain ⟨h10, ⟨sa, h11, hsa⟩, hC, fa, h16, hfa⟩ := he1
    obtain ⟨ks, fo, sc, R, K, h15, h23, h24, hR, hkp, hX⟩ := hG1
    simp only [ff] at kc
    rw [jn_un] at kc
    refine Ev_iload dX4_goOn_37 rfl ?_
    refine Ev_aload_n dX4_goOn_39 rfl ?_
    refine Ev_get dX4_goOn_40 fg_X4_25_4 h15 rfl ?_
    refine Ev_get dX4_goOn_43 fg_X4_80_2 h10 rfl ?_
    refine Ev_icmp_ge dX4_goOn_46 (fun _ => ?_) (fun c => absurd ((nle (by omega) (by omega)).mpr (by omega)) c)
    refine Ev_vret dX4_goOn_124 rfl ?_
    exact kc S hF hG0
  | succ t ih =>
    intro k S acc hk hF he hG0 hW hcn kc
    have he1 := he
    have hG1 := hG0
    obtain ⟨h10, ⟨sa, h11, hsa⟩, hC, fa, h16, hfa⟩ := he1
    obtain ⟨ks, fo, sc, R, K, h15, h23, h24, hR, hkp, hX⟩ := hG1
    simp only [ff] at kc hcn
    have hW2 : S[17 + s]? = some (WKC G n fz (uz r s k) p s) := by rw [WKC_uz]; exact hW
    obtain ⟨y1, y2, y3, y4, y5, y6, hX1⟩ := hX (s + 1) (by omega)
    have had := (hC k (by omega)).2.1
    have hjG := hg.2.2 k (by omega)
    have hrr : ∀ x, x < s + 1 → uz r s k x < n := by
      intro x hx
      by_cases e : x = s
      · subst e; rw [uz_s]; omega
      · rw [uz_n _ _ e]; exact hr x (by omega)
    refine Ev_iload dX4_goOn_37 rfl ?_
    refine Ev_aload_n dX4_goOn_39 rfl ?_
    refine Ev_get dX4_goOn_40 fg_X4_25_4 h15 rfl ?_
    refine Ev_get dX4_goOn_43 fg_X4_80_2 h10 rfl ?_
    refine Ev_icmp_ge dX4_goOn_46 (fun c => absurd c (fun z => absurd ((nle (by omega) (by omega)).mp z) (by omega))) (fun _ => ?_)
    refine Ev_aload_n dX4_goOn_49 rfl ?_
    refine Ev_get dX4_goOn_50 fg_X4_25_4 h15 rfl ?_
    refine Ev_iload dX4_goOn_53 rfl ?_
    refine Ev_callV (bc := 0) (b := 0) dX4_goOn_55 cv_X4_83 rfl h10 (Nat.le_of_ble_eq_true rfl) (by omega) ?_
    refine c_X2_stretchAt hp7 hn9 hq h10 h11 hsa (j := k) (by omega) ?_
    refine Ev_astore dX4_goOn_58 rfl ?_
    refine Ev_aload dX4_goOn_60 rfl ?_
    refine Ev_ifnull dX4_goOn_62 ?_
    refine Ev_aload dX4_goOn_65 rfl ?_
    refine Ev_aload_n dX4_goOn_67 rfl ?_
    refine Ev_get dX4_goOn_68 fg_X4_87_10 hW2 rfl ?_
    refine Ev_callO (bc := 0) (b := 0) dX4_goOn_71 (co3_X4_90 (kc3 _)) rfl (hC _ (show k < n by omega)).1 (Nat.le_of_ble_eq_true rfl) (by omega) ?_
    refine c_leads hg (show k < n by omega) (by omega) (hC _ (show k < n by omega)).1 (fun p2 hgt => ?_) (fun hgt => ?_)
    · skip
      have hp2 := (gt_some hg (show k < n by omega) hgt).2.1
      refine Ev_if_eq dX4_goOn_74 (fun c => absurd c (by decide)) (fun _ => ?_)
      refine Ev_aload_n dX4_goOn_77 rfl ?_
      refine Ev_get dX4_goOn_78 fg_X4_18_4 h15 rfl ?_
      refine Ev_iload_n dX4_goOn_81 rfl ?_
      refine Ev_iload dX4_goOn_82 rfl ?_
      refine Ev_iastoreN (j := s) dX4_goOn_84 h23 (by omega) (by decide) ?_
      refine Ev_aload_n dX4_goOn_85 rfl ?_
      refine Ev_aload_n dX4_goOn_86 rfl ?_
      refine Ev_aload dX4_goOn_87 rfl ?_
      refine Ev_callV (bc := 0) (b := 0) dX4_goOn_89 cv_X4_96 rfl (gn (by omega) hX1) (Nat.le_of_ble_eq_true rfl) (by omega) ?_
      refine c_follow_t (r := uz r s k) (i := s) hg hrr (by rw [uz_s]; exact (gn (by omega) (hC _ (show k < n by omega)).1)) (gn (by omega) hW2) (gn (by omega) hX1) (by omega) (by omega) (by rw [uz_s]; exact hgt) ?_
      refine Ev_aload_n dX4_goOn_92 rfl ?_
      refine Ev_get dX4_goOn_93 fg_X4_87_10 (gs (gn (by omega) hX1)) rfl ?_
      refine Ev_aload_n dX4_goOn_96 rfl ?_
      refine Ev_get dX4_goOn_97 fg_X4_25_4 (gn (by omega) (gn (by decide) h15)) rfl ?_
      refine Ev_callV (bc := 0) (b := 0) dX4_goOn_100 cv_X4_100 rfl (gn (by omega) (gn (by decide) h10)) (Nat.le_of_ble_eq_true rfl) (by omega) ?_
      refine c_X2_home hp7 hn9 hq (gn (by omega) (gn (by decide) h10)) (by omega) ?_
      refine Ev_icmp_ne dX4_goOn_103 (fun c1 => ?_) (fun c1 => ?_)
      · skip
        have c1 : ¬ (p2 = (pl - 1)) := fun z => c1 ((nIinj (a := p2) (b := pl - 1) (by omega) (by omega)).mpr z)
        refine Ev_aload_n dX4_goOn_111 rfl ?_
        refine Ev_iload_n dX4_goOn_112 rfl ?_
        refine Ev_iconst (v := 1) dX4_goOn_113 (by decide) ?_
        refine Ev_iadd dX4_goOn_114 ?_
        refine Ev_topi (y := nI (s + 1)) (nI_add _ _) ?_
        refine Ev_callV (bc := 0) (b := 0) dX4_goOn_115 cv_X4_76 rfl (gn (by omega) (gn (by decide) h15)) (Nat.le_of_ble_eq_true rfl) (by omega) ?_
        rw [tD_so hgt c1] at hcn kc
        refine IH _ _ acc (uz r s k) p2 ⟨(gn (by omega) (gn (by decide) h10)), ⟨sa, (gn (by omega) (gn (by decide) h11)), hsa⟩, (CN.off (CN.off hC (by omega)) (by omega)), fa, (gn (by omega) (gn (by decide) h16)), hfa⟩ ⟨_, _, _, _, _, (gn (by omega) (gn (by decide) h15)), (gn (by omega) (gs h23)), (gn (by omega) (gn (by decide) h24)), (fun x hx => upd_pre hR x hx), hkp, (WX.put (WX.off hX (by decide)) (show s + 1 < 6 by omega))⟩ (gs (gn (by omega) hX1)) hrr hp2 (jn_cn3 hcn) (fun S9 hF9 hG9 => ?_)
        have hF8 := FrC.tr (FrC.st (FrC.st hF (by omega)) (by omega)) hF9 (by omega)
        refine Ev_iinc (v := nI (k + 1)) dX4_goOn_118 rfl (nI_1 _) rfl ?_
        refine Ev_goto dX4_goOn_121 ?_
        refine Ev_loc (la2 := [some (.ref 15), some (.int (nI s)), some (.ref (17 + s)), some (.ref (17 + (s + 1))), some (.int (nI (k + 1))), none]) ⟨rfl, ⟨rfl, ⟨rfl, ⟨rfl, ⟨rfl, trivial⟩⟩⟩⟩⟩ ?_
        rw [← jn_assoc] at hcn kc
        exact ih (k + 1) S9 _ (by omega) hF8 (he0.fr hF8) (cG_dn hG9) (hF8.at hW0 (by omega)) hcn kc
      · skip
        have c1 : p2 = (pl - 1) := (nIinj (a := p2) (b := pl - 1) (by omega) (by omega)).mp c1
        refine Ev_aload_n dX4_goOn_106 rfl ?_
        refine Ev_aload_n dX4_goOn_107 rfl ?_
        refine Ev_callV (bc := 0) (b := 0) dX4_goOn_108 cv_X4_103 rfl (gn (by omega) (gn (by decide) h15)) (Nat.le_of_ble_eq_true rfl) (by omega) ?_
        rw [tD_hm hgt c1] at hcn kc
        refine hw _ _ _ acc _ _ _ _ _ (uz r s k) (s + 1) p2 ⟨(gn (by omega) (gn (by decide) h10)), ⟨sa, (gn (by omega) (gn (by decide) h11)), hsa⟩, (CN.off (CN.off hC (by omega)) (by omega)), fa, (gn (by omega) (gn (by decide) h16)), hfa⟩ (gn (by omega) (gn (by decide) h15)) (gn (by omega) (gs h23)) (gn (by omega) (gn (by decide) h24)) (gs (gn (by omega) hX1)) (fun x hx => upd_pre hR x hx) hrr (by omega) (by omega) hkp (jn_cn1 hcn) (fun ks2 fo2 sc2 K2 hkp2 => ?_)
        refine Ev_aload_n dX4_goOn_111 rfl ?_
        refine Ev_iload_n dX4_goOn_112 rfl ?_
        refine Ev_iconst (v := 1) dX4_goOn_113 (by decide) ?_
        refine Ev_iadd dX4_goOn_114 ?_
        refine Ev_topi (y := nI (s + 1)) (nI_add _ _) ?_
        refine Ev_callV (bc := 0) (b := 0) dX4_goOn_115 cv_X4_76 rfl (gs (gn (by decide) (gn (by omega) (gn (by decide) h15)))) (Nat.le_of_ble_eq_true rfl) (by omega) ?_
        refine IH _ _ (jn acc (val (s + 1) (uz r s k))) (uz r s k) p2 ⟨(gn (by decide) (gn (by decide) (gn (by omega) (gn (by decide) h10)))), ⟨sa, (gn (by decide) (gn (by decide) (gn (by omega) (gn (by decide) h11)))), hsa⟩, (CN.off (CN.off (CN.off (CN.off hC (by omega)) (by omega)) (by omega)) (by omega)), fa, (gn (by decide) (gn (by decide) (gn (by omega) (gn (by decide) h16)))), hfa⟩ ⟨_, _, _, _, _, (gs (gn (by decide) (gn (by omega) (gn (by decide) h15)))), (gn (by decide) (gn (by decide) (gn (by omega) (gs h23)))), (gn (by decide) (gs (gn (by omega) (gn (by decide) h24)))), (fun x hx => upd_pre hR x hx), hkp2, (WX.off (WX.off (WX.put (WX.off hX (by decide)) (show s + 1 < 6 by omega)) (by decide)) (by decide))⟩ (gn (by omega) (gn (by omega) (gs (gn (by omega) hX1)))) hrr hp2 (jn_cn2 hcn) (fun S9 hF9 hG9 => ?_)
        have hF8 := FrC.tr (FrC.st (FrC.st (FrC.st (FrC.st hF (by omega)) (by omega)) (by omega)) (by omega)) hF9 (by omega)
        refine Ev_iinc (v := nI (k + 1)) dX4_goOn_118 rfl (nI_1 _) rfl ?_
        refine Ev_goto dX4_goOn_121 ?_
        refine Ev_loc (la2 := [some (.ref 15), some (.int (nI s)), some (.ref (17 + s)), some (.ref (17 + (s + 1))), some (.int (nI (k + 1))), none]) ⟨rfl, ⟨rfl, ⟨rfl, ⟨rfl, ⟨rfl, trivial⟩⟩⟩⟩⟩ ?_
        rw [jn_ac3] at hcn kc
        exact ih (k + 1) S9 _ (by omega) hF8 (he0.fr hF8) (cG_dn hG9) (hF8.at hW0 (by omega)) hcn kc
    · skip
      refine Ev_if_eq dX4_goOn_74 (fun _ => ?_) (fun c => absurd (by decide) c)
      refine Ev_iinc (v := nI (k + 1)) dX4_goOn_118 rfl (nI_1 _) rfl ?_
      refine Ev_goto dX4_goOn_121 ?_
      refine Ev_loc (la2 := [some (.ref 15), some (.int (nI s)), some (.ref (17 + s)), some (.ref (17 + (s + 1))), some (.int (nI (k + 1))), none]) ⟨rfl, ⟨rfl, ⟨rfl, ⟨rfl, ⟨rfl, trivial⟩⟩⟩⟩⟩ ?_
      rw [tD_no hgt, un_jn] at hcn kc
      exact ih (k + 1) S acc (by omega) hF he hG0 hW hcn kc

set_option maxHeartbeats 4000000 in
set_option maxRecDepth 100000 in
theorem c_goOn_0 {d : Nat} {val : Nat → (Nat → Nat) → rV} {go mi wa uw mu : Int32} {mo pl n q cs : Nat} {du lw fr : Int32} {G : Nat → Nat → Nat} {fz : Int} {ad : Nat → Nat} {s : Nat} (hg : GD pl n G) (hq : q ≤ 8) (hmo : mo ≤ 5) (hs : s = mo) : GON val go (nI mo) mi wa uw mu pl n q cs du lw fr G fz ad d 0 s := by
  intro S Q acc r p he hG0 hW hr hp hcn kc
  have hG1 := hG0
  obtain ⟨h10, ⟨sa, h11, hsa⟩, hC, fa, h16, hfa⟩ := he
  obtain ⟨ks, fo, sc, R, K, h15, h23, h24, hR, hkp, hX⟩ := hG1
  simp only [Dn] at kc
  rw [jn_un] at kc
  refine Mth_of (by decide) rfl ?_
  refine Ev_iload_n dX4_goOn_0 rfl ?_
  refine Ev_if_lt dX4_goOn_1 (fun c => absurd c (nI_pos (by omega))) (fun _ => ?_)
  refine Ev_iload_n dX4_goOn_4 rfl ?_
  refine Ev_aload_n dX4_goOn_5 rfl ?_
  refine Ev_get dX4_goOn_6 fg_X4_39_4 h15 rfl ?_
  refine Ev_icmp_ge dX4_goOn_9 (fun _ => ?_) (fun c => absurd ((nle (by omega) (by omega)).mpr (by omega)) c)
  refine Ev_vret dX4_goOn_17 rfl ?_
  exact kc S FrC.rf hG0
set_option maxHeartbeats 4000000 in
set_option maxRecDepth 100000 in
theorem c_goOn_s {d : Nat} {val : Nat → (Nat → Nat) → rV} {go mi wa uw mu : Int32} {mo pl n q cs : Nat} {du lw fr : Int32} {G : Nat → Nat → Nat} {fz : Int} {ad : Nat → Nat} {f s : Nat} (hg : GD pl n G) (hq : q ≤ 8) (hmo : mo ≤ 5) (hs : s + (f + 1) = mo) (hw : WGH val go (nI mo) mi wa uw mu pl n q cs du lw fr G fz ad) (IH : GON val go (nI mo) mi wa uw mu pl n q cs du lw fr G fz ad d f (s + 1)) : GON val go (nI mo) mi wa uw mu pl n q cs du lw fr G fz ad d (f + 1) s := by
  intro S Q acc r p he hG0 hW hr hp hcn kc
  have he1 := he
  have hG1 := hG0
  obtain ⟨h10, ⟨sa, h11, hsa⟩, hC, fa, h16, hfa⟩ := he1
  obtain ⟨ks, fo, sc, R, K, h15, h23, h24, hR, hkp, hX⟩ := hG1
  rw [show d + (f + 1) + 8 = d + f + 9 by omega]
  refine Mth_of (by decide) rfl ?_
  refine Ev_iload_n dX4_goOn_0 rfl ?_
  refine Ev_if_lt dX4_goOn_1 (fun c => absurd c (nI_pos (by omega))) (fun _ => ?_)
  refine Ev_iload_n dX4_goOn_4 rfl ?_
  refine Ev_aload_n dX4_goOn_5 rfl ?_
  refine Ev_get dX4_goOn_6 fg_X4_39_4 h15 rfl ?_
  refine Ev_icmp_ge dX4_goOn_9 (fun c => absurd c (fun z => absurd ((nle (by omega) (by omega)).mp z) (by omega))) (fun _ => ?_)
  refine Ev_iload_n dX4_goOn_12 rfl ?_
  refine Ev_iconst (v := 5) dX4_goOn_13 (by decide) ?_
  refine Ev_icmp_lt dX4_goOn_14 (fun _ => ?_) (fun c => absurd ((nlt (b := 5) (by omega) (by omega)).mpr (by omega)) c)
  refine Ev_aload_n dX4_goOn_18 rfl ?_
  refine Ev_get dX4_goOn_19 fg_X4_11_4 h15 rfl ?_
  refine Ev_iload_n dX4_goOn_22 rfl ?_
  refine Ev_aaloadN (j := s) dX4_goOn_23 h16 (Or.inr (Or.inr rfl)) (by omega) (by decide) (some (17 + s)) (hfa _ (by omega)) ?_
  refine Ev_astore_n dX4_goOn_24 rfl ?_
  refine Ev_aload_n dX4_goOn_25 rfl ?_
  refine Ev_get dX4_goOn_26 fg_X4_11_4 h15 rfl ?_
  refine Ev_iload_n dX4_goOn_29 rfl ?_
  refine Ev_iconst (v := 1) dX4_goOn_30 (by decide) ?_
  refine Ev_iadd dX4_goOn_31 ?_
  refine Ev_topi (y := nI (s + 1)) (nI_add _ _) ?_
  refine Ev_aaloadN (j := s + 1) dX4_goOn_32 h16 (Or.inr (Or.inr rfl)) (by omega) (by decide) (some (17 + (s + 1))) (hfa _ (by omega)) ?_
  refine Ev_astore_n dX4_goOn_33 rfl ?_
  refine Ev_iconst (v := 0) dX4_goOn_34 (by decide) ?_
  refine Ev_istore dX4_goOn_35 rfl ?_
  exact l_goOn hg hq hmo hs hw IH hr hp he hW n 0 S acc (by omega) FrC.rf he hG0 hW hcn kc
theorem c_goOn {d : Nat} {val : Nat → (Nat → Nat) → rV} {go mi wa uw mu : Int32} {mo pl n q cs : Nat} {du lw fr : Int32} {G : Nat → Nat → Nat} {fz : Int} {ad : Nat → Nat} (hg : GD pl n G) (hq : q ≤ 8) (hmo : mo ≤ 5) (hw : WGH val go (nI mo) mi wa uw mu pl n q cs du lw fr G fz ad) : ∀ (f s : Nat), s + f = mo → GON val go (nI mo) mi wa uw mu pl n q cs du lw fr G fz ad d f s
  | 0, s, h => c_goOn_0 hg hq hmo h
  | f + 1, s, h => c_goOn_s hg hq hmo h hw (c_goOn hg hq hmo hw f (s + 1) (by omega))

