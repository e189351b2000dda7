/-! ===== the reference's searches ===== -/
theorem kpR.up {b : Bool} {o : Int} {x : Nat} {acc : rV} {bm : Int32} {bi : Int64} {B : Nat → Int32} (h : kpR b o x acc bm bi B) : kpR b o (x + 1) acc bm bi B := by
  obtain ⟨h1, h2⟩ := h
  refine ⟨h1, fun z s r hz => ?_⟩
  obtain ⟨a1, a2, a3, a4, a5, a6⟩ := h2 z s r hz
  exact ⟨a1, a2, a3, a4, by omega, a6⟩
theorem mixI_pre {R B : Nat → Int32} {r : Nat → Nat} {x : Nat} (h : ∀ j, j < x → R j = nI (r j)) : ∀ j, j < x → mixI R B x j = nI (r j) := by
  intro j hj
  unfold mixI
  rw [if_pos hj]
  exact h j hj

set_option maxHeartbeats 4000000 in
set_option maxRecDepth 100000 in
theorem nx_end {D : Nat} {S : aS} {Q : Option Value → aS → Prop} {x : Nat} {flt du lw fr ra rp rs ea bm tr : Int32} {bi : Int64} {pl n cs q : Nat} (h31 : S[31]? = some (mo flt (nI pl) (nI n) du lw fr (nI cs) ra rp rs ea (-1) bm bi (nI q) tr)) (k : Q (some (.int 0)) S) : Ev none mX12_nextRow (D + 2) 0 0 [some (.ref 31), some (.int (nI x)), none] [] S Q := by
  refine Ev_aload_n dX12_nextRow_0 rfl ?_
  refine Ev_get dX12_nextRow_1 fg_X12_229_12 h31 rfl ?_
  refine Ev_if_lt dX12_nextRow_4 (fun _ => ?_) (fun c => absurd (by decide) c)
  refine Ev_iconst (v := 0) dX12_nextRow_135 (by decide) ?_
  refine Ev_iret dX12_nextRow_136 rfl (by decide) ?_
  exact k

set_option maxHeartbeats 4000000 in
set_option maxRecDepth 100000 in
theorem ht_seek0 {D : Nat} {S0 : aS} {Q : Option Value → aS → Prop} {flt du lw fr ra rp rs ea tr : Int32} {pl n cs q : Nat} {G : Nat → Nat → Nat} {m x : Nat} (hg : GD pl n G) (hcs : cs < 512) (hG0 : MN S0 n G) (hx1 : 1 ≤ x) (hx5 : x ≤ 5) (hdu : 0 ≤ du.toInt ∧ du.toInt ≤ 99) : ∀ (S : aS) (r e : Nat → Nat) (acc : rV), (∀ j, j < x → r j < n) → (jn acc ((vJ G n fr.toInt lw.toInt du.toInt) x r)).1 < 2147483647 → RX (moM flt du lw fr ra rp rs ea tr pl n cs q) false 100000 x S0 S (nI (x - 1)) x r e acc → (∀ S2, RX (moM flt du lw fr ra rp rs ea tr pl n cs q) false 100000 x S0 S2 (nI (x - 1)) x r e (jn acc ((vJ G n fr.toInt lw.toInt du.toInt) x r)) → Ev none mX12_nextRow (D + 6 + 2) 0 0 [some (.ref 31), some (.int (nI x)), none] [] S2 (fun v S2 => Ev none mX12_seek (D + 9) 0 26 [some (.ref 31), some (.int (nI m)), some (.int 0), some (.int (nI x)), none, none] (pu v []) S2 Q)) → (fun v S2 => Ev none mX12_seek (D + 9) 0 26 [some (.ref 31), some (.int (nI m)), some (.int 0), some (.int (nI x)), none, none] (pu v []) S2 Q) (some (.int 1)) S := by
  intro S r e acc hr _ hX k2
  have hn9 := hg.2.1
  obtain ⟨hF, bm, bi, R, E, B, h31, h44, h46, h47, hR, hE, hkp⟩ := hX
  have hrw : ∀ y, y < x → R y = nI (r y) ∧ r y < n := fun y hy => ⟨hR y hy, hr y hy⟩
  obtain ⟨b1, b2, b3, b4⟩ := jy_b (fz := fr.toInt) (lw := lw.toInt) hg hx5 hr hdu
  obtain ⟨w9, hw9, hv9⟩ : ∃ w9 : Int64, (iZ (jy lw.toInt du.toInt (sgN G n (goN r x) : Int) (sumN (fun y => tk G fr.toInt (r y)) x : Int) + 100000)).toInt64 = w9 ∧ w9.toInt = jy lw.toInt du.toInt (sgN G n (goN r x) : Int) (sumN (fun y => tk G fr.toInt (r y)) x : Int) + 100000 := ⟨_, rfl, by rw [x64, iZt (by omega)]⟩
  obtain ⟨v9, hv0⟩ : ∃ v9 : Int, v9 = jy lw.toInt du.toInt (sgN G n (goN r x) : Int) (sumN (fun y => tk G fr.toInt (r y)) x : Int) := ⟨_, rfl⟩
  have hv1 : (vJ G n fr.toInt lw.toInt du.toInt) x r = (1, some (v9, x, r)) := by rw [hv0]
  rw [hv1] at k2
  rw [← hv0] at hv9
  have hvb : -50000 ≤ v9 ∧ v9 ≤ 2000000 := by rw [hv0]; omega
  clear hv1 hv0
  obtain ⟨c, bb⟩ := acc
  obtain ⟨kk2, kk3⟩ := hkp
  cases bb with
  | none =>
    obtain ⟨e1, e2⟩ := kk2 rfl
    subst e2
    have hky : kpR false 100000 x (jn (c, none) (1, some (v9, x, r))) (nI x) w9 (mixI R B x) := by
      refine ⟨fun h => (by cases h), fun z2 s2 r2 h => ?_⟩
      cases h
      exact ⟨Nat.succ_pos c, rfl, hv9, hx1, Nat.le_refl _, fun h => (by cases h), hvb, mixI_pre hR⟩
    refine Ev_if_eq dX12_seek_26 (fun c => absurd c (by decide)) (fun _ => ?_)
    refine Ev_iload_n dX12_seek_29 rfl ?_
    refine Ev_if_eq dX12_seek_30 (fun _ => ?_) (fun c => absurd (by decide) c)
    refine Ev_aload_n dX12_seek_41 rfl ?_
    refine Ev_iload_n dX12_seek_42 rfl ?_
    refine Ev_callV (bc := 0) (b := 0) dX12_seek_43 cv_X12_207 rfl h31 (Nat.le_of_ble_eq_true rfl) (by omega) ?_
    refine c_X12_joyOf hg hcs h31 (hG0.fr hF) (m := x) (by omega) h44 hrw hdu ?_
    refine Ev_ldc dX12_seek_46 wl_X12_210 ?_
    refine Ev_iadd dX12_seek_48 ?_
    refine Ev_topi (y := iZ (jy lw.toInt du.toInt (sgN G n (goN r x) : Int) (sumN (fun y => tk G fr.toInt (r y)) x : Int) + 100000)) (toZ (xadd (iZt (by omega)) (y := 100000) rfl (by omega))) ?_
    refine Ev_i2l dX12_seek_49 ?_
    refine Ev_topl (y := w9) hw9 ?_
    refine Ev_lstore dX12_seek_50 rfl ?_
    refine Ev_aload_n dX12_seek_52 rfl ?_
    refine Ev_get dX12_seek_53 fg_X12_232_12 h31 rfl ?_
    refine Ev_if_eq dX12_seek_56 (fun _ => ?_) (fun c => absurd (by decide) c)
    refine Ev_aload_n dX12_seek_69 rfl ?_
    refine Ev_iload_n dX12_seek_70 rfl ?_
    refine Ev_lload dX12_seek_71 rfl ?_
    refine Ev_callV (bc := 0) (b := 0) dX12_seek_73 cv_X12_248 rfl h31 (Nat.le_of_ble_eq_true rfl) (by omega) ?_
    refine c_X12_keepRow h31 h44 h47 (m := x) (w := w9) hx5 ?_
    refine Ev_goto dX12_seek_76 ?_
    refine Ev_loc (la2 := [some (.ref 31), some (.int (nI m)), some (.int 0), some (.int (nI x)), none, none]) ⟨rfl, ⟨rfl, ⟨rfl, ⟨rfl, trivial⟩⟩⟩⟩ ?_
    refine Ev_aload_n dX12_seek_21 rfl ?_
    refine Ev_iload_n dX12_seek_22 rfl ?_
    refine Ev_callV (bc := 0) (b := 0) dX12_seek_23 cv_X12_242 rfl (gn (by decide) (gs h31)) (Nat.le_of_ble_eq_true rfl) (by omega) ?_
    refine Mth_of (by decide) rfl ?_
    exact k2 _ ⟨(FrR.st (FrR.st hF (by decide)) (by decide)), _, _, _, _, _, (gn (by decide) (gs h31)), (gn (by decide) (gn (by decide) h44)), (gn (by decide) (gn (by decide) h46)), (gs (gn (by decide) h47)), hR, hE, hky⟩
  | some b9 =>
    obtain ⟨z, s0, r9⟩ := b9
    obtain ⟨f1, f2, f3, f4, f5, f6, f7, f8⟩ := kk3 z s0 r9 rfl
    subst f2
    have hky : ¬ w9.toInt ≤ bi.toInt → kpR false 100000 x (jn (c, some (z, s0, r9)) (1, some (v9, x, r))) (nI x) w9 (mixI R B x) := by
      intro hl
      have ej : jn (c, some (z, s0, r9)) (1, some (v9, x, r)) = (c + 1, some (v9, x, r)) := by
        unfold jn
        rw [jb_y (Or.inl (show z < v9 by omega))]
      rw [ej]
      refine ⟨fun h => (by cases h), fun z2 s2 r2 h => ?_⟩
      cases h
      exact ⟨Nat.succ_pos c, rfl, hv9, hx1, Nat.le_refl _, fun h => (by cases h), hvb, mixI_pre hR⟩
    have hkn : w9.toInt ≤ bi.toInt → kpR false 100000 x (jn (c, some (z, s0, r9)) (1, some (v9, x, r))) (nI s0) bi B := by
      intro hl
      have ej : jn (c, some (z, s0, r9)) (1, some (v9, x, r)) = (c + 1, some (z, s0, r9)) := by
        unfold jn
        rw [jb_x (show ¬ (z < v9 ∨ (z = v9 ∧ x < s0)) by omega)]
      rw [ej]
      refine ⟨fun h => (by cases h), fun z2 s2 r2 h => ?_⟩
      cases h
      exact ⟨Nat.succ_pos c, rfl, f3, f4, f5, f6, f7, f8⟩
    refine Ev_if_eq dX12_seek_26 (fun c => absurd c (by decide)) (fun _ => ?_)
    refine Ev_iload_n dX12_seek_29 rfl ?_
    refine Ev_if_eq dX12_seek_30 (fun _ => ?_) (fun c => absurd (by decide) c)
    refine Ev_aload_n dX12_seek_41 rfl ?_
    refine Ev_iload_n dX12_seek_42 rfl ?_
    refine Ev_callV (bc := 0) (b := 0) dX12_seek_43 cv_X12_207 rfl h31 (Nat.le_of_ble_eq_true rfl) (by omega) ?_
    refine c_X12_joyOf hg hcs h31 (hG0.fr hF) (m := x) (by omega) h44 hrw hdu ?_
    refine Ev_ldc dX12_seek_46 wl_X12_210 ?_
    refine Ev_iadd dX12_seek_48 ?_
    refine Ev_topi (y := iZ (jy lw.toInt du.toInt (sgN G n (goN r x) : Int) (sumN (fun y => tk G fr.toInt (r y)) x : Int) + 100000)) (toZ (xadd (iZt (by omega)) (y := 100000) rfl (by omega))) ?_
    refine Ev_i2l dX12_seek_49 ?_
    refine Ev_topl (y := w9) hw9 ?_
    refine Ev_lstore dX12_seek_50 rfl ?_
    refine Ev_aload_n dX12_seek_52 rfl ?_
    refine Ev_get dX12_seek_53 fg_X12_232_12 h31 rfl ?_
    refine Ev_if_eq dX12_seek_56 (fun c => absurd c (fun z => absurd ((nIinj (b := 0) (by omega) (by omega)).mp z) (by omega))) (fun _ => ?_)
    refine Ev_lload dX12_seek_59 rfl ?_
    refine Ev_aload_n dX12_seek_61 rfl ?_
    refine Ev_get dX12_seek_62 fg_X12_235_12 h31 rfl ?_
    refine Ev_lcmp dX12_seek_65 ?_
    refine Ev_if_le dX12_seek_66 (fun c1 => ?_) (fun c1 => ?_)
    · skip
      rw [lg_le] at c1
      refine Ev_goto dX12_seek_76 ?_
      refine Ev_loc (la2 := [some (.ref 31), some (.int (nI m)), some (.int 0), some (.int (nI x)), none, none]) ⟨rfl, ⟨rfl, ⟨rfl, ⟨rfl, trivial⟩⟩⟩⟩ ?_
      refine Ev_aload_n dX12_seek_21 rfl ?_
      refine Ev_iload_n dX12_seek_22 rfl ?_
      refine Ev_callV (bc := 0) (b := 0) dX12_seek_23 cv_X12_242 rfl h31 (Nat.le_of_ble_eq_true rfl) (by omega) ?_
      refine Mth_of (by decide) rfl ?_
      have hk9 := hkn (by omega)
      exact k2 _ ⟨hF, _, _, _, _, _, h31, h44, h46, h47, hR, hE, hk9⟩
    · skip
      rw [lg_le] at c1
      refine Ev_aload_n dX12_seek_69 rfl ?_
      refine Ev_iload_n dX12_seek_70 rfl ?_
      refine Ev_lload dX12_seek_71 rfl ?_
      refine Ev_callV (bc := 0) (b := 0) dX12_seek_73 cv_X12_248 rfl h31 (Nat.le_of_ble_eq_true rfl) (by omega) ?_
      refine c_X12_keepRow h31 h44 h47 (m := x) (w := w9) hx5 ?_
      refine Ev_goto dX12_seek_76 ?_
      refine Ev_loc (la2 := [some (.ref 31), some (.int (nI m)), some (.int 0), some (.int (nI x)), none, none]) ⟨rfl, ⟨rfl, ⟨rfl, ⟨rfl, trivial⟩⟩⟩⟩ ?_
      refine Ev_aload_n dX12_seek_21 rfl ?_
      refine Ev_iload_n dX12_seek_22 rfl ?_
      refine Ev_callV (bc := 0) (b := 0) dX12_seek_23 cv_X12_242 rfl (gn (by decide) (gs h31)) (Nat.le_of_ble_eq_true rfl) (by omega) ?_
      refine Mth_of (by decide) rfl ?_
      have hk9 := hky (by omega)
      exact k2 _ ⟨(FrR.st (FrR.st hF (by decide)) (by decide)), _, _, _, _, _, (gn (by decide) (gs h31)), (gn (by decide) (gn (by decide) h44)), (gn (by decide) (gn (by decide) h46)), (gs (gn (by decide) h47)), hR, hE, hk9⟩

set_option maxHeartbeats 4000000 in
set_option maxRecDepth 100000 in
theorem l_seek0 {D : Nat} {S0 : aS} {Q : Option Value → aS → Prop} {flt du lw fr ra rp rs ea tr : Int32} {pl n cs q : Nat} {G : Nat → Nat → Nat} {m : Nat} (hg : GD pl n G) (hcs : cs < 512) (hG0 : MN S0 n G) (hm5 : m ≤ 5) (hp0 : 0 < pl) (hdu : 0 ≤ du.toInt ∧ du.toInt ≤ 99) (k : ∀ (S2 : aS) (dv : Int32), RX (moM flt du lw fr ra rp rs ea tr pl n cs q) false 100000 m S0 S2 dv 0 r0 r0 (ff (fun y => Ln G cs n (pl - 1) (vJ G n fr.toInt lw.toInt du.toInt) y 0 r0 0) m 0) → Q none S2) : ∀ (t i : Nat) (S : aS) (dv : Int32), i + t = m → RX (moM flt du lw fr ra rp rs ea tr pl n cs q) false 100000 i S0 S dv 0 r0 r0 (ff (fun y => Ln G cs n (pl - 1) (vJ G n fr.toInt lw.toInt du.toInt) y 0 r0 0) i 0) → Ev none mX12_seek (D + 9) 0 12 [some (.ref 31), some (.int (nI m)), some (.int 0), some (.int (nI (i + 1))), none, none] [] S Q := by
  have hn9 := hg.2.1
  have hp7 := hg.1
  intro t
  induction t with
  | zero =>
    intro i S dv hi hX
    have hi : i = m := by omega
    subst hi
    have hX1 := hX
    obtain ⟨hF, bm, bi, R, E, B, h31, h44, h46, h47, hR, hE, hkp⟩ := hX1
    refine Ev_iload_n dX12_seek_12 rfl ?_
    refine Ev_iload_n dX12_seek_13 rfl ?_
    refine Ev_icmp_gt dX12_seek_14 (fun _ => ?_) (fun c => absurd ((nlt (by omega) (by omega)).mpr (by omega)) c)
    refine Ev_vret dX12_seek_85 rfl ?_
    exact k S _ hX
  | succ t ih =>
    intro i S dv hi hX
    obtain ⟨hF, bm, bi, R, E, B, h31, h44, h46, h47, hR, hE, hkp⟩ := hX
    refine Ev_iload_n dX12_seek_12 rfl ?_
    refine Ev_iload_n dX12_seek_13 rfl ?_
    refine Ev_icmp_gt dX12_seek_14 (fun c => absurd c (fun z => absurd ((nlt (by omega) (by omega)).mp z) (by omega))) (fun _ => ?_)
    refine Ev_aload_n dX12_seek_17 rfl ?_
    refine Ev_callV (bc := 0) (b := 0) dX12_seek_18 cv_X12_239 rfl h31 (Nat.le_of_ble_eq_true rfl) (by omega) ?_
    refine c_X12_beginRows h31 h44 h46 ?_
    refine Ev_aload_n dX12_seek_21 rfl ?_
    refine Ev_iload_n dX12_seek_22 rfl ?_
    refine Ev_callV (bc := 0) (b := 0) dX12_seek_23 cv_X12_242 rfl (gn (by decide) (gn (by decide) (gs h31))) (Nat.le_of_ble_eq_true rfl) (by omega) ?_
    have hs9 := ff_snoc (g := (fun y => Ln G cs n (pl - 1) (vJ G n fr.toInt lw.toInt du.toInt) y 0 r0 0)) i 0
    rw [Nat.zero_add] at hs9
    have hcn9 : (jn (ff (fun y => Ln G cs n (pl - 1) (vJ G n fr.toInt lw.toInt du.toInt) y 0 r0 0) i 0) (ff (tX G cs n (pl - 1) (vJ G n fr.toInt lw.toInt du.toInt) 0 r0 0 i) n 0)).1 < 2147483647 := by rw [← Ln_tX, ← hs9, ← Dn_eq vJ_of]; exact Nat.lt_of_le_of_lt (Dn_small (fun _ _ => Nat.le_refl _) hn9 (by omega) 0 r0 0) (by decide)
    refine Mth_of (by decide) rfl ?_
    refine nx_all (Qa := fun _ => (fun v S2 => Ev none mX12_seek (D + 9) 0 26 [some (.ref 31), some (.int (nI m)), some (.int 0), some (.int (nI (i + 1))), none, none] (pu v []) S2 Q)) (D := D + 6) (b := false) (o := 100000) (val := (vJ G n fr.toInt lw.toInt du.toInt)) hg hcs hG0 (by omega) (ht_seek0 hg hcs hG0 (by omega) (by omega) hdu) i 0 (by omega) n 0 _ r0 r0 (ff (fun y => Ln G cs n (pl - 1) (vJ G n fr.toInt lw.toInt du.toInt) y 0 r0 0) i 0) 0 (by omega) (fun j hj => absurd hj (Nat.not_lt_zero j)) hp0 ⟨(FrR.st (FrR.st (FrR.st hF (by decide)) (by decide)) (by decide)), _, _, _, _, _, (gn (by decide) (gn (by decide) (gs h31))), (gn (by decide) (gs (gn (by decide) h44))), (gs (gn (by decide) (gn (by decide) h46))), (gn (by decide) (gn (by decide) (gn (by decide) h47))), (fun j hj => absurd hj (Nat.not_lt_zero j)), (fun j hj => absurd hj (Nat.not_lt_zero j)), (by rw [upd_s]; decide), (by rw [upd_s]; rfl), hkp.up⟩ hcn9 (fun S2 hX2 => ?_)
    rw [← Ln_tX] at hX2
    rw [← hs9] at hX2
    have hX3 := hX2
    obtain ⟨hF2, bm2, bi2, R2, E2, B2, g31, g44, g46, g47, gR, gE, gkp⟩ := hX3
    refine nx_end g31 ?_
    refine Ev_if_eq dX12_seek_26 (fun _ => ?_) (fun c => absurd (by decide) c)
    refine Ev_iinc (v := nI (i + 1 + 1)) dX12_seek_79 rfl (nI_1 _) rfl ?_
    refine Ev_goto dX12_seek_82 ?_
    exact ih (i + 1) S2 _ (by omega) hX2

set_option maxHeartbeats 4000000 in
set_option maxRecDepth 100000 in
theorem c_seek0 {d : Nat} {S : aS} {Q : Option Value → aS → Prop} {flt du lw fr ra rp rs ea dp bm tr : Int32} {bi : Int64} {pl n cs q : Nat} {m : Nat} {G : Nat → Nat → Nat} (hg : GD pl n G) (hcs : cs < 512) (hG : MN S n G) (h31 : S[31]? = some (mo flt (nI pl) (nI n) du lw fr (nI cs) ra rp rs ea dp bm bi (nI q) tr)) {R E B : Nat → Int32} (h44 : S[44]? = some (iA 12 R)) (h46 : S[46]? = some (iA 6 E)) (h47 : S[47]? = some (iA 5 B)) (hm : 1 ≤ m ∧ m ≤ 5) (hp0 : 0 < pl) (hdu : 0 ≤ du.toInt ∧ du.toInt ≤ 99) (k : ∀ (S2 : aS) (dv : Int32), RX (moM flt du lw fr ra rp rs ea tr pl n cs q) false 100000 m S S2 dv 0 r0 r0 (Dn G cs n (pl - 1) (vJ G n fr.toInt lw.toInt du.toInt) m 0 r0 0) → Q none S2)  : Mth mX12_seek (d + 9) 0 [.ref 31, .int (nI m), .int 0] S Q := by
  refine Mth_of (by decide) rfl ?_
  refine Ev_aload_n dX12_seek_0 rfl ?_
  refine Ev_iconst (v := 0) dX12_seek_1 (by decide) ?_
  refine Ev_put dX12_seek_2 fr_X12_232_12 h31 rfl rfl rfl ?_
  refine Ev_aload_n dX12_seek_5 rfl ?_
  refine Ev_lconst (v := 0) dX12_seek_6 (by decide) ?_
  refine Ev_put dX12_seek_7 fr_X12_235_12 (gs h31) rfl rfl rfl ?_
  refine Ev_st gss ?_
  refine Ev_iconst (v := 1) dX12_seek_10 (by decide) ?_
  refine Ev_istore_n dX12_seek_11 rfl ?_
  refine l_seek0 (m := m) (S0 := S) hg hcs hG hm.2 hp0 hdu ?_ m 0 _ dp (by omega) ⟨(FrR.st FrR.rf (by decide)), _, _, R, E, B, (gs h31), (gn (by decide) h44), (gn (by decide) h46), (gn (by decide) h47), (fun j hj => absurd hj (Nat.not_lt_zero j)), (fun j hj => absurd hj (Nat.not_lt_zero j)), ⟨fun _ => ⟨rfl, rfl⟩, fun z s r h => by cases h⟩⟩
  intro S2 dv hX
  rw [← Dn_eq vJ_of] at hX
  exact k S2 dv hX

set_option maxHeartbeats 4000000 in
set_option maxRecDepth 100000 in
theorem ht_seek1 {D : Nat} {S0 : aS} {Q : Option Value → aS → Prop} {flt du lw fr ra rp rs ea tr : Int32} {pl n cs q : Nat} {G : Nat → Nat → Nat} {m x : Nat} (hg : GD pl n G) (hcs : cs < 512) (hG0 : MN S0 n G) (hx1 : 1 ≤ x) (hx5 : x ≤ 5) : ∀ (S : aS) (r e : Nat → Nat) (acc : rV), (∀ j, j < x → r j < n) → (jn acc ((vS G fr.toInt) x r)).1 < 2147483647 → RX (moM flt du lw fr ra rp rs ea tr pl n cs q) false 0 x S0 S (nI (x - 1)) x r e acc → (∀ S2, RX (moM flt du lw fr ra rp rs ea tr pl n cs q) false 0 x S0 S2 (nI (x - 1)) x r e (jn acc ((vS G fr.toInt) x r)) → Ev none mX12_nextRow (D + 6 + 2) 0 0 [some (.ref 31), some (.int (nI x)), none] [] S2 (fun v S2 => Ev none mX12_seek (D + 9) 0 26 [some (.ref 31), some (.int (nI m)), some (.int 1), some (.int (nI x)), none, none] (pu v []) S2 Q)) → (fun v S2 => Ev none mX12_seek (D + 9) 0 26 [some (.ref 31), some (.int (nI m)), some (.int 1), some (.int (nI x)), none, none] (pu v []) S2 Q) (some (.int 1)) S := by
  intro S r e acc hr _ hX k2
  have hn9 := hg.2.1
  obtain ⟨hF, bm, bi, R, E, B, h31, h44, h46, h47, hR, hE, hkp⟩ := hX
  have hrw : ∀ y, y < x → R y = nI (r y) ∧ r y < n := fun y hy => ⟨hR y hy, hr y hy⟩
  have b1 := s5 hx5 (pr_b (G := G) (fz := fr.toInt) (r := r) x)
  obtain ⟨w9, hw9, hv9⟩ : ∃ w9 : Int64, lN (prodN (fun y => tn G fr.toInt (r y)) x * 10 ^ (5 - x)) = w9 ∧ w9.toInt = (((prodN (fun y => tn G fr.toInt (r y)) x * 10 ^ (5 - x) : Nat)) : Int) + 0 := ⟨_, rfl, by rw [lN_toInt (by omega), Int.add_zero]⟩
  obtain ⟨v9, hv0⟩ : ∃ v9 : Int, v9 = (((prodN (fun y => tn G fr.toInt (r y)) x * 10 ^ (5 - x) : Nat)) : Int) := ⟨_, rfl⟩
  have hv1 : (vS G fr.toInt) x r = (1, some (v9, x, r)) := by rw [hv0]
  rw [hv1] at k2
  rw [← hv0] at hv9
  have hvb : -50000 ≤ v9 ∧ v9 ≤ 2000000 := by rw [hv0]; omega
  clear hv1 hv0
  obtain ⟨c, bb⟩ := acc
  obtain ⟨kk2, kk3⟩ := hkp
  cases bb with
  | none =>
    obtain ⟨e1, e2⟩ := kk2 rfl
    subst e2
    have hky : kpR false 0 x (jn (c, none) (1, some (v9, x, r))) (nI x) w9 (mixI R B x) := by
      refine ⟨fun h => (by cases h), fun z2 s2 r2 h => ?_⟩
      cases h
      exact ⟨Nat.succ_pos c, rfl, hv9, hx1, Nat.le_refl _, fun h => (by cases h), hvb, mixI_pre hR⟩
    refine Ev_if_eq dX12_seek_26 (fun c => absurd c (by decide)) (fun _ => ?_)
    refine Ev_iload_n dX12_seek_29 rfl ?_
    refine Ev_if_eq dX12_seek_30 (fun c => absurd c (by decide)) (fun _ => ?_)
    refine Ev_aload_n dX12_seek_33 rfl ?_
    refine Ev_iload_n dX12_seek_34 rfl ?_
    refine Ev_callV (bc := 0) (b := 0) dX12_seek_35 cv_X12_245 rfl h31 (Nat.le_of_ble_eq_true rfl) (by omega) ?_
    refine c_X12_partsOf hg hcs h31 (hG0.fr hF) (m := x) (by omega) h44 hrw hx5 ?_
    refine Ev_topl (y := w9) hw9 ?_
    refine Ev_goto dX12_seek_38 ?_
    refine Ev_lstore dX12_seek_50 rfl ?_
    refine Ev_aload_n dX12_seek_52 rfl ?_
    refine Ev_get dX12_seek_53 fg_X12_232_12 h31 rfl ?_
    refine Ev_if_eq dX12_seek_56 (fun _ => ?_) (fun c => absurd (by decide) c)
    refine Ev_aload_n dX12_seek_69 rfl ?_
    refine Ev_iload_n dX12_seek_70 rfl ?_
    refine Ev_lload dX12_seek_71 rfl ?_
    refine Ev_callV (bc := 0) (b := 0) dX12_seek_73 cv_X12_248 rfl h31 (Nat.le_of_ble_eq_true rfl) (by omega) ?_
    refine c_X12_keepRow h31 h44 h47 (m := x) (w := w9) hx5 ?_
    refine Ev_goto dX12_seek_76 ?_
    refine Ev_loc (la2 := [some (.ref 31), some (.int (nI m)), some (.int 1), some (.int (nI x)), none, none]) ⟨rfl, ⟨rfl, ⟨rfl, ⟨rfl, trivial⟩⟩⟩⟩ ?_
    refine Ev_aload_n dX12_seek_21 rfl ?_
    refine Ev_iload_n dX12_seek_22 rfl ?_
    refine Ev_callV (bc := 0) (b := 0) dX12_seek_23 cv_X12_242 rfl (gn (by decide) (gs h31)) (Nat.le_of_ble_eq_true rfl) (by omega) ?_
    refine Mth_of (by decide) rfl ?_
    exact k2 _ ⟨(FrR.st (FrR.st hF (by decide)) (by decide)), _, _, _, _, _, (gn (by decide) (gs h31)), (gn (by decide) (gn (by decide) h44)), (gn (by decide) (gn (by decide) h46)), (gs (gn (by decide) h47)), hR, hE, hky⟩
  | some b9 =>
    obtain ⟨z, s0, r9⟩ := b9
    obtain ⟨f1, f2, f3, f4, f5, f6, f7, f8⟩ := kk3 z s0 r9 rfl
    subst f2
    have hky : ¬ w9.toInt ≤ bi.toInt → kpR false 0 x (jn (c, some (z, s0, r9)) (1, some (v9, x, r))) (nI x) w9 (mixI R B x) := by
      intro hl
      have ej : jn (c, some (z, s0, r9)) (1, some (v9, x, r)) = (c + 1, some (v9, x, r)) := by
        unfold jn
        rw [jb_y (Or.inl (show z < v9 by omega))]
      rw [ej]
      refine ⟨fun h => (by cases h), fun z2 s2 r2 h => ?_⟩
      cases h
      exact ⟨Nat.succ_pos c, rfl, hv9, hx1, Nat.le_refl _, fun h => (by cases h), hvb, mixI_pre hR⟩
    have hkn : w9.toInt ≤ bi.toInt → kpR false 0 x (jn (c, some (z, s0, r9)) (1, some (v9, x, r))) (nI s0) bi B := by
      intro hl
      have ej : jn (c, some (z, s0, r9)) (1, some (v9, x, r)) = (c + 1, some (z, s0, r9)) := by
        unfold jn
        rw [jb_x (show ¬ (z < v9 ∨ (z = v9 ∧ x < s0)) by omega)]
      rw [ej]
      refine ⟨fun h => (by cases h), fun z2 s2 r2 h => ?_⟩
      cases h
      exact ⟨Nat.succ_pos c, rfl, f3, f4, f5, f6, f7, f8⟩
    refine Ev_if_eq dX12_seek_26 (fun c => absurd c (by decide)) (fun _ => ?_)
    refine Ev_iload_n dX12_seek_29 rfl ?_
    refine Ev_if_eq dX12_seek_30 (fun c => absurd c (by decide)) (fun _ => ?_)
    refine Ev_aload_n dX12_seek_33 rfl ?_
    refine Ev_iload_n dX12_seek_34 rfl ?_
    refine Ev_callV (bc := 0) (b := 0) dX12_seek_35 cv_X12_245 rfl h31 (Nat.le_of_ble_eq_true rfl) (by omega) ?_
    refine c_X12_partsOf hg hcs h31 (hG0.fr hF) (m := x) (by omega) h44 hrw hx5 ?_
    refine Ev_topl (y := w9) hw9 ?_
    refine Ev_goto dX12_seek_38 ?_
    refine Ev_lstore dX12_seek_50 rfl ?_
    refine Ev_aload_n dX12_seek_52 rfl ?_
    refine Ev_get dX12_seek_53 fg_X12_232_12 h31 rfl ?_
    refine Ev_if_eq dX12_seek_56 (fun c => absurd c (fun z => absurd ((nIinj (b := 0) (by omega) (by omega)).mp z) (by omega))) (fun _ => ?_)
    refine Ev_lload dX12_seek_59 rfl ?_
    refine Ev_aload_n dX12_seek_61 rfl ?_
    refine Ev_get dX12_seek_62 fg_X12_235_12 h31 rfl ?_
    refine Ev_lcmp dX12_seek_65 ?_
    refine Ev_if_le dX12_seek_66 (fun c1 => ?_) (fun c1 => ?_)
    · skip
      rw [lg_le] at c1
      refine Ev_goto dX12_seek_76 ?_
      refine Ev_loc (la2 := [some (.ref 31), some (.int (nI m)), some (.int 1), some (.int (nI x)), none, none]) ⟨rfl, ⟨rfl, ⟨rfl, ⟨rfl, trivial⟩⟩⟩⟩ ?_
      refine Ev_aload_n dX12_seek_21 rfl ?_
      refine Ev_iload_n dX12_seek_22 rfl ?_
      refine Ev_callV (bc := 0) (b := 0) dX12_seek_23 cv_X12_242 rfl h31 (Nat.le_of_ble_eq_true rfl) (by omega) ?_
      refine Mth_of (by decide) rfl ?_
      have hk9 := hkn (by omega)
      exact k2 _ ⟨hF, _, _, _, _, _, h31, h44, h46, h47, hR, hE, hk9⟩
    · skip
      rw [lg_le] at c1
      refine Ev_aload_n dX12_seek_69 rfl ?_
      refine Ev_iload_n dX12_seek_70 rfl ?_
      refine Ev_lload dX12_seek_71 rfl ?_
      refine Ev_callV (bc := 0) (b := 0) dX12_seek_73 cv_X12_248 rfl h31 (Nat.le_of_ble_eq_true rfl) (by omega) ?_
      refine c_X12_keepRow h31 h44 h47 (m := x) (w := w9) hx5 ?_
      refine Ev_goto dX12_seek_76 ?_
      refine Ev_loc (la2 := [some (.ref 31), some (.int (nI m)), some (.int 1), some (.int (nI x)), none, none]) ⟨rfl, ⟨rfl, ⟨rfl, ⟨rfl, trivial⟩⟩⟩⟩ ?_
      refine Ev_aload_n dX12_seek_21 rfl ?_
      refine Ev_iload_n dX12_seek_22 rfl ?_
      refine Ev_callV (bc := 0) (b := 0) dX12_seek_23 cv_X12_242 rfl (gn (by decide) (gs h31)) (Nat.le_of_ble_eq_true rfl) (by omega) ?_
      refine Mth_of (by decide) rfl ?_
      have hk9 := hky (by omega)
      exact k2 _ ⟨(FrR.st (FrR.st hF (by decide)) (by decide)), _, _, _, _, _, (gn (by decide) (gs h31)), (gn (by decide) (gn (by decide) h44)), (gn (by decide) (gn (by decide) h46)), (gs (gn (by decide) h47)), hR, hE, hk9⟩

set_option maxHeartbeats 4000000 in
set_option maxRecDepth 100000 in
theorem l_seek1 {D : Nat} {S0 : aS} {Q : Option Value → aS → Prop} {flt du lw fr ra rp rs ea tr : Int32} {pl n cs q : Nat} {G : Nat → Nat → Nat} {m : Nat} (hg : GD pl n G) (hcs : cs < 512) (hG0 : MN S0 n G) (hm5 : m ≤ 5) (hp0 : 0 < pl) (k : ∀ (S2 : aS) (dv : Int32), RX (moM flt du lw fr ra rp rs ea tr pl n cs q) false 0 m S0 S2 dv 0 r0 r0 (ff (fun y => Ln G cs n (pl - 1) (vS G fr.toInt) y 0 r0 0) m 0) → Q none S2) : ∀ (t i : Nat) (S : aS) (dv : Int32), i + t = m → RX (moM flt du lw fr ra rp rs ea tr pl n cs q) false 0 i S0 S dv 0 r0 r0 (ff (fun y => Ln G cs n (pl - 1) (vS G fr.toInt) y 0 r0 0) i 0) → Ev none mX12_seek (D + 9) 0 12 [some (.ref 31), some (.int (nI m)), some (.int 1), some (.int (nI (i + 1))), none, none] [] S Q := by
  have hn9 := hg.2.1
  have hp7 := hg.1
  intro t
  induction t with
  | zero =>
    intro i S dv hi hX
    have hi : i = m := by omega
    subst hi
    have hX1 := hX
    obtain ⟨hF, bm, bi, R, E, B, h31, h44, h46, h47, hR, hE, hkp⟩ := hX1
    refine Ev_iload_n dX12_seek_12 rfl ?_
    refine Ev_iload_n dX12_seek_13 rfl ?_
    refine Ev_icmp_gt dX12_seek_14 (fun _ => ?_) (fun c => absurd ((nlt (by omega) (by omega)).mpr (by omega)) c)
    refine Ev_vret dX12_seek_85 rfl ?_
    exact k S _ hX
  | succ t ih =>
    intro i S dv hi hX
    obtain ⟨hF, bm, bi, R, E, B, h31, h44, h46, h47, hR, hE, hkp⟩ := hX
    refine Ev_iload_n dX12_seek_12 rfl ?_
    refine Ev_iload_n dX12_seek_13 rfl ?_
    refine Ev_icmp_gt dX12_seek_14 (fun c => absurd c (fun z => absurd ((nlt (by omega) (by omega)).mp z) (by omega))) (fun _ => ?_)
    refine Ev_aload_n dX12_seek_17 rfl ?_
    refine Ev_callV (bc := 0) (b := 0) dX12_seek_18 cv_X12_239 rfl h31 (Nat.le_of_ble_eq_true rfl) (by omega) ?_
    refine c_X12_beginRows h31 h44 h46 ?_
    refine Ev_aload_n dX12_seek_21 rfl ?_
    refine Ev_iload_n dX12_seek_22 rfl ?_
    refine Ev_callV (bc := 0) (b := 0) dX12_seek_23 cv_X12_242 rfl (gn (by decide) (gn (by decide) (gs h31))) (Nat.le_of_ble_eq_true rfl) (by omega) ?_
    have hs9 := ff_snoc (g := (fun y => Ln G cs n (pl - 1) (vS G fr.toInt) y 0 r0 0)) i 0
    rw [Nat.zero_add] at hs9
    have hcn9 : (jn (ff (fun y => Ln G cs n (pl - 1) (vS G fr.toInt) y 0 r0 0) i 0) (ff (tX G cs n (pl - 1) (vS G fr.toInt) 0 r0 0 i) n 0)).1 < 2147483647 := by rw [← Ln_tX, ← hs9, ← Dn_eq vS_of]; exact Nat.lt_of_le_of_lt (Dn_small (fun _ _ => Nat.le_refl _) hn9 (by omega) 0 r0 0) (by decide)
    refine Mth_of (by decide) rfl ?_
    refine nx_all (Qa := fun _ => (fun v S2 => Ev none mX12_seek (D + 9) 0 26 [some (.ref 31), some (.int (nI m)), some (.int 1), some (.int (nI (i + 1))), none, none] (pu v []) S2 Q)) (D := D + 6) (b := false) (o := 0) (val := (vS G fr.toInt)) hg hcs hG0 (by omega) (ht_seek1 hg hcs hG0 (by omega) (by omega)) i 0 (by omega) n 0 _ r0 r0 (ff (fun y => Ln G cs n (pl - 1) (vS G fr.toInt) y 0 r0 0) i 0) 0 (by omega) (fun j hj => absurd hj (Nat.not_lt_zero j)) hp0 ⟨(FrR.st (FrR.st (FrR.st hF (by decide)) (by decide)) (by decide)), _, _, _, _, _, (gn (by decide) (gn (by decide) (gs h31))), (gn (by decide) (gs (gn (by decide) h44))), (gs (gn (by decide) (gn (by decide) h46))), (gn (by decide) (gn (by decide) (gn (by decide) h47))), (fun j hj => absurd hj (Nat.not_lt_zero j)), (fun j hj => absurd hj (Nat.not_lt_zero j)), (by rw [upd_s]; decide), (by rw [upd_s]; rfl), hkp.up⟩ hcn9 (fun S2 hX2 => ?_)
    rw [← Ln_tX] at hX2
    rw [← hs9] at hX2
    have hX3 := hX2
    obtain ⟨hF2, bm2, bi2, R2, E2, B2, g31, g44, g46, g47, gR, gE, gkp⟩ := hX3
    refine nx_end g31 ?_
    refine Ev_if_eq dX12_seek_26 (fun _ => ?_) (fun c => absurd (by decide) c)
    refine Ev_iinc (v := nI (i + 1 + 1)) dX12_seek_79 rfl (nI_1 _) rfl ?_
    refine Ev_goto dX12_seek_82 ?_
    exact ih (i + 1) S2 _ (by omega) hX2

set_option maxHeartbeats 4000000 in
set_option maxRecDepth 100000 in
theorem c_seek1 {d : Nat} {S : aS} {Q : Option Value → aS → Prop} {flt du lw fr ra rp rs ea dp bm tr : Int32} {bi : Int64} {pl n cs q : Nat} {m : Nat} {G : Nat → Nat → Nat} (hg : GD pl n G) (hcs : cs < 512) (hG : MN S n G) (h31 : S[31]? = some (mo flt (nI pl) (nI n) du lw fr (nI cs) ra rp rs ea dp bm bi (nI q) tr)) {R E B : Nat → Int32} (h44 : S[44]? = some (iA 12 R)) (h46 : S[46]? = some (iA 6 E)) (h47 : S[47]? = some (iA 5 B)) (hm : 1 ≤ m ∧ m ≤ 5) (hp0 : 0 < pl) (k : ∀ (S2 : aS) (dv : Int32), RX (moM flt du lw fr ra rp rs ea tr pl n cs q) false 0 m S S2 dv 0 r0 r0 (Dn G cs n (pl - 1) (vS G fr.toInt) m 0 r0 0) → Q none S2)  : Mth mX12_seek (d + 9) 0 [.ref 31, .int (nI m), .int 1] S Q := by
  refine Mth_of (by decide) rfl ?_
  refine Ev_aload_n dX12_seek_0 rfl ?_
  refine Ev_iconst (v := 0) dX12_seek_1 (by decide) ?_
  refine Ev_put dX12_seek_2 fr_X12_232_12 h31 rfl rfl rfl ?_
  refine Ev_aload_n dX12_seek_5 rfl ?_
  refine Ev_lconst (v := 0) dX12_seek_6 (by decide) ?_
  refine Ev_put dX12_seek_7 fr_X12_235_12 (gs h31) rfl rfl rfl ?_
  refine Ev_st gss ?_
  refine Ev_iconst (v := 1) dX12_seek_10 (by decide) ?_
  refine Ev_istore_n dX12_seek_11 rfl ?_
  refine l_seek1 (m := m) (S0 := S) hg hcs hG hm.2 hp0 ?_ m 0 _ dp (by omega) ⟨(FrR.st FrR.rf (by decide)), _, _, R, E, B, (gs h31), (gn (by decide) h44), (gn (by decide) h46), (gn (by decide) h47), (fun j hj => absurd hj (Nat.not_lt_zero j)), (fun j hj => absurd hj (Nat.not_lt_zero j)), ⟨fun _ => ⟨rfl, rfl⟩, fun z s r h => by cases h⟩⟩
  intro S2 dv hX
  rw [← Dn_eq vS_of] at hX
  exact k S2 dv hX

