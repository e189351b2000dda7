/-! ===== net, side by side ===== -/
theorem CA.im {S S2 : aS} {flt tr du lw fr : Int32} {pl n q cs : Nat} {G : Nat → Nat → Nat} {ad : Nat → Nat} {z : Nat → Int} {la : Nat → Nat} {ce : Nat → Nat → Int32} {ro : Nat → Nat} {rb : Nat → Bool} (h : CA S flt tr du lw fr pl n q cs G ad z la ce ro rb) (g : ∀ (a : Nat) (c : aE), a < 31 ∨ 55 < a → S[a]? = some c → S2[a]? = some c) : CA S2 flt tr du lw fr pl n q cs G ad z la ce ro rb := by
  obtain ⟨h1, ⟨fa, h2, h2b⟩, h3, h4, ⟨sa, h5, h5b⟩, ⟨fo, fw, h6, h6b, h6c⟩, h7, ⟨X1, ⟨x1, x2, x3, x4, x5, x6, x7, x8, x9, v, X2⟩, ⟨f3, X3, X3b⟩, ⟨f4, X4⟩, ⟨f5, X5⟩, X6, ⟨f7, X7⟩, X8, ⟨f9, X9⟩, f10, X10⟩, h9⟩ := h
  refine ⟨g _ _ (by omega) h1, ⟨fa, g _ _ (by omega) h2, h2b⟩, fun k hk => ?_, g _ _ (by omega) h4, ⟨sa, g _ _ (by omega) h5, h5b⟩, ⟨fo, fw, g _ _ (by omega) h6, g _ _ (by omega) h6b, h6c⟩, fun j hj => ⟨g _ _ (by have := (h7 j hj).2.1; omega) (h7 j hj).1, (h7 j hj).2⟩, ⟨fun k hk => ?_, ⟨x1, x2, x3, x4, x5, x6, x7, x8, x9, v, g _ _ (by omega) X2⟩, ⟨f3, g _ _ (by omega) X3, X3b⟩, ⟨f4, g _ _ (by omega) X4⟩, ⟨f5, g _ _ (by omega) X5⟩, g _ _ (by omega) X6, ⟨f7, g _ _ (by omega) X7⟩, g _ _ (by omega) X8, ⟨f9, g _ _ (by omega) X9⟩, f10, g _ _ (by omega) X10⟩, g _ _ (by omega) h9⟩
  · obtain ⟨y1, y2, y3, ln, len, f, y4, y5, y6⟩ := h3 k hk
    exact ⟨y1, y2, y3, ln, len, f, g _ _ (by omega) y4, g _ _ (by omega) y5, y6⟩
  · obtain ⟨p1, s1, m1, g1, o1, t1, y⟩ := X1 k hk
    exact ⟨p1, s1, m1, g1, o1, t1, g _ _ (by split <;> omega) y⟩
theorem RA.im {S S2 : aS} {flt tr du lw fr : Int32} {pl n q cs : Nat} {G : Nat → Nat → Nat} {z : Nat → Int} {la : Nat → Nat} {ce : Nat → Nat → Int32} {ro : Nat → Nat} {rb : Nat → Bool} (h : RA S flt tr du lw fr pl n q cs G z la ce ro rb) (g : ∀ (a : Nat) (c : aE), 30 < a ∧ a < 56 → S[a]? = some c → S2[a]? = some c) : RA S2 flt tr du lw fr pl n q cs G z la ce ro rb := by
  obtain ⟨⟨ra, rp, rs, ea, dp, bm, bi, h1⟩, h2, ⟨fo, fw, h3, h3b, h3c⟩, ⟨fs, fl, fc, h4, h4b, h4c, h4d⟩, ⟨Y1, ⟨y2, Y2⟩, ⟨y3, Y3⟩, ⟨y4, Y4⟩, ⟨y5, Y5⟩, ⟨y6, Y6⟩, ⟨y7, Y7⟩, y8, Y8⟩⟩ := h
  refine ⟨⟨ra, rp, rs, ea, dp, bm, bi, g _ _ (by omega) h1⟩, fun f hf => ?_, ⟨fo, fw, g _ _ (by omega) h3, g _ _ (by omega) h3b, h3c⟩, ⟨fs, fl, fc, g _ _ (by omega) h4, g _ _ (by omega) h4b, g _ _ (by omega) h4c, h4d⟩, ⟨fun k hk => ?_, ⟨y2, g _ _ (by omega) Y2⟩, ⟨y3, g _ _ (by omega) Y3⟩, ⟨y4, g _ _ (by omega) Y4⟩, ⟨y5, g _ _ (by omega) Y5⟩, ⟨y6, g _ _ (by omega) Y6⟩, ⟨y7, g _ _ (by omega) Y7⟩, y8, g _ _ (by omega) Y8⟩⟩
  · obtain ⟨f2, y, y2⟩ := h2 f hf
    exact ⟨f2, g _ _ (by omega) y, y2⟩
  · obtain ⟨f, y⟩ := Y1 k hk
    exact ⟨f, g _ _ (by omega) y⟩
/-- a new net -/
theorem CA.nw {S S2 : aS} {flt tr du lw fr : Int32} {pl n q cs : Nat} {G : Nat → Nat → Nat} {ad : Nat → Nat} {z : Nat → Int} {la : Nat → Nat} {ce : Nat → Nat → Int32} {ro : Nat → Nat} {rb : Nat → Bool} (h : CA S flt tr du lw fr pl n q cs G ad z la ce ro rb) {du2 lw2 fr2 : Int32} {pl2 n2 : Nat} {G2 : Nat → Nat → Nat} {ad2 : Nat → Nat} (g : ∀ (a : Nat) (c : aE), a ≠ 0 ∧ a ≠ 10 ∧ a ≠ 11 ∧ a < 31 → S[a]? = some c → S2[a]? = some c) (n0 : S2[0]? = some (co 0)) (n10 : S2[10]? = some (nt (nI pl2) (nI n2) du2 lw2 fr2 (nI 0))) (n11 : cT S2 n2 ad2) (nN : CN S2 n2 G2 0 fr2.toInt ad2) : CA S2 0 tr du2 lw2 fr2 pl2 n2 0 0 G2 ad2 z la ce ro rb := by
  obtain ⟨h1, ⟨fa, h2, h2b⟩, h3, h4, ⟨sa, h5, h5b⟩, ⟨fo, fw, h6, h6b, h6c⟩, h7, ⟨X1, ⟨x1, x2, x3, x4, x5, x6, x7, x8, x9, v, X2⟩, ⟨f3, X3, X3b⟩, ⟨f4, X4⟩, ⟨f5, X5⟩, X6, ⟨f7, X7⟩, X8, ⟨f9, X9⟩, f10, X10⟩, h9⟩ := h
  refine ⟨n0, ⟨fa, g _ _ (by omega) h2, h2b⟩, fun k hk => ?_, n10, n11, ⟨fo, fw, g _ _ (by omega) h6, g _ _ (by omega) h6b, fun x hx => absurd hx (Nat.not_lt_zero x)⟩, nN, ⟨fun k hk => ?_, ⟨x1, x2, x3, x4, x5, x6, x7, x8, x9, v, g _ _ (by omega) X2⟩, ⟨f3, g _ _ (by omega) X3, X3b⟩, ⟨f4, g _ _ (by omega) X4⟩, ⟨f5, g _ _ (by omega) X5⟩, g _ _ (by omega) X6, ⟨f7, g _ _ (by omega) X7⟩, g _ _ (by omega) X8, ⟨f9, g _ _ (by omega) X9⟩, f10, g _ _ (by omega) X10⟩, g _ _ (by omega) h9⟩
  · obtain ⟨y1, y2, y3, ln, len, f, y4, y5, y6⟩ := h3 k hk
    exact ⟨y1, y2, y3, ln, len, f, g _ _ (by omega) y4, g _ _ (by omega) y5, y6⟩
  · obtain ⟨p1, s1, m1, g1, o1, t1, y⟩ := X1 k hk
    exact ⟨p1, s1, m1, g1, o1, t1, g _ _ (by split <;> omega) y⟩
theorem RA.nw {S S2 : aS} {flt tr du lw fr : Int32} {pl n q cs : Nat} {G : Nat → Nat → Nat} {z : Nat → Int} {la : Nat → Nat} {ce : Nat → Nat → Int32} {ro : Nat → Nat} {rb : Nat → Bool} (h : RA S flt tr du lw fr pl n q cs G z la ce ro rb) {du2 lw2 fr2 flt2 : Int32} {pl2 n2 q2 cs2 : Nat} {G2 : Nat → Nat → Nat} {ro2 : Nat → Nat} {rb2 : Nat → Bool} (g : ∀ (a : Nat) (c : aE), 43 < a ∧ a < 56 → S[a]? = some c → S2[a]? = some c) (n31 : mM S2 flt2 tr du2 lw2 fr2 pl2 n2 q2 cs2) (nM : MN S2 n2 G2) (n38 : ∀ f, f < 6 → ∃ w : Nat → Int32, S2[38 + f]? = some (iA 9 w)) (nR : mR S2 q2 ro2 rb2) : RA S2 flt2 tr du2 lw2 fr2 pl2 n2 q2 cs2 G2 z la ce ro2 rb2 := by
  obtain ⟨⟨ra, rp, rs, ea, dp, bm, bi, h1⟩, h2, ⟨fo, fw, h3, h3b, h3c⟩, ⟨fs, fl, fc, h4, h4b, h4c, h4d⟩, ⟨Y1, ⟨y2, Y2⟩, ⟨y3, Y3⟩, ⟨y4, Y4⟩, ⟨y5, Y5⟩, ⟨y6, Y6⟩, ⟨y7, Y7⟩, y8, Y8⟩⟩ := h
  exact ⟨n31, nM, nR, ⟨fs, fl, fc, g _ _ (by omega) h4, g _ _ (by omega) h4b, g _ _ (by omega) h4c, h4d⟩, ⟨n38, ⟨y2, g _ _ (by omega) Y2⟩, ⟨y3, g _ _ (by omega) Y3⟩, ⟨y4, g _ _ (by omega) Y4⟩, ⟨y5, g _ _ (by omega) Y5⟩, ⟨y6, g _ _ (by omega) Y6⟩, ⟨y7, g _ _ (by omega) Y7⟩, y8, g _ _ (by omega) Y8⟩⟩

set_option maxHeartbeats 4000000 in
set_option maxRecDepth 100000 in
theorem p_net : P_net := by
  intro S hST a b c n9 d
  obtain ⟨flt, tr, du, lw, fC, fR, pl, n, q, cs, G, ad, z, la, ce, ro, rb, hok, hC, hR⟩ := hST
  obtain ⟨hg, hnp, hq, hcs, hdu, hlw, hf, hro, hn8⟩ := id hok
  obtain ⟨c0, hcA, hcS, c10, hcT, hcR, hcN, hcX, c30⟩ := id hC
  obtain ⟨⟨ra, rp, rs, ea, dp, bm, bi, m31⟩, hmN, hmR, hmS, hmX⟩ := id hR
  have hp7 := hg.1
  have hn9 := hg.2.1
  by_cases hx : 0 ≤ a.toInt ∧ a.toInt ≤ 3
  · obtain ⟨k, hk, rfl⟩ : ∃ k, k < 4 ∧ a = nI k := ⟨a.toInt.toNat, by omega, (toN hx.1).1⟩
    clear hx
    obtain ⟨fa, hA, hfa⟩ := hcA
    obtain ⟨z1, z2, l1, ln, len, f, hS, hc, hneg, hpos, hce⟩ := hcS k hk
    obtain ⟨fs, fl, fc, s52, s53, s54, hsa⟩ := id hmS
    obtain ⟨e1, -, -, -, e2, e3⟩ := hsa k hk
    have s55 := hmX.2.2.2.2.2.2.2
    obtain ⟨fh, s55⟩ := s55
    have m0 : ∀ e, (S.set 0 (co e))[31]? = some (mo flt (nI pl) (nI n) du lw fR (nI cs) ra rp rs ea dp bm bi (nI q) tr) := fun e => gn (by decide) m31
    have m52 : ∀ e, (S.set 0 (co e))[52]? = some (iA 4 fs) := fun e => gn (by decide) s52
    have m53 : ∀ e, (S.set 0 (co e))[53]? = some (iA 4 fl) := fun e => gn (by decide) s53
    have m54 : ∀ e, (S.set 0 (co e))[54]? = some (iA 240 fc) := fun e => gn (by decide) s54
    have lnn : ∀ h : 0 ≤ z k, ¬ ln = -1 := fun h => by rw [(hpos h).1]; exact nI_nm l1
    by_cases hw : 0 ≤ b.toInt ∧ b.toInt ≤ 2
    case neg =>
      refine c_X11_net_lane c0 hA hfa hk hw ?_
      exact ⟨_, rfl, ⟨_, m0 _⟩, c_X12_net_lane hg hcs (m0 _) (hmN.off (by decide)) hk hw ⟨rfl, ⟨_, tr, du, lw, fC, fR, pl, n, q, cs, G, ad, z, la, ce, ro, rb, hok, (hC.u0).off (by decide), (hR.off (by decide)).u31 (Nat.le_refl _)⟩⟩⟩
    by_cases hz : z k < 0
    · refine c_X11_net_n c0 hA hfa hk hS hc hw (hneg hz) ?_
      exact ⟨_, rfl, ⟨_, m0 _⟩, c_X12_net_n hg hcs (m0 _) (hmN.off (by decide)) (m52 _) (m53 _) (m54 _) hk e1 ⟨z1, z2⟩ hw hz ⟨rfl, ⟨_, tr, du, lw, fC, fR, pl, n, q, cs, G, ad, z, la, ce, ro, rb, hok, (hC.u0).off (by decide), (hR.off (by decide)).u31 (Nat.le_refl _)⟩⟩⟩
    have hz0 : 0 ≤ z k := by omega
    have hla := (hpos hz0).1
    have hlb := e2 hz0
    have hlen := (hpos hz0).2
    by_cases he : ln = b
    case neg =>
      refine c_X11_net_cast c0 hA hfa hk hS hc hw (lnn hz0) he ?_
      exact ⟨_, rfl, ⟨_, m0 _⟩, c_X12_net_cast hg hcs (m0 _) (hmN.off (by decide)) (m52 _) (m53 _) (m54 _) hk e1 ⟨z1, z2⟩ hw hz0 (by rw [hlb, ← hla]; exact he) ⟨rfl, ⟨_, tr, du, lw, fC, fR, pl, n, q, cs, G, ad, z, la, ce, ro, rb, hok, (hC.u0).off (by decide), (hR.off (by decide)).u31 (Nat.le_refl _)⟩⟩⟩
    have he2 : fl k = b := by rw [hlb, ← hla, he]
    by_cases hs : n9.toInt < 0
    · refine c_X11_net_size c0 hA hfa hk hS hc hw (lnn hz0) he hs ?_
      exact ⟨_, rfl, ⟨_, m0 _⟩, c_X12_net_size hg hcs (m0 _) (hmN.off (by decide)) (m52 _) (m53 _) (m54 _) hk e1 ⟨z1, z2⟩ hw hz0 he2 hs ⟨rfl, ⟨_, tr, du, lw, fC, fR, pl, n, q, cs, G, ad, z, la, ce, ro, rb, hok, (hC.u0).off (by decide), (hR.off (by decide)).u31 (Nat.le_refl _)⟩⟩⟩
    by_cases hi : 0 ≤ c.toInt ∧ c.toInt + n9.toInt ≤ z k
    case neg =>
      refine c_X11_net_ix c0 hA hfa hk hS hc hw (by rw [hlen]; exact ⟨hz0, z2⟩) (lnn hz0) he (by omega) (by rw [hlen]; exact hi) ?_
      exact ⟨_, rfl, ⟨_, m0 _⟩, c_X12_net_ix hg hcs (m0 _) (hmN.off (by decide)) (m52 _) (m53 _) (m54 _) hk e1 ⟨z1, z2⟩ hw hz0 he2 (by omega) hi ⟨rfl, ⟨_, tr, du, lw, fC, fR, pl, n, q, cs, G, ad, z, la, ce, ro, rb, hok, (hC.u0).off (by decide), (hR.off (by decide)).u31 (Nat.le_refl _)⟩⟩⟩
    obtain ⟨ii, hii, rfl⟩ : ∃ ii : Nat, (ii : Int) = c.toInt ∧ c = nI ii := ⟨c.toInt.toNat, by omega, (toN (by omega)).1⟩
    obtain ⟨m, hmm, rfl⟩ : ∃ m : Nat, (m : Int) = n9.toInt ∧ n9 = nI m := ⟨n9.toInt.toNat, by omega, (toN (by omega)).1⟩
    rw [← hii, ← hmm] at hi
    have hiz := hi.2
    clear hi hs hii hmm
    have hl60 : 0 ≤ len.toInt ∧ len.toInt ≤ 60 := by rw [hlen]; exact ⟨hz0, z2⟩
    have hcd : cd (fun y => f (ii + y)) m = cd (fun y => fc (60 * k + ii + y)) m := cd_eq (fun y hy => by show f (ii + y) = fc (60 * k + ii + y); rw [hce (ii + y) (by omega), Nat.add_assoc, e3 (ii + y) (by omega)])
    obtain ⟨sa0, h11, hsa0⟩ := hcT
    have hL : 55 < S.length := (List.getElem?_eq_some_iff.mp s55).1
    have Y1 := hmX.1
    refine c_X11_net_o (d := d + 13) (L := S.length) c0 hA hfa hp7 hn9 hq c10 hk hS hc hw hl60 (by rw [hlen]; exact hiz) (lnn hz0) he h11 rfl hL (fun p hp => ?_) (fun S9 hW hTK => ?_)
    · have g1 : ∀ (a : Nat) (c : aE), a ≠ 0 → S[a]? = some c → (S.set 0 (co 0) ++ [txc k ii m])[a]? = some c := fun a c ha h => ga (gn (fun z => ha z.symm) h)
      have hC1 : CA (S.set 0 (co 0) ++ [txc k ii m]) 0 tr du lw fC pl n q cs G ad z la ce ro rb := (hC.u0).im (fun a c _ h => ga h)
      have hR1 : RA (S.set 0 (co 0) ++ [txc k ii m]) flt tr du lw fR pl n q cs G z la ce ro rb := hR.im (fun a c ha h => g1 a c (by omega) h)
      have i31 := g1 31 _ (by decide) m31
      refine ⟨_, rfl, ⟨_, i31⟩, ?_⟩
      refine c_X12_net_o (d := d + 14) hg hcs i31 hR1.2.1 (g1 52 _ (by decide) s52) (g1 53 _ (by decide) s53) (g1 54 _ (by decide) s54) hk e1 ⟨z1, z2⟩ hw hz0 he2 hiz (fun f hf => ?_) (fun p2 S2 rp2 rs2 hFF hF2 i2 gA => ?_) (fun S2 ra2 rp2 rs2 hW2 hF2 i2 gA gM => ?_)
      · obtain ⟨w, hw2⟩ := Y1 f hf
        exact ⟨w, g1 _ _ (by omega) hw2, fun i hi => absurd hi (Nat.not_lt_zero i)⟩
      · have ep := FFa_uni (FFa_eq hcd hp) hFF
        refine ⟨by rw [ep], ?_⟩
        have hC2 := hC1.im (S2 := S2) (fun a c ha h => hF2.at h (by omega))
        have hR2 : RA S2 0 tr du lw fR pl n q cs G z la ce ro rb := by
          obtain ⟨fo, fw, j1, j2, j3⟩ := hR1.2.2.1
          refine hR1.nw (fun a c ha h => hF2.at h (by omega)) ⟨_, _, _, _, _, _, _, i2⟩ (fun f hf => ?_) (fun f hf => ?_) ⟨fo, fw, hF2.at j1 (by decide), hF2.at j2 (by decide), j3⟩
          · obtain ⟨w, w1, w2⟩ := hR1.2.1 f hf
            exact ⟨w, hF2.at w1 (by omega), w2⟩
          · obtain ⟨w, w1, -⟩ := gA f hf
            exact ⟨w, w1⟩
        exact ⟨0, tr, du, lw, fC, fR, pl, n, q, cs, G, ad, z, la, ce, ro, rb, hok, hC2, hR2⟩
      · exact absurd hW2 (fun z => FFa_WH (FFa_eq hcd hp) z)
    · have w1 := hW.2.1
      have w2 := hW.2.2
      have hnn : m = 2 + 7 * ((m - 2) / 7) := by omega
      have hgN : GD (tP (fun y => f (ii + y)) m) ((m - 2) / 7) (tG (fun y => f (ii + y)) m) := tG_ok (fun y hy => hW.1 y (by omega)) (by omega) (by omega)
      have hpN := tP_b (hW.1 1 (by omega))
      obtain ⟨S1, hS1⟩ : ∃ S1, S1 = setN (S9.set 10 (nt (nI (tP (fun y => f (ii + y)) m)) (nI ((m - 2) / 7)) 45 0 (-9) 0)) (fun j => S.length + 0 + 1 + j) (stc (tG (fun y => f (ii + y)) m) 0 (-9)) ((m - 2) / 7) := ⟨_, rfl⟩
      rw [← hS1]
      have so : ∀ (a : Nat) (c : aE), a < 56 → (S9.set 10 (nt (nI (tP (fun y => f (ii + y)) m)) (nI ((m - 2) / 7)) 45 0 (-9) 0))[a]? = some c → S1[a]? = some c := fun a c ha h => by rw [hS1, setN_off _ (fun j hj => by omega)]; exact h
      have g9 : ∀ (a : Nat) (c : aE), a ≠ 0 ∧ a ≠ 10 ∧ a ≠ 11 ∧ a < 56 → S[a]? = some c → S9[a]? = some c := fun a c ha h => hTK.2.1.at (gn (by omega) (ga (gn (by omega) h))) (by omega)
      have g1 : ∀ (a : Nat) (c : aE), a ≠ 0 ∧ a ≠ 10 ∧ a ≠ 11 ∧ a < 56 → S[a]? = some c → S1[a]? = some c := fun a c ha h => so a c ha.2.2.2 (gn (by omega) (g9 a c ha h))
      have b10 : S9[10]? = some (nt (nI (tP (fun y => f (ii + y)) m)) (nI ((m - 2) / 7)) du lw fC (nI q)) := hTK.2.1.at (gs (ga (gn (by decide) c10))) (by omega)
      have n0 : S1[0]? = some (co 0) := so 0 _ (by decide) (gn (by decide) (hTK.2.1.at (gn (by decide) (ga (gs c0))) (by omega)))
      have n10 : S1[10]? = some (nt (nI (tP (fun y => f (ii + y)) m)) (nI ((m - 2) / 7)) 45 0 (-9) (nI 0)) := so 10 _ (by decide) (gs b10)
      have n11 : cT S1 ((m - 2) / 7) (fun j => S.length + 0 + 1 + j) := by
        obtain ⟨sa, t1, t2⟩ := hTK.2.2.1
        exact ⟨sa, so 11 _ (by decide) (gn (by decide) t1), t2⟩
      have nN : CN S1 ((m - 2) / 7) (tG (fun y => f (ii + y)) m) 0 (-9 : Int32).toInt (fun j => S.length + 0 + 1 + j) := by
        intro j hj
        refine ⟨?_, (by show 56 ≤ S.length + 0 + 1 + j; omega), fun i hi z => (by have z : S.length + 0 + 1 + i = S.length + 0 + 1 + j := z; omega)⟩
        rw [hS1]
        exact setN_in ((m - 2) / 7) (fun j hj => ⟨_, gn (by omega) (hTK.2.2.2 j hj)⟩) (fun a b ha hb z => by have z : S.length + 0 + 1 + a = S.length + 0 + 1 + b := z; omega) j hj
      have hC1 := hC.nw (S2 := S1) (fun a c ha h => g1 a c (by omega) h) n0 n10 n11 nN
      have hR1 : RA S1 flt tr du lw fR pl n q cs G z la ce ro rb := hR.im (fun a c ha h => g1 a c (by omega) h)
      have i31 := g1 31 _ (by decide) m31
      refine ⟨_, rfl, ⟨_, i31⟩, ?_⟩
      refine c_X12_net_o (d := d + 14) hg hcs i31 hR1.2.1 (g1 52 _ (by decide) s52) (g1 53 _ (by decide) s53) (g1 54 _ (by decide) s54) hk e1 ⟨z1, z2⟩ hw hz0 he2 hiz (fun f hf => ?_) (fun p2 S2 rp2 rs2 hFF hF2 i2 gA => ?_) (fun S2 ra2 rp2 rs2 hW2 hF2 i2 gA gM => ?_)
      · obtain ⟨w, hw2⟩ := Y1 f hf
        exact ⟨w, g1 _ _ (by omega) hw2, fun i hi => absurd hi (Nat.not_lt_zero i)⟩
      · exact absurd hFF (fun z => FFa_WH z (WHa_eq hcd hW))
      · refine ⟨rfl, ?_⟩
        rw [← tP_eq hcd] at i2
        rw [← tG_eq hcd] at gM
        have hC2 := hC1.im (S2 := S2) (fun a c ha h => hF2.at h (by omega))
        have hR2 : RA S2 0 tr 45 0 (-9) (tP (fun y => f (ii + y)) m) ((m - 2) / 7) 0 0 (tG (fun y => f (ii + y)) m) z la ce ro rb := by
          obtain ⟨fo, fw, j1, j2, j3⟩ := hR1.2.2.1
          refine hR1.nw (fun a c ha h => hF2.at h (by omega)) ⟨_, _, _, _, _, _, _, i2⟩ gM (fun f hf => ?_) ⟨fo, fw, hF2.at j1 (by decide), hF2.at j2 (by decide), fun x hx => absurd hx (Nat.not_lt_zero x)⟩
          obtain ⟨w, w1, -⟩ := gA f hf
          exact ⟨w, w1⟩
        exact ⟨0, tr, 45, 0, -9, -9, tP (fun y => f (ii + y)) m, ((m - 2) / 7), 0, 0, tG (fun y => f (ii + y)) m, _, z, la, ce, ro, rb, ⟨hgN, ⟨fun z => by omega, fun z => by omega⟩, by decide, by decide, by decide, by decide, fun _ => rfl, fun x hx => absurd hx (Nat.not_lt_zero x), by omega⟩, hC2, hR2⟩
  · have m0 : ∀ e, (S.set 0 (co e))[31]? = some (mo flt (nI pl) (nI n) du lw fR (nI cs) ra rp rs ea dp bm bi (nI q) tr) := fun e => gn (by decide) m31
    refine c_X11_net_unk c0 hx ?_
    exact ⟨_, rfl, ⟨_, m0 _⟩, c_X12_net_unk hg hcs (m0 _) (hmN.off (by decide)) hx ⟨rfl, ⟨_, tr, du, lw, fC, fR, pl, n, q, cs, G, ad, z, la, ce, ro, rb, hok, (hC.u0).off (by decide), (hR.off (by decide)).u31 (Nat.le_refl _)⟩⟩⟩

