theorem CA.u0 {S : aS} {flt tr du lw fr : Int32} {pl n q cs : Nat} {G : Nat → Nat → Nat} {ad : Nat → Nat} {z : Nat → Int} {la : Nat → Nat} {ce : Nat → Nat → Int32} {ro : Nat → Nat} {rb : Nat → Bool} (h : CA S flt tr du lw fr pl n q cs G ad z la ce ro rb) {x : Int32} : CA (S.set 0 (co x)) x tr du lw fr pl n q cs G ad z la ce ro rb := by
  obtain ⟨h1, h2, h3, h4, h5, h6, h7, h8, h9⟩ := h
  exact ⟨gs h1, h2.off (by decide), h3.off (by decide), gn (by decide) h4, h5.off (by decide), h6.off (by decide), h7.off (by decide), h8.off (by decide), gn (by decide) h9⟩
theorem CA.u30 {S : aS} {flt tr du lw fr : Int32} {pl n q cs : Nat} {G : Nat → Nat → Nat} {ad : Nat → Nat} {z : Nat → Int} {la : Nat → Nat} {ce : Nat → Nat → Int32} {ro : Nat → Nat} {rb : Nat → Bool} (h : CA S flt tr du lw fr pl n q cs G ad z la ce ro rb) {x : Int32} : CA (S.set 30 (.inr (9, [.int x]))) flt x du lw fr pl n q cs G ad z la ce ro rb := by
  obtain ⟨h1, h2, h3, h4, h5, h6, h7, h8, h9⟩ := h
  exact ⟨gn (by decide) h1, h2.off (by decide), h3.off (by decide), gn (by decide) h4, h5.off (by decide), h6.off (by decide), h7.off (by decide), h8.off (by decide), gs h9⟩
theorem CA.u10 {S : aS} {flt tr du lw fr : Int32} {pl n q cs : Nat} {G : Nat → Nat → Nat} {ad : Nat → Nat} {z : Nat → Int} {la : Nat → Nat} {ce : Nat → Nat → Int32} {ro : Nat → Nat} {rb : Nat → Bool} (h : CA S flt tr du lw fr pl n q cs G ad z la ce ro rb) {x y : Int32} {q2 : Nat} (hq : q2 ≤ q) : CA (S.set 10 (nt (nI pl) (nI n) x y fr (nI q2))) flt tr x y fr pl n q2 cs G ad z la ce ro rb := by
  obtain ⟨h1, h2, h3, h4, h5, ⟨fo, fw, a1, a2, a3⟩, h7, h8, h9⟩ := h
  exact ⟨gn (by decide) h1, h2.off (by decide), h3.off (by decide), gs h4, h5.off (by decide), ⟨fo, fw, gn (by decide) a1, gn (by decide) a2, fun x hx => a3 x (by omega)⟩, h7.off (by decide), h8.off (by decide), gn (by decide) h9⟩
theorem RA.u31 {S : aS} {flt tr du lw fr : Int32} {pl n q cs : Nat} {G : Nat → Nat → Nat} {z : Nat → Int} {la : Nat → Nat} {ce : Nat → Nat → Int32} {ro : Nat → Nat} {rb : Nat → Bool} (h : RA S flt tr du lw fr pl n q cs G z la ce ro rb) {flt2 tr2 du2 lw2 fr2 ra rp rs ea dp bm : Int32} {bi : Int64} {cs2 q2 : Nat} (hq : q2 ≤ q) : RA (S.set 31 (mo flt2 (nI pl) (nI n) du2 lw2 fr2 (nI cs2) ra rp rs ea dp bm bi (nI q2) tr2)) flt2 tr2 du2 lw2 fr2 pl n q2 cs2 G z la ce ro rb := by
  obtain ⟨⟨_, _, _, _, _, _, _, h1⟩, h2, ⟨fo, fw, a1, a2, a3⟩, h4, h5⟩ := h
  exact ⟨mM.st h1, h2.off (by decide), ⟨fo, fw, gn (by decide) a1, gn (by decide) a2, fun x hx => a3 x (by omega)⟩, h4.off (by decide), h5.off (by decide)⟩
theorem CN.same {S : aS} {n cs cs2 : Nat} {G : Nat → Nat → Nat} {fz fz2 : Int} {ad : Nat → Nat} (h : CN S n G cs fz ad) (he : ∀ j, j < n → stc G cs fz j = stc G cs2 fz2 j) : CN S n G cs2 fz2 ad := fun j hj => ⟨by rw [← he j hj]; exact (h j hj).1, (h j hj).2⟩
theorem CN.setc {S : aS} {n cs j : Nat} {G : Nat → Nat → Nat} {fz : Int} {ad : Nat → Nat} {b : Bool} (h : CN S n G cs fz ad) (hcs : cs < 512) (hn : n ≤ 9) (hj : j < n) : CN (S.set (ad j) (stc G (setb cs j b) fz j)) n G (setb cs j b) fz ad := by
  intro i hi
  refine ⟨?_, (h i hi).2⟩
  by_cases e : i = j
  · subst e; exact gs (h i hi).1
  · rw [List.getElem?_set_ne (fun z => e ((h j hj).2.2 i hi z.symm)), (h i hi).1]
    simp only [stc, setb_bit cs hcs j (by omega) i (by omega) b, if_neg e]
/-- the store at a stretch's place -/
theorem CA.uad {S : aS} {flt tr du lw fr : Int32} {pl n q cs : Nat} {G : Nat → Nat → Nat} {ad : Nat → Nat} {z : Nat → Int} {la : Nat → Nat} {ce : Nat → Nat → Int32} {ro : Nat → Nat} {rb : Nat → Bool} (h : CA S flt tr du lw fr pl n q cs G ad z la ce ro rb) (hcs : cs < 512) (hn : n ≤ 9) {j : Nat} (hj : j < n) {b : Bool} : CA (S.set (ad j) (stc G (setb cs j b) fr.toInt j)) flt tr du lw fr pl n q (setb cs j b) G ad z la ce ro rb := by
  obtain ⟨h1, h2, h3, h4, h5, h6, h7, h8, h9⟩ := h
  have ha := (h7 j hj).2.1
  exact ⟨gn (by omega) h1, h2.off (by omega), h3.off (by omega), gn (by omega) h4, h5.off (by omega), h6.off (by omega), h7.setc hcs hn hj, h8.off (by omega), gn (by omega) h9⟩
theorem RA.uad {S : aS} {flt tr du lw fr : Int32} {pl n q cs : Nat} {G : Nat → Nat → Nat} {z : Nat → Int} {la : Nat → Nat} {ce : Nat → Nat → Int32} {ro : Nat → Nat} {rb : Nat → Bool} (h : RA S flt tr du lw fr pl n q cs G z la ce ro rb) {a : Nat} {c : aE} (ha : 56 ≤ a) : RA (S.set a c) flt tr du lw fr pl n q cs G z la ce ro rb := h.off (by omega)
theorem setb_id {cs j : Nat} {b : Bool} (hcs : cs < 512) (hj : j < 9) (hb : cs.testBit j = b) : setb cs j b = cs := by
  have key : ∀ cs, cs < 512 → ∀ j, j < 9 → ∀ b : Bool, cs.testBit j = b → setb cs j b = cs := by decide +kernel
  exact key cs hcs j hj b hb

set_option maxHeartbeats 4000000 in
set_option maxRecDepth 100000 in
theorem p_due : P_due := by
  intro S hST a d
  obtain ⟨flt, tr, du, lw, fC, fR, pl, n, q, cs, G, ad, z, la, ce, ro, rb, hok, hC, hR⟩ := hST
  obtain ⟨hg, hnp, hq, hcs, hdu, hlw, hf, hro, hn8⟩ := id hok
  obtain ⟨c0, hcA, hcS, c10, hcT, hcR, hcN, hcX, c30⟩ := id hC
  obtain ⟨⟨ra, rp, rs, ea, dp, bm, bi, m31⟩, hmN, hmR, hmS, hmX⟩ := id hR
  have hp7 := hg.1
  have hn9 := hg.2.1
  refine c_X11_due c0 hp7 hn9 hq c10 (fun h => ?_) (fun h1 h2 => ?_) (fun h1 h2 => ?_)
  · refine ⟨_, rfl, ⟨_, m31⟩, ?_⟩
    exact c_X12_due hp7 hn9 m31 (fun _ => ⟨rfl, ⟨flt, tr, du, lw, fC, fR, pl, n, q, cs, G, ad, z, la, ce, ro, rb, hok, hC, hR⟩⟩) (fun h3 _ => absurd h3 h) (fun h3 _ => absurd h3 h)
  · refine ⟨_, rfl, ⟨_, m31⟩, ?_⟩
    exact c_X12_due hp7 hn9 m31 (fun h3 => absurd h1 h3) (fun _ _ => ⟨rfl, ⟨flt, tr, du, lw, fC, fR, pl, n, q, cs, G, ad, z, la, ce, ro, rb, hok, hC, hR⟩⟩) (fun _ h3 => absurd (hnp.mpr h2) h3)
  · have m31b := gn (a := 10) (b := 31) (x := nt (nI pl) (nI n) a lw fC (nI q)) (by decide) m31
    refine ⟨_, rfl, ⟨_, m31b⟩, ?_⟩
    refine c_X12_due hp7 hn9 m31b (fun h3 => absurd h1 h3) (fun _ h3 => absurd (hnp.mp h3) h2) (fun _ _ => ⟨rfl, ?_⟩)
    exact ⟨flt, tr, a, lw, fC, fR, pl, n, q, cs, G, ad, z, la, ce, ro, rb, ⟨hg, hnp, hq, hcs, h1, hlw, hf, hro, hn8⟩, (hC.u10 (Nat.le_refl _)).off (by decide), (hR.off (by decide)).u31 (Nat.le_refl _)⟩

set_option maxHeartbeats 4000000 in
set_option maxRecDepth 100000 in
theorem p_law : P_law := by
  intro S hST a d
  obtain ⟨flt, tr, du, lw, fC, fR, pl, n, q, cs, G, ad, z, la, ce, ro, rb, hok, hC, hR⟩ := hST
  obtain ⟨hg, hnp, hq, hcs, hdu, hlw, hf, hro, hn8⟩ := id hok
  obtain ⟨c0, hcA, hcS, c10, hcT, hcR, hcN, hcX, c30⟩ := id hC
  obtain ⟨⟨ra, rp, rs, ea, dp, bm, bi, m31⟩, hmN, hmR, hmS, hmX⟩ := id hR
  have hp7 := hg.1
  have hn9 := hg.2.1
  refine c_X11_law c0 hp7 hn9 hq c10 (fun h => ?_) (fun h1 h2 => ?_) (fun h1 h2 => ?_)
  · refine ⟨_, rfl, ⟨_, m31⟩, ?_⟩
    exact c_X12_law hp7 hn9 m31 (fun _ => ⟨rfl, ⟨flt, tr, du, lw, fC, fR, pl, n, q, cs, G, ad, z, la, ce, ro, rb, hok, hC, hR⟩⟩) (fun h3 _ => absurd h3 h) (fun h3 _ => absurd h3 h)
  · refine ⟨_, rfl, ⟨_, m31⟩, ?_⟩
    exact c_X12_law hp7 hn9 m31 (fun h3 => absurd h1 h3) (fun _ _ => ⟨rfl, ⟨flt, tr, du, lw, fC, fR, pl, n, q, cs, G, ad, z, la, ce, ro, rb, hok, hC, hR⟩⟩) (fun _ h3 => absurd (hnp.mpr h2) h3)
  · have m31b := gn (a := 10) (b := 31) (x := nt (nI pl) (nI n) du a fC (nI q)) (by decide) m31
    refine ⟨_, rfl, ⟨_, m31b⟩, ?_⟩
    refine c_X12_law hp7 hn9 m31b (fun h3 => absurd h1 h3) (fun _ h3 => absurd (hnp.mp h3) h2) (fun _ _ => ⟨rfl, ?_⟩)
    exact ⟨flt, tr, du, a, fC, fR, pl, n, q, cs, G, ad, z, la, ce, ro, rb, ⟨hg, hnp, hq, hcs, hdu, h1, hf, hro, hn8⟩, (hC.u10 (Nat.le_refl _)).off (by decide), (hR.off (by decide)).u31 (Nat.le_refl _)⟩

set_option maxHeartbeats 4000000 in
set_option maxRecDepth 100000 in
theorem p_friend : P_friend := by
  intro S hST a d
  obtain ⟨flt, tr, du, lw, fC, fR, pl, n, q, cs, G, ad, z, la, ce, ro, rb, hok, hC, hR⟩ := hST
  obtain ⟨hg, hnp, hq, hcs, hdu, hlw, hf, hro, hn8⟩ := id hok
  obtain ⟨c0, hcA, hcS, c10, hcT, hcR, hcN, hcX, c30⟩ := id hC
  obtain ⟨⟨ra, rp, rs, ea, dp, bm, bi, m31⟩, hmN, hmR, hmS, hmX⟩ := id hR
  have hp7 := hg.1
  have hn9 := hg.2.1
  obtain ⟨sa, hA, hsa⟩ := hcT
  refine c_X11_friend c0 hp7 hn9 hq c10 hg hA hsa hcN (fun h h2 => ?_) (fun h1 h2 => ?_) (fun h1 h2 => ?_)
  · refine ⟨_, rfl, ⟨_, m31⟩, ?_⟩
    exact c_X12_friend hp7 hn9 m31 (fun _ _ => ⟨rfl, ⟨flt, tr, du, lw, fC, fR, pl, n, q, cs, G, ad, z, la, ce, ro, rb, hok, hC, hR⟩⟩) (fun h3 _ => absurd h3 (fun z => z.elim h h2)) (fun h3 _ => absurd h3 (fun z => z.elim h h2))
  · refine ⟨_, rfl, ⟨_, m31⟩, ?_⟩
    exact c_X12_friend hp7 hn9 m31 (fun h3 h4 => absurd h1 (fun z => z.elim h3 h4)) (fun _ _ => ⟨rfl, ⟨flt, tr, du, lw, fC, fR, pl, n, q, cs, G, ad, z, la, ce, ro, rb, hok, hC, hR⟩⟩) (fun _ h3 => absurd (hnp.mpr h2) h3)
  · have hn0 : n ≠ 0 := fun z => h2 (hnp.mp z)
    obtain rfl := hf hn0
    have h56 : ∀ x, x < 56 → ∀ j, j < n → ad j ≠ x := fun x hx j hj => by have := (hcN j hj).2.1; omega
    have so : ∀ x c, x < 56 → (S.set 10 (nt (nI pl) (nI n) du lw a (nI q)))[x]? = some c → (setN (S.set 10 (nt (nI pl) (nI n) du lw a (nI q))) ad (stc G cs a.toInt) n)[x]? = some c := fun x c hx h => by rw [setN_off n (fun j hj => h56 x hx j hj)]; exact h
    have m31b := so 31 _ (by decide) (gn (by decide) m31)
    refine ⟨_, rfl, ⟨_, m31b⟩, ?_⟩
    refine c_X12_friend hp7 hn9 m31b (fun h3 h4 => absurd h1 (fun z => z.elim h3 h4)) (fun _ h3 => absurd h3 hn0) (fun _ _ => ⟨rfl, ?_⟩)
    have kk : ∀ (P : aS → Prop), (∀ x c, x < 56 → (S.set 10 (nt (nI pl) (nI n) du lw a (nI q)))[x]? = some c → True) → True := fun _ _ => trivial
    obtain ⟨fa, A1, A2⟩ := hcA
    obtain ⟨fo, fw, R1, R2, R3⟩ := hcR
    obtain ⟨X1, ⟨x1, x2, x3, x4, x5, x6, x7, x8, x9, v, X2⟩, ⟨f3, X3, X3b⟩, ⟨f4, X4⟩, ⟨f5, X5⟩, X6, ⟨f7, X7⟩, X8, ⟨f9, X9⟩, f10, X10⟩ := hcX
    refine ⟨flt, tr, du, lw, a, a, pl, n, q, cs, G, ad, z, la, ce, ro, rb, ⟨hg, hnp, hq, hcs, hdu, hlw, fun _ => rfl, hro, hn8⟩, ?_, ?_⟩
    · refine CA.off ⟨so 0 _ (by decide) (gn (by decide) c0), ⟨fa, so 1 _ (by decide) (gn (by decide) A1), A2⟩, fun k hk => ?_, so 10 _ (by decide) (gs c10), ⟨sa, so 11 _ (by decide) (gn (by decide) hA), hsa⟩, ⟨fo, fw, so 12 _ (by decide) (gn (by decide) R1), so 13 _ (by decide) (gn (by decide) R2), R3⟩, fun j hj => ⟨setN_in n (fun i hi => ⟨_, gn (fun z => h56 10 (by decide) i hi z.symm) (hcN i hi).1⟩) (fun i k hi hk hz => (hcN k hk).2.2 i hi hz) j hj, (hcN j hj).2⟩, ⟨fun k hk => ?_, ⟨x1, x2, x3, x4, x5, x6, x7, x8, x9, v, so 15 _ (by decide) (gn (by decide) X2)⟩, ⟨f3, so 16 _ (by decide) (gn (by decide) X3), X3b⟩, ⟨f4, so 23 _ (by decide) (gn (by decide) X4)⟩, ⟨f5, so 24 _ (by decide) (gn (by decide) X5)⟩, so 25 _ (by decide) (gn (by decide) X6), ⟨f7, so 26 _ (by decide) (gn (by decide) X7)⟩, so 27 _ (by decide) (gn (by decide) X8), ⟨f9, so 28 _ (by decide) (gn (by decide) X9)⟩, f10, so 29 _ (by decide) (gn (by decide) X10)⟩, so 30 _ (by decide) (gn (by decide) c30)⟩ (by decide)
      · obtain ⟨s1, s2, s3, ln, len, f, s4, s5, s6⟩ := hcS k hk
        exact ⟨s1, s2, s3, ln, len, f, so _ _ (by omega) (gn (by omega) s4), so _ _ (by omega) (gn (by omega) s5), s6⟩
      · obtain ⟨p, s, m, g, o, t, h⟩ := X1 k hk
        exact ⟨p, s, m, g, o, t, so _ _ (by split <;> omega) (gn (by split <;> omega) h)⟩
    · obtain ⟨fo2, fw2, Q1, Q2, Q3⟩ := hmR
      obtain ⟨fs, fl, fc, S1, S2, S3, S4⟩ := hmS
      obtain ⟨Y1, ⟨y2, Y2⟩, ⟨y3, Y3⟩, ⟨y4, Y4⟩, ⟨y5, Y5⟩, ⟨y6, Y6⟩, ⟨y7, Y7⟩, y8, Y8⟩ := hmX
      have hR2 : RA (setN (S.set 10 (nt (nI pl) (nI n) du lw a (nI q))) ad (stc G cs a.toInt) n) flt tr du lw fC pl n q cs G z la ce ro rb := by
        refine ⟨⟨ra, rp, rs, ea, dp, bm, bi, m31b⟩, fun f hf9 => ?_, ⟨fo2, fw2, so 48 _ (by decide) (gn (by decide) Q1), so 49 _ (by decide) (gn (by decide) Q2), Q3⟩, ⟨fs, fl, fc, so 52 _ (by decide) (gn (by decide) S1), so 53 _ (by decide) (gn (by decide) S2), so 54 _ (by decide) (gn (by decide) S3), S4⟩, ⟨fun k hk => ?_, ⟨y2, so 44 _ (by decide) (gn (by decide) Y2)⟩, ⟨y3, so 45 _ (by decide) (gn (by decide) Y3)⟩, ⟨y4, so 46 _ (by decide) (gn (by decide) Y4)⟩, ⟨y5, so 47 _ (by decide) (gn (by decide) Y5)⟩, ⟨y6, so 50 _ (by decide) (gn (by decide) Y6)⟩, ⟨y7, so 51 _ (by decide) (gn (by decide) Y7)⟩, y8, so 55 _ (by decide) (gn (by decide) Y8)⟩⟩
        · obtain ⟨g, h1, h2⟩ := hmN f hf9
          exact ⟨g, so _ _ (by omega) (gn (by omega) h1), h2⟩
        · obtain ⟨f, h⟩ := Y1 k hk
          exact ⟨f, so _ _ (by omega) (gn (by omega) h)⟩
      exact hR2.u31 (Nat.le_refl _)

set_option maxHeartbeats 4000000 in
set_option maxRecDepth 100000 in
theorem p_ofStretch : P_ofStretch := by
  intro S hST a b d
  obtain ⟨flt, tr, du, lw, fC, fR, pl, n, q, cs, G, ad, z, la, ce, ro, rb, hok, hC, hR⟩ := hST
  obtain ⟨hg, hnp, hq, hcs, hdu, hlw, hf, hro, hn8⟩ := id hok
  obtain ⟨c0, hcA, hcS, c10, hcT, hcR, hcN, hcX, c30⟩ := id hC
  obtain ⟨⟨ra, rp, rs, ea, dp, bm, bi, m31⟩, hmN, hmR, hmS, hmX⟩ := id hR
  have hp7 := hg.1
  have hn9 := hg.2.1
  by_cases hx : 0 ≤ a.toInt ∧ a.toInt < n
  · obtain ⟨j, hj, rfl⟩ : ∃ j, j < n ∧ a = nI j := ⟨a.toInt.toNat, by omega, (toN hx.1).1⟩
    clear hx
    obtain ⟨sa, hA, hsa⟩ := hcT
    have hjG := hg.2.2 j hj
    have hn0 : n ≠ 0 := by omega
    obtain rfl := hf hn0
    have had := (hcN j hj).2.1
    rcases (show G 0 j = 0 ∨ G 0 j = 1 ∨ G 0 j = 2 by omega) with h0 | h0 | h0
    · refine c_X11_ofStretch0 c0 hp7 hn9 hq c10 hg hA hsa hcN hj h0 ?_
      refine ⟨_, rfl, ⟨_, m31⟩, ?_⟩
      refine c_X12_ofStretch hg hcs m31 hmN hj ?_
      rw [h0]
      exact ⟨rfl, ⟨flt, tr, du, lw, fC, fC, pl, n, q, cs, G, ad, z, la, ce, ro, rb, hok, hC, hR⟩⟩
    · refine c_X11_ofStretch1 c0 hp7 hn9 hq c10 hg hA hsa hcN hj h0 ?_
      refine ⟨_, rfl, ⟨_, m31⟩, ?_⟩
      refine c_X12_ofStretch hg hcs m31 hmN hj ?_
      rw [h0]
      exact ⟨rfl, ⟨flt, tr, du, lw, fC, fC, pl, n, q, cs, G, ad, z, la, ce, ro, rb, hok, hC, hR⟩⟩
    · refine c_X11_ofStretch2 c0 hp7 hn9 hq c10 hg hA hsa hcN hj h0 ?_
      refine ⟨_, rfl, ⟨_, m31⟩, ?_⟩
      refine c_X12_ofStretch hg hcs m31 hmN hj ?_
      rw [h0]
      exact ⟨rfl, ⟨flt, tr, du, lw, fC, fC, pl, n, q, cs, G, ad, z, la, ce, ro, rb, hok, hC, hR⟩⟩
  · refine c_X11_ofStretch_bad c0 hp7 hn9 hq c10 hx ?_
    refine ⟨_, rfl, ⟨_, m31⟩, ?_⟩
    exact c_X12_ofStretch_bad hg hcs m31 hmN hx ⟨rfl, ⟨flt, tr, du, lw, fC, fR, pl, n, q, cs, G, ad, z, la, ce, ro, rb, hok, hC, hR⟩⟩

set_option maxHeartbeats 4000000 in
set_option maxRecDepth 100000 in
theorem p_close0 : P_close0 := by
  intro S hST a d
  obtain ⟨flt, tr, du, lw, fC, fR, pl, n, q, cs, G, ad, z, la, ce, ro, rb, hok, hC, hR⟩ := hST
  obtain ⟨hg, hnp, hq, hcs, hdu, hlw, hf, hro, hn8⟩ := id hok
  obtain ⟨c0, hcA, hcS, c10, hcT, hcR, hcN, hcX, c30⟩ := id hC
  obtain ⟨⟨ra, rp, rs, ea, dp, bm, bi, m31⟩, hmN, hmR, hmS, hmX⟩ := id hR
  have hp7 := hg.1
  have hn9 := hg.2.1
  by_cases hx : 0 ≤ a.toInt ∧ a.toInt < n
  · obtain ⟨j, hj, rfl⟩ : ∃ j, j < n ∧ a = nI j := ⟨a.toInt.toNat, by omega, (toN hx.1).1⟩
    clear hx
    obtain ⟨sa, hA, hsa⟩ := hcT
    have hjG := hg.2.2 j hj
    have hn0 : n ≠ 0 := by omega
    obtain rfl := hf hn0
    have had := (hcN j hj).2.1
    have hlt := setb_lt (b := false) hcs (show j < 9 by omega)
    by_cases hb : cs.testBit j = false
    · refine c_X11_close0_same c0 hp7 hn9 hq c10 hg hA hsa hcN hj hb ?_
      refine ⟨_, rfl, ⟨_, m31⟩, ?_⟩
      refine c_X12_close0 hg hcs m31 hmN hj ?_
      rw [if_pos hb, setb_id hcs (by omega) hb]
      exact ⟨rfl, ⟨flt, tr, du, lw, fC, fC, pl, n, q, cs, G, ad, z, la, ce, ro, rb, hok, hC.off (by decide), hR.u31 (Nat.le_refl _)⟩⟩
    · refine c_X11_close0 c0 hp7 hn9 hq c10 hg hA hsa hcN hj hb ?_
      have hs : (setb cs j false).testBit j = false := by rw [setb_bit cs hcs j (by omega) j (by omega), if_pos rfl]
      have e : stc G (setb cs j false) fC.toInt j = .inr (kc (G 0 j), [.int (nI j), .int (nI (G 1 j)), .int (nI (G 2 j)), .int (nI (G 3 j)), .int (nI (G 4 j)), .int (nI (G 5 j)), .int (nI (tk G fC.toInt j)), .int (nI (tn G fC.toInt j)), .int 0]) := by simp only [stc, hs]; rfl
      rw [← e]
      have m31b := gn (a := ad j) (b := 31) (x := stc G (setb cs j false) fC.toInt j) (by omega) m31
      refine ⟨_, rfl, ⟨_, m31b⟩, ?_⟩
      refine c_X12_close0 hg hcs m31b (fun f hf9 => by obtain ⟨g, h1, h2⟩ := hmN f hf9; exact ⟨g, gn (by omega) h1, h2⟩) hj ?_
      rw [if_neg hb]
      exact ⟨rfl, ⟨flt, tr, du, lw, fC, fC, pl, n, q, setb cs j false, G, ad, z, la, ce, ro, rb, ⟨hg, hnp, hq, hlt, hdu, hlw, hf, hro, hn8⟩, (hC.uad hcs hn9 hj).off (by decide), (hR.uad had).u31 (Nat.le_refl _)⟩⟩
  · refine c_X11_close_bad c0 hp7 hn9 hq c10 hx ?_
    refine ⟨_, rfl, ⟨_, m31⟩, ?_⟩
    exact c_X12_close_bad hg hcs m31 hmN hx ⟨rfl, ⟨flt, tr, du, lw, fC, fR, pl, n, q, cs, G, ad, z, la, ce, ro, rb, hok, hC, hR⟩⟩

set_option maxHeartbeats 4000000 in
set_option maxRecDepth 100000 in
theorem p_close1 : P_close1 := by
  intro S hST a d
  obtain ⟨flt, tr, du, lw, fC, fR, pl, n, q, cs, G, ad, z, la, ce, ro, rb, hok, hC, hR⟩ := hST
  obtain ⟨hg, hnp, hq, hcs, hdu, hlw, hf, hro, hn8⟩ := id hok
  obtain ⟨c0, hcA, hcS, c10, hcT, hcR, hcN, hcX, c30⟩ := id hC
  obtain ⟨⟨ra, rp, rs, ea, dp, bm, bi, m31⟩, hmN, hmR, hmS, hmX⟩ := id hR
  have hp7 := hg.1
  have hn9 := hg.2.1
  by_cases hx : 0 ≤ a.toInt ∧ a.toInt < n
  · obtain ⟨j, hj, rfl⟩ : ∃ j, j < n ∧ a = nI j := ⟨a.toInt.toNat, by omega, (toN hx.1).1⟩
    clear hx
    obtain ⟨sa, hA, hsa⟩ := hcT
    have hjG := hg.2.2 j hj
    have hn0 : n ≠ 0 := by omega
    obtain rfl := hf hn0
    have had := (hcN j hj).2.1
    have hlt := setb_lt (b := true) hcs (show j < 9 by omega)
    by_cases hb : cs.testBit j = true
    · refine c_X11_close1_same c0 hp7 hn9 hq c10 hg hA hsa hcN hj hb ?_
      refine ⟨_, rfl, ⟨_, m31⟩, ?_⟩
      refine c_X12_close1 hg hcs m31 hmN hj ?_
      rw [if_pos hb, setb_id hcs (by omega) hb]
      exact ⟨rfl, ⟨flt, tr, du, lw, fC, fC, pl, n, q, cs, G, ad, z, la, ce, ro, rb, hok, hC.off (by decide), hR.u31 (Nat.le_refl _)⟩⟩
    · refine c_X11_close1 c0 hp7 hn9 hq c10 hg hA hsa hcN hj hb ?_
      have hs : (setb cs j true).testBit j = true := by rw [setb_bit cs hcs j (by omega) j (by omega), if_pos rfl]
      have e : stc G (setb cs j true) fC.toInt j = .inr (kc (G 0 j), [.int (nI j), .int (nI (G 1 j)), .int (nI (G 2 j)), .int (nI (G 3 j)), .int (nI (G 4 j)), .int (nI (G 5 j)), .int (nI (tk G fC.toInt j)), .int (nI (tn G fC.toInt j)), .int 1]) := by simp only [stc, hs]; rfl
      rw [← e]
      have m31b := gn (a := ad j) (b := 31) (x := stc G (setb cs j true) fC.toInt j) (by omega) m31
      refine ⟨_, rfl, ⟨_, m31b⟩, ?_⟩
      refine c_X12_close1 hg hcs m31b (fun f hf9 => by obtain ⟨g, h1, h2⟩ := hmN f hf9; exact ⟨g, gn (by omega) h1, h2⟩) hj ?_
      rw [if_neg hb]
      exact ⟨rfl, ⟨flt, tr, du, lw, fC, fC, pl, n, q, setb cs j true, G, ad, z, la, ce, ro, rb, ⟨hg, hnp, hq, hlt, hdu, hlw, hf, hro, hn8⟩, (hC.uad hcs hn9 hj).off (by decide), (hR.uad had).u31 (Nat.le_refl _)⟩⟩
  · refine c_X11_close_bad c0 hp7 hn9 hq c10 hx ?_
    refine ⟨_, rfl, ⟨_, m31⟩, ?_⟩
    exact c_X12_close_bad hg hcs m31 hmN hx ⟨rfl, ⟨flt, tr, du, lw, fC, fR, pl, n, q, cs, G, ad, z, la, ce, ro, rb, hok, hC, hR⟩⟩

set_option maxHeartbeats 4000000 in
set_option maxRecDepth 100000 in
theorem p_tell : P_tell := by
  intro S hST a d
  obtain ⟨flt, tr, du, lw, fC, fR, pl, n, q, cs, G, ad, z, la, ce, ro, rb, hok, hC, hR⟩ := hST
  obtain ⟨hg, hnp, hq, hcs, hdu, hlw, hf, hro, hn8⟩ := id hok
  obtain ⟨c0, hcA, hcS, c10, hcT, hcR, hcN, hcX, c30⟩ := id hC
  obtain ⟨⟨ra, rp, rs, ea, dp, bm, bi, m31⟩, hmN, hmR, hmS, hmX⟩ := id hR
  have hp7 := hg.1
  have hn9 := hg.2.1
  by_cases hx : 0 ≤ a.toInt ∧ a.toInt < n
  · obtain ⟨j, hj, rfl⟩ : ∃ j, j < n ∧ a = nI j := ⟨a.toInt.toNat, by omega, (toN hx.1).1⟩
    clear hx
    obtain ⟨sa, hA, hsa⟩ := hcT
    have hjG := hg.2.2 j hj
    have hn0 : n ≠ 0 := by omega
    obtain rfl := hf hn0
    have had := (hcN j hj).2.1
    rcases (show G 0 j = 0 ∨ G 0 j = 1 ∨ G 0 j = 2 by omega) with h0 | h0 | h0
    · refine c_X11_tell0 c0 hp7 hn9 hq c10 hg hA hsa hcN hj c30 h0 ?_
      refine ⟨_, rfl, ⟨_, gn (by decide) m31⟩, ?_⟩
      refine c_X12_tell0 hg hcs (gn (by decide) m31) (hmN.off (by decide)) hj h0 ?_
      exact ⟨rfl, ⟨flt, _, du, lw, fC, fC, pl, n, q, cs, G, ad, z, la, ce, ro, rb, hok, (hC.u30).off (by decide), (hR.off (by decide)).u31 (Nat.le_refl _)⟩⟩
    · refine c_X11_tell1 c0 hp7 hn9 hq c10 hg hA hsa hcN hj c30 h0 ?_
      refine ⟨_, rfl, ⟨_, gn (by decide) m31⟩, ?_⟩
      refine c_X12_tell1 hg hcs (gn (by decide) m31) (hmN.off (by decide)) hj h0 ?_
      exact ⟨rfl, ⟨flt, _, du, lw, fC, fC, pl, n, q, cs, G, ad, z, la, ce, ro, rb, hok, (hC.u30).off (by decide), (hR.off (by decide)).u31 (Nat.le_refl _)⟩⟩
    · refine c_X11_tell2 c0 hp7 hn9 hq c10 hg hA hsa hcN hj c30 h0 ?_
      refine ⟨_, rfl, ⟨_, gn (by decide) m31⟩, ?_⟩
      refine c_X12_tell2 hg hcs (gn (by decide) m31) (hmN.off (by decide)) hj h0 ?_
      exact ⟨rfl, ⟨flt, _, du, lw, fC, fC, pl, n, q, cs, G, ad, z, la, ce, ro, rb, hok, (hC.u30).off (by decide), (hR.off (by decide)).u31 (Nat.le_refl _)⟩⟩
  · refine c_X11_tell_bad c0 hp7 hn9 hq c10 hx ?_
    refine ⟨_, rfl, ⟨_, m31⟩, ?_⟩
    exact c_X12_tell_bad hg hcs m31 hmN hx ⟨rfl, ⟨flt, tr, du, lw, fC, fR, pl, n, q, cs, G, ad, z, la, ce, ro, rb, hok, hC, hR⟩⟩

set_option maxHeartbeats 4000000 in
set_option maxRecDepth 100000 in
theorem p_sing : P_sing := by
  intro S hST a d
  obtain ⟨flt, tr, du, lw, fC, fR, pl, n, q, cs, G, ad, z, la, ce, ro, rb, hok, hC, hR⟩ := hST
  obtain ⟨hg, hnp, hq, hcs, hdu, hlw, hf, hro, hn8⟩ := id hok
  obtain ⟨c0, hcA, hcS, c10, hcT, hcR, hcN, hcX, c30⟩ := id hC
  obtain ⟨⟨ra, rp, rs, ea, dp, bm, bi, m31⟩, hmN, hmR, hmS, hmX⟩ := id hR
  have hp7 := hg.1
  have hn9 := hg.2.1
  by_cases hx : 0 ≤ a.toInt ∧ a.toInt < n
  · obtain ⟨j, hj, rfl⟩ : ∃ j, j < n ∧ a = nI j := ⟨a.toInt.toNat, by omega, (toN hx.1).1⟩
    clear hx
    obtain ⟨sa, hA, hsa⟩ := hcT
    have hjG := hg.2.2 j hj
    have hn0 : n ≠ 0 := by omega
    obtain rfl := hf hn0
    have had := (hcN j hj).2.1
    rcases (show G 0 j = 0 ∨ G 0 j = 1 ∨ G 0 j = 2 by omega) with h0 | h0 | h0
    · refine c_X11_sing0 c0 hp7 hn9 hq c10 hg hA hsa hcN hj c30 h0 ?_
      refine ⟨_, rfl, ⟨_, gn (by decide) m31⟩, ?_⟩
      refine c_X12_sing0 hg hcs (gn (by decide) m31) (hmN.off (by decide)) hj h0 ?_
      exact ⟨rfl, ⟨flt, _, du, lw, fC, fC, pl, n, q, cs, G, ad, z, la, ce, ro, rb, hok, (hC.u30).off (by decide), (hR.off (by decide)).u31 (Nat.le_refl _)⟩⟩
    · refine c_X11_sing1 c0 hp7 hn9 hq c10 hg hA hsa hcN hj c30 h0 ?_
      refine ⟨_, rfl, ⟨_, gn (by decide) m31⟩, ?_⟩
      refine c_X12_sing1 hg hcs (gn (by decide) m31) (hmN.off (by decide)) hj h0 ?_
      exact ⟨rfl, ⟨flt, _, du, lw, fC, fC, pl, n, q, cs, G, ad, z, la, ce, ro, rb, hok, (hC.u30).off (by decide), (hR.off (by decide)).u31 (Nat.le_refl _)⟩⟩
    · refine c_X11_sing2 c0 hp7 hn9 hq c10 hg hA hsa hcN hj c30 h0 ?_
      refine ⟨_, rfl, ⟨_, gn (by decide) m31⟩, ?_⟩
      refine c_X12_sing2 hg hcs (gn (by decide) m31) (hmN.off (by decide)) hj h0 ?_
      exact ⟨rfl, ⟨flt, _, du, lw, fC, fC, pl, n, q, cs, G, ad, z, la, ce, ro, rb, hok, (hC.u30).off (by decide), (hR.off (by decide)).u31 (Nat.le_refl _)⟩⟩
  · refine c_X11_sing_bad c0 hp7 hn9 hq c10 hx ?_
    refine ⟨_, rfl, ⟨_, m31⟩, ?_⟩
    exact c_X12_sing_bad hg hcs m31 hmN hx ⟨rfl, ⟨flt, tr, du, lw, fC, fR, pl, n, q, cs, G, ad, z, la, ce, ro, rb, hok, hC, hR⟩⟩

set_option maxHeartbeats 4000000 in
set_option maxRecDepth 100000 in
theorem p_as : P_as := by
  intro S hST a b d
  obtain ⟨flt, tr, du, lw, fC, fR, pl, n, q, cs, G, ad, z, la, ce, ro, rb, hok, hC, hR⟩ := hST
  obtain ⟨hg, hnp, hq, hcs, hdu, hlw, hf, hro, hn8⟩ := id hok
  obtain ⟨c0, hcA, hcS, c10, hcT, hcR, hcN, hcX, c30⟩ := id hC
  obtain ⟨⟨ra, rp, rs, ea, dp, bm, bi, m31⟩, hmN, hmR, hmS, hmX⟩ := id hR
  have hp7 := hg.1
  have hn9 := hg.2.1
  by_cases hx : 0 ≤ a.toInt ∧ a.toInt < n
  · obtain ⟨j, hj, rfl⟩ : ∃ j, j < n ∧ a = nI j := ⟨a.toInt.toNat, by omega, (toN hx.1).1⟩
    clear hx
    obtain ⟨sa, hA, hsa⟩ := hcT
    have hjG := hg.2.2 j hj
    have hn0 : n ≠ 0 := by omega
    obtain rfl := hf hn0
    have had := (hcN j hj).2.1
    have m0 : ∀ x, (S.set 0 (co x))[31]? = some (mo flt (nI pl) (nI n) du lw fC (nI cs) ra rp rs ea dp bm bi (nI q) tr) := fun x => gn (by decide) m31
    have mn : ∀ x, MN (S.set 0 (co x)) n G := fun x => hmN.off (by decide)
    rcases (show G 0 j = 0 ∨ G 0 j = 1 ∨ G 0 j = 2 by omega) with h0 | h0 | h0
    · by_cases hw : 0 ≤ b.toInt ∧ b.toInt ≤ 2
      · obtain ⟨w, hw2, rfl⟩ : ∃ w, w < 3 ∧ b = nI w := ⟨b.toInt.toNat, by omega, (toN hw.1).1⟩
        rcases (show w = 0 ∨ w = 1 ∨ w = 2 by omega) with rfl | rfl | rfl
        · refine c_X11_as0_0 c0 hp7 hn9 hq c10 hg hA hsa hcN hj h0 ?_
          refine ⟨_, rfl, ⟨_, m0 _⟩, ?_⟩
          refine c_X12_as hg hcs (m0 _) (mn _) hj (fun h => absurd hw h) (fun _ h => ⟨rfl, ⟨_, tr, du, lw, fC, fC, pl, n, q, cs, G, ad, z, la, ce, ro, rb, hok, (hC.u0).off (by decide), (hR.off (by decide)).u31 (Nat.le_refl _)⟩⟩) (fun _ h => absurd (by rw [h0]; decide) h)
        · refine c_X11_as0_1 c0 hp7 hn9 hq c10 hg hA hsa hcN hj h0 ?_
          refine ⟨_, rfl, ⟨_, m0 _⟩, ?_⟩
          refine c_X12_as hg hcs (m0 _) (mn _) hj (fun h => absurd hw h) (fun _ h => absurd h (by rw [h0]; decide)) (fun _ h => ⟨rfl, ⟨_, tr, du, lw, fC, fC, pl, n, q, cs, G, ad, z, la, ce, ro, rb, hok, (hC.u0).off (by decide), (hR.off (by decide)).u31 (Nat.le_refl _)⟩⟩)
        · refine c_X11_as0_2 c0 hp7 hn9 hq c10 hg hA hsa hcN hj h0 ?_
          refine ⟨_, rfl, ⟨_, m0 _⟩, ?_⟩
          refine c_X12_as hg hcs (m0 _) (mn _) hj (fun h => absurd hw h) (fun _ h => absurd h (by rw [h0]; decide)) (fun _ h => ⟨rfl, ⟨_, tr, du, lw, fC, fC, pl, n, q, cs, G, ad, z, la, ce, ro, rb, hok, (hC.u0).off (by decide), (hR.off (by decide)).u31 (Nat.le_refl _)⟩⟩)
      · refine c_X11_as0_out c0 hp7 hn9 hq c10 hg hA hsa hcN hj h0 hw ?_
        refine ⟨_, rfl, ⟨_, m0 _⟩, ?_⟩
        exact c_X12_as hg hcs (m0 _) (mn _) hj (fun _ => ⟨rfl, ⟨_, tr, du, lw, fC, fC, pl, n, q, cs, G, ad, z, la, ce, ro, rb, hok, (hC.u0).off (by decide), (hR.off (by decide)).u31 (Nat.le_refl _)⟩⟩) (fun h _ => absurd h hw) (fun h _ => absurd h hw)
    · by_cases hw : 0 ≤ b.toInt ∧ b.toInt ≤ 2
      · obtain ⟨w, hw2, rfl⟩ : ∃ w, w < 3 ∧ b = nI w := ⟨b.toInt.toNat, by omega, (toN hw.1).1⟩
        rcases (show w = 0 ∨ w = 1 ∨ w = 2 by omega) with rfl | rfl | rfl
        · refine c_X11_as1_0 c0 hp7 hn9 hq c10 hg hA hsa hcN hj h0 ?_
          refine ⟨_, rfl, ⟨_, m0 _⟩, ?_⟩
          refine c_X12_as hg hcs (m0 _) (mn _) hj (fun h => absurd hw h) (fun _ h => ⟨rfl, ⟨_, tr, du, lw, fC, fC, pl, n, q, cs, G, ad, z, la, ce, ro, rb, hok, (hC.u0).off (by decide), (hR.off (by decide)).u31 (Nat.le_refl _)⟩⟩) (fun _ h => absurd (by rw [h0]; decide) h)
        · refine c_X11_as1_1 c0 hp7 hn9 hq c10 hg hA hsa hcN hj h0 ?_
          refine ⟨_, rfl, ⟨_, m0 _⟩, ?_⟩
          refine c_X12_as hg hcs (m0 _) (mn _) hj (fun h => absurd hw h) (fun _ h => ⟨rfl, ⟨_, tr, du, lw, fC, fC, pl, n, q, cs, G, ad, z, la, ce, ro, rb, hok, (hC.u0).off (by decide), (hR.off (by decide)).u31 (Nat.le_refl _)⟩⟩) (fun _ h => absurd (by rw [h0]; decide) h)
        · refine c_X11_as1_2 c0 hp7 hn9 hq c10 hg hA hsa hcN hj h0 ?_
          refine ⟨_, rfl, ⟨_, m0 _⟩, ?_⟩
          refine c_X12_as hg hcs (m0 _) (mn _) hj (fun h => absurd hw h) (fun _ h => absurd h (by rw [h0]; decide)) (fun _ h => ⟨rfl, ⟨_, tr, du, lw, fC, fC, pl, n, q, cs, G, ad, z, la, ce, ro, rb, hok, (hC.u0).off (by decide), (hR.off (by decide)).u31 (Nat.le_refl _)⟩⟩)
      · refine c_X11_as1_out c0 hp7 hn9 hq c10 hg hA hsa hcN hj h0 hw ?_
        refine ⟨_, rfl, ⟨_, m0 _⟩, ?_⟩
        exact c_X12_as hg hcs (m0 _) (mn _) hj (fun _ => ⟨rfl, ⟨_, tr, du, lw, fC, fC, pl, n, q, cs, G, ad, z, la, ce, ro, rb, hok, (hC.u0).off (by decide), (hR.off (by decide)).u31 (Nat.le_refl _)⟩⟩) (fun h _ => absurd h hw) (fun h _ => absurd h hw)
    · by_cases hw : 0 ≤ b.toInt ∧ b.toInt ≤ 2
      · obtain ⟨w, hw2, rfl⟩ : ∃ w, w < 3 ∧ b = nI w := ⟨b.toInt.toNat, by omega, (toN hw.1).1⟩
        rcases (show w = 0 ∨ w = 1 ∨ w = 2 by omega) with rfl | rfl | rfl
        · refine c_X11_as2_0 c0 hp7 hn9 hq c10 hg hA hsa hcN hj h0 ?_
          refine ⟨_, rfl, ⟨_, m0 _⟩, ?_⟩
          refine c_X12_as hg hcs (m0 _) (mn _) hj (fun h => absurd hw h) (fun _ h => ⟨rfl, ⟨_, tr, du, lw, fC, fC, pl, n, q, cs, G, ad, z, la, ce, ro, rb, hok, (hC.u0).off (by decide), (hR.off (by decide)).u31 (Nat.le_refl _)⟩⟩) (fun _ h => absurd (by rw [h0]; decide) h)
        · refine c_X11_as2_1 c0 hp7 hn9 hq c10 hg hA hsa hcN hj h0 ?_
          refine ⟨_, rfl, ⟨_, m0 _⟩, ?_⟩
          refine c_X12_as hg hcs (m0 _) (mn _) hj (fun h => absurd hw h) (fun _ h => ⟨rfl, ⟨_, tr, du, lw, fC, fC, pl, n, q, cs, G, ad, z, la, ce, ro, rb, hok, (hC.u0).off (by decide), (hR.off (by decide)).u31 (Nat.le_refl _)⟩⟩) (fun _ h => absurd (by rw [h0]; decide) h)
        · refine c_X11_as2_2 c0 hp7 hn9 hq c10 hg hA hsa hcN hj h0 ?_
          refine ⟨_, rfl, ⟨_, m0 _⟩, ?_⟩
          refine c_X12_as hg hcs (m0 _) (mn _) hj (fun h => absurd hw h) (fun _ h => ⟨rfl, ⟨_, tr, du, lw, fC, fC, pl, n, q, cs, G, ad, z, la, ce, ro, rb, hok, (hC.u0).off (by decide), (hR.off (by decide)).u31 (Nat.le_refl _)⟩⟩) (fun _ h => absurd (by rw [h0]; decide) h)
      · refine c_X11_as2_out c0 hp7 hn9 hq c10 hg hA hsa hcN hj h0 hw ?_
        refine ⟨_, rfl, ⟨_, m0 _⟩, ?_⟩
        exact c_X12_as hg hcs (m0 _) (mn _) hj (fun _ => ⟨rfl, ⟨_, tr, du, lw, fC, fC, pl, n, q, cs, G, ad, z, la, ce, ro, rb, hok, (hC.u0).off (by decide), (hR.off (by decide)).u31 (Nat.le_refl _)⟩⟩) (fun h _ => absurd h hw) (fun h _ => absurd h hw)
  · refine c_X11_as_bad c0 hp7 hn9 hq c10 hx ?_
    refine ⟨_, rfl, ⟨_, gn (by decide) m31⟩, ?_⟩
    exact c_X12_as_bad hg hcs (gn (by decide) m31) (hmN.off (by decide)) hx ⟨rfl, ⟨_, tr, du, lw, fC, fR, pl, n, q, cs, G, ad, z, la, ce, ro, rb, hok, (hC.u0).off (by decide), (hR.off (by decide)).u31 (Nat.le_refl _)⟩⟩

set_option maxHeartbeats 4000000 in
set_option maxRecDepth 100000 in
theorem p_trace : P_trace := by
  intro S hST  d
  obtain ⟨flt, tr, du, lw, fC, fR, pl, n, q, cs, G, ad, z, la, ce, ro, rb, hok, hC, hR⟩ := hST
  obtain ⟨hg, hnp, hq, hcs, hdu, hlw, hf, hro, hn8⟩ := id hok
  obtain ⟨c0, hcA, hcS, c10, hcT, hcR, hcN, hcX, c30⟩ := id hC
  obtain ⟨⟨ra, rp, rs, ea, dp, bm, bi, m31⟩, hmN, hmR, hmS, hmX⟩ := id hR
  have hp7 := hg.1
  have hn9 := hg.2.1
  exact c_X11_trace c0 c30 ⟨_, rfl, ⟨_, m31⟩, c_X12_trace m31 ⟨rfl, ⟨flt, tr, du, lw, fC, fR, pl, n, q, cs, G, ad, z, la, ce, ro, rb, hok, hC, hR⟩⟩⟩

set_option maxHeartbeats 4000000 in
set_option maxRecDepth 100000 in
theorem p_fault : P_fault := by
  intro S hST  d
  obtain ⟨flt, tr, du, lw, fC, fR, pl, n, q, cs, G, ad, z, la, ce, ro, rb, hok, hC, hR⟩ := hST
  obtain ⟨hg, hnp, hq, hcs, hdu, hlw, hf, hro, hn8⟩ := id hok
  obtain ⟨c0, hcA, hcS, c10, hcT, hcR, hcN, hcX, c30⟩ := id hC
  obtain ⟨⟨ra, rp, rs, ea, dp, bm, bi, m31⟩, hmN, hmR, hmS, hmX⟩ := id hR
  have hp7 := hg.1
  have hn9 := hg.2.1
  exact c_X11_fault c0 ⟨_, rfl, ⟨_, m31⟩, c_X12_fault m31 ⟨rfl, ⟨flt, tr, du, lw, fC, fR, pl, n, q, cs, G, ad, z, la, ce, ro, rb, hok, hC, hR⟩⟩⟩

set_option maxHeartbeats 4000000 in
set_option maxRecDepth 100000 in
theorem p_many : P_many := by
  intro S hST a d
  obtain ⟨flt, tr, du, lw, fC, fR, pl, n, q, cs, G, ad, z, la, ce, ro, rb, hok, hC, hR⟩ := hST
  obtain ⟨hg, hnp, hq, hcs, hdu, hlw, hf, hro, hn8⟩ := id hok
  obtain ⟨c0, hcA, hcS, c10, hcT, hcR, hcN, hcX, c30⟩ := id hC
  obtain ⟨⟨ra, rp, rs, ea, dp, bm, bi, m31⟩, hmN, hmR, hmS, hmX⟩ := id hR
  have hp7 := hg.1
  have hn9 := hg.2.1
  exact c_X11_many c0 hp7 hn9 hq c10 ⟨_, rfl, ⟨_, m31⟩, c_X12_many m31 ⟨rfl, ⟨flt, tr, du, lw, fC, fR, pl, n, q, cs, G, ad, z, la, ce, ro, rb, hok, hC, hR⟩⟩⟩

set_option maxHeartbeats 4000000 in
set_option maxRecDepth 100000 in
theorem p_reading0 : P_reading0 := by
  intro S hST a d
  obtain ⟨flt, tr, du, lw, fC, fR, pl, n, q, cs, G, ad, z, la, ce, ro, rb, hok, hC, hR⟩ := hST
  obtain ⟨hg, hnp, hq, hcs, hdu, hlw, hf, hro, hn8⟩ := id hok
  obtain ⟨c0, hcA, hcS, c10, hcT, hcR, hcN, hcX, c30⟩ := id hC
  obtain ⟨⟨ra, rp, rs, ea, dp, bm, bi, m31⟩, hmN, hmR, hmS, hmX⟩ := id hR
  have hp7 := hg.1
  have hn9 := hg.2.1
  by_cases hx : 0 ≤ a.toInt ∧ a.toInt < n
  · obtain ⟨j, hj, rfl⟩ : ∃ j, j < n ∧ a = nI j := ⟨a.toInt.toNat, by omega, (toN hx.1).1⟩
    clear hx
    obtain ⟨sa, hA, hsa⟩ := hcT
    have hjG := hg.2.2 j hj
    have hn0 : n ≠ 0 := by omega
    obtain rfl := hf hn0
    have had := (hcN j hj).2.1
    obtain ⟨fo, fw, r1, r2, r3⟩ := hcR
    obtain ⟨fo2, fw2, s1, s2, s3⟩ := hmR
    by_cases h8 : q = 8
    · refine c_X11_reading0_full c0 hp7 hn9 hq c10 hA hsa hj h8 ?_
      refine ⟨_, rfl, ⟨_, m31⟩, ?_⟩
      exact c_X12_reading0_full hg hcs hq m31 hmN s1 s2 hj h8 ⟨rfl, ⟨flt, tr, du, lw, fC, fC, pl, n, q, cs, G, ad, z, la, ce, ro, rb, hok, hC, hR⟩⟩
    · refine c_X11_reading0 c0 hp7 hn9 hq c10 hA hsa r1 r2 hj (by omega) ?_
      have o31 : ∀ x c, 13 < x → S[x]? = some c → (((S.set 12 (iA 8 (upd fo q (nI j)))).set 13 (zA 8 (upd fw q 0))).set 10 (nt (nI pl) (nI n) du lw fC (nI (q + 1))))[x]? = some c := fun x c hx h => gn (by omega) (gn (by omega) (gn (by omega) h))
      refine ⟨_, rfl, ⟨_, o31 31 _ (by decide) m31⟩, ?_⟩
      refine c_X12_reading0 hg hcs hq (o31 31 _ (by decide) m31) (((hmN.off (by decide)).off (by decide)).off (by decide)) (o31 48 _ (by decide) s1) (o31 49 _ (by decide) s2) hj (by omega) ⟨rfl, ?_⟩
      have hup : ∀ (f : Nat → Int32) (v : Int32) (P : Nat → Int32 → Prop), (∀ x, x < q → P x (f x)) → P q v → ∀ x, x < q + 1 → P x (upd f q v x) := by
        intro f v P h1 h2 x hx
        by_cases e : x = q
        · subst e; simpa [upd] using h2
        · simp only [upd, if_neg e]; exact h1 x (by omega)
      have hro2 : ∀ x, (if x = q then j else ro x) = (fun y => if y = q then j else ro y) x := fun _ => rfl
      refine ⟨flt, tr, du, lw, fC, fC, pl, n, q + 1, cs, G, ad, z, la, ce, fun y => if y = q then j else ro y, fun y => if y = q then false else rb y, ⟨hg, hnp, by omega, hcs, hdu, hlw, fun _ => rfl, ?_, hn8⟩, ?_, ?_⟩
      · intro x hx
        show (if x = q then j else ro x) < n
        split
        · exact hj
        · exact hro x (by omega)
      · refine CA.off (CA.off (CA.off ?_ (by decide)) (by decide)) (by decide)
        obtain ⟨h1, h2, h3, h4, h5, h6, h7, h8, h9⟩ := hC
        refine ⟨gn (by decide) (gn (by decide) (gn (by decide) h1)), ((h2.off (by decide)).off (by decide)).off (by decide), ((h3.off (by decide)).off (by decide)).off (by decide), gs (gn (by decide) (gn (by decide) h4)), ((h5.off (by decide)).off (by decide)).off (by decide), ⟨_, _, gn (by decide) (gn (by decide) (gs r1)), gn (by decide) (gs (gn (by decide) r2)), ?_⟩, ((h7.off (by decide)).off (by decide)).off (by decide), ((h8.off (by decide)).off (by decide)).off (by decide), gn (by decide) (gn (by decide) (gn (by decide) h9))⟩
        intro x hx
        refine ⟨hup fo _ (fun y v => v = nI (if y = q then j else ro y)) (fun y hy => by rw [if_neg (by omega)]; exact (r3 y hy).1) (by rw [if_pos rfl]) x hx, hup fw _ (fun y v => v = bz (if y = q then false else rb y)) (fun y hy => by rw [if_neg (by omega)]; exact (r3 y hy).2) (by rw [if_pos rfl]; rfl) x hx⟩
      · obtain ⟨-, h2, h3, h4, h5⟩ := hR
        refine ⟨mM.st (gn (by decide) (gn (by decide) (o31 31 _ (by decide) m31))), ?_, ⟨_, _, gn (by decide) (gn (by decide) (gs (o31 48 _ (by decide) s1))), gn (by decide) (gs (gn (by decide) (o31 49 _ (by decide) s2))), ?_⟩, ?_, ?_⟩
        · exact (((((h2.off (by decide)).off (by decide)).off (by decide)).off (by decide)).off (by decide)).off (by decide)
        · intro x hx
          refine ⟨hup fo2 _ (fun y v => v = nI (if y = q then j else ro y)) (fun y hy => by rw [if_neg (by omega)]; exact (s3 y hy).1) (by rw [if_pos rfl]) x hx, hup fw2 _ (fun y v => v = bz (if y = q then false else rb y)) (fun y hy => by rw [if_neg (by omega)]; exact (s3 y hy).2) (by rw [if_pos rfl]; rfl) x hx⟩
        · exact (((((h4.off (by decide)).off (by decide)).off (by decide)).off (by decide)).off (by decide)).off (by decide)
        · exact (((((h5.off (by decide)).off (by decide)).off (by decide)).off (by decide)).off (by decide)).off (by decide)
  · refine c_X11_reading_bad c0 hp7 hn9 hq c10 hx ?_
    refine ⟨_, rfl, ⟨_, m31⟩, ?_⟩
    exact c_X12_reading_bad hg hcs m31 hmN hx ⟨rfl, ⟨flt, tr, du, lw, fC, fR, pl, n, q, cs, G, ad, z, la, ce, ro, rb, hok, hC, hR⟩⟩

set_option maxHeartbeats 4000000 in
set_option maxRecDepth 100000 in
theorem p_reading1 : P_reading1 := by
  intro S hST a d
  obtain ⟨flt, tr, du, lw, fC, fR, pl, n, q, cs, G, ad, z, la, ce, ro, rb, hok, hC, hR⟩ := hST
  obtain ⟨hg, hnp, hq, hcs, hdu, hlw, hf, hro, hn8⟩ := id hok
  obtain ⟨c0, hcA, hcS, c10, hcT, hcR, hcN, hcX, c30⟩ := id hC
  obtain ⟨⟨ra, rp, rs, ea, dp, bm, bi, m31⟩, hmN, hmR, hmS, hmX⟩ := id hR
  have hp7 := hg.1
  have hn9 := hg.2.1
  by_cases hx : 0 ≤ a.toInt ∧ a.toInt < n
  · obtain ⟨j, hj, rfl⟩ : ∃ j, j < n ∧ a = nI j := ⟨a.toInt.toNat, by omega, (toN hx.1).1⟩
    clear hx
    obtain ⟨sa, hA, hsa⟩ := hcT
    have hjG := hg.2.2 j hj
    have hn0 : n ≠ 0 := by omega
    obtain rfl := hf hn0
    have had := (hcN j hj).2.1
    obtain ⟨fo, fw, r1, r2, r3⟩ := hcR
    obtain ⟨fo2, fw2, s1, s2, s3⟩ := hmR
    by_cases h8 : q = 8
    · refine c_X11_reading1_full c0 hp7 hn9 hq c10 hA hsa hj h8 ?_
      refine ⟨_, rfl, ⟨_, m31⟩, ?_⟩
      exact c_X12_reading1_full hg hcs hq m31 hmN s1 s2 hj h8 ⟨rfl, ⟨flt, tr, du, lw, fC, fC, pl, n, q, cs, G, ad, z, la, ce, ro, rb, hok, hC, hR⟩⟩
    · refine c_X11_reading1 c0 hp7 hn9 hq c10 hA hsa r1 r2 hj (by omega) ?_
      have o31 : ∀ x c, 13 < x → S[x]? = some c → (((S.set 12 (iA 8 (upd fo q (nI j)))).set 13 (zA 8 (upd fw q 1))).set 10 (nt (nI pl) (nI n) du lw fC (nI (q + 1))))[x]? = some c := fun x c hx h => gn (by omega) (gn (by omega) (gn (by omega) h))
      refine ⟨_, rfl, ⟨_, o31 31 _ (by decide) m31⟩, ?_⟩
      refine c_X12_reading1 hg hcs hq (o31 31 _ (by decide) m31) (((hmN.off (by decide)).off (by decide)).off (by decide)) (o31 48 _ (by decide) s1) (o31 49 _ (by decide) s2) hj (by omega) ⟨rfl, ?_⟩
      have hup : ∀ (f : Nat → Int32) (v : Int32) (P : Nat → Int32 → Prop), (∀ x, x < q → P x (f x)) → P q v → ∀ x, x < q + 1 → P x (upd f q v x) := by
        intro f v P h1 h2 x hx
        by_cases e : x = q
        · subst e; simpa [upd] using h2
        · simp only [upd, if_neg e]; exact h1 x (by omega)
      have hro2 : ∀ x, (if x = q then j else ro x) = (fun y => if y = q then j else ro y) x := fun _ => rfl
      refine ⟨flt, tr, du, lw, fC, fC, pl, n, q + 1, cs, G, ad, z, la, ce, fun y => if y = q then j else ro y, fun y => if y = q then true else rb y, ⟨hg, hnp, by omega, hcs, hdu, hlw, fun _ => rfl, ?_, hn8⟩, ?_, ?_⟩
      · intro x hx
        show (if x = q then j else ro x) < n
        split
        · exact hj
        · exact hro x (by omega)
      · refine CA.off (CA.off (CA.off ?_ (by decide)) (by decide)) (by decide)
        obtain ⟨h1, h2, h3, h4, h5, h6, h7, h8, h9⟩ := hC
        refine ⟨gn (by decide) (gn (by decide) (gn (by decide) h1)), ((h2.off (by decide)).off (by decide)).off (by decide), ((h3.off (by decide)).off (by decide)).off (by decide), gs (gn (by decide) (gn (by decide) h4)), ((h5.off (by decide)).off (by decide)).off (by decide), ⟨_, _, gn (by decide) (gn (by decide) (gs r1)), gn (by decide) (gs (gn (by decide) r2)), ?_⟩, ((h7.off (by decide)).off (by decide)).off (by decide), ((h8.off (by decide)).off (by decide)).off (by decide), gn (by decide) (gn (by decide) (gn (by decide) h9))⟩
        intro x hx
        refine ⟨hup fo _ (fun y v => v = nI (if y = q then j else ro y)) (fun y hy => by rw [if_neg (by omega)]; exact (r3 y hy).1) (by rw [if_pos rfl]) x hx, hup fw _ (fun y v => v = bz (if y = q then true else rb y)) (fun y hy => by rw [if_neg (by omega)]; exact (r3 y hy).2) (by rw [if_pos rfl]; rfl) x hx⟩
      · obtain ⟨-, h2, h3, h4, h5⟩ := hR
        refine ⟨mM.st (gn (by decide) (gn (by decide) (o31 31 _ (by decide) m31))), ?_, ⟨_, _, gn (by decide) (gn (by decide) (gs (o31 48 _ (by decide) s1))), gn (by decide) (gs (gn (by decide) (o31 49 _ (by decide) s2))), ?_⟩, ?_, ?_⟩
        · exact (((((h2.off (by decide)).off (by decide)).off (by decide)).off (by decide)).off (by decide)).off (by decide)
        · intro x hx
          refine ⟨hup fo2 _ (fun y v => v = nI (if y = q then j else ro y)) (fun y hy => by rw [if_neg (by omega)]; exact (s3 y hy).1) (by rw [if_pos rfl]) x hx, hup fw2 _ (fun y v => v = bz (if y = q then true else rb y)) (fun y hy => by rw [if_neg (by omega)]; exact (s3 y hy).2) (by rw [if_pos rfl]; rfl) x hx⟩
        · exact (((((h4.off (by decide)).off (by decide)).off (by decide)).off (by decide)).off (by decide)).off (by decide)
        · exact (((((h5.off (by decide)).off (by decide)).off (by decide)).off (by decide)).off (by decide)).off (by decide)
  · refine c_X11_reading_bad c0 hp7 hn9 hq c10 hx ?_
    refine ⟨_, rfl, ⟨_, m31⟩, ?_⟩
    exact c_X12_reading_bad hg hcs m31 hmN hx ⟨rfl, ⟨flt, tr, du, lw, fC, fR, pl, n, q, cs, G, ad, z, la, ce, ro, rb, hok, hC, hR⟩⟩

set_option maxHeartbeats 4000000 in
set_option maxRecDepth 100000 in
theorem p_back : P_back := by
  intro S hST a d
  obtain ⟨flt, tr, du, lw, fC, fR, pl, n, q, cs, G, ad, z, la, ce, ro, rb, hok, hC, hR⟩ := hST
  obtain ⟨hg, hnp, hq, hcs, hdu, hlw, hf, hro, hn8⟩ := id hok
  obtain ⟨c0, hcA, hcS, c10, hcT, hcR, hcN, hcX, c30⟩ := id hC
  obtain ⟨⟨ra, rp, rs, ea, dp, bm, bi, m31⟩, hmN, hmR, hmS, hmX⟩ := id hR
  have hp7 := hg.1
  have hn9 := hg.2.1
  by_cases hx : 0 ≤ a.toInt ∧ a.toInt ≤ q
  · obtain ⟨y, hy, rfl⟩ : ∃ y, y ≤ q ∧ a = nI y := ⟨a.toInt.toNat, by omega, (toN hx.1).1⟩
    refine c_X11_back c0 hp7 hn9 hq c10 hy ?_
    refine ⟨_, rfl, ⟨_, gn (by decide) m31⟩, ?_⟩
    refine c_X12_back hg hcs hq (gn (by decide) m31) (hmN.off (by decide)) hy ⟨rfl, ?_⟩
    exact ⟨flt, tr, du, lw, fC, fR, pl, n, (q - y), cs, G, ad, z, la, ce, ro, rb, ⟨hg, hnp, by omega, hcs, hdu, hlw, hf, fun x hx => hro x (by omega), hn8⟩, (hC.u10 (by omega)).off (by decide), (hR.off (by decide)).u31 (by omega)⟩
  · refine c_X11_back_bad c0 hp7 hn9 hq c10 hx ?_
    refine ⟨_, rfl, ⟨_, m31⟩, ?_⟩
    exact c_X12_back_bad hg hcs hq m31 hmN hx ⟨rfl, ⟨flt, tr, du, lw, fC, fR, pl, n, q, cs, G, ad, z, la, ce, ro, rb, hok, hC, hR⟩⟩

