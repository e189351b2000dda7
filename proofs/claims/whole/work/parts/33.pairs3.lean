theorem CA.u14 {S : aS} {flt tr du lw fr : Int32} {pl n q cs : Nat} {G : Nat → Nat → Nat} {ad : Nat → Nat} {z : Nat → Int} {la : Nat → Nat} {ce : Nat → Nat → Int32} {ro : Nat → Nat} {rb : Nat → Bool} (h : CA S flt tr du lw fr pl n q cs G ad z la ce ro rb) {p s m g o : Int32} {t : Int64} : CA (S.set 14 (wkc p s m g o t)) flt tr du lw fr pl n q cs G ad z la ce ro rb := by
  obtain ⟨h1, h2, h3, h4, h5, h6, h7, ⟨X1, ⟨x1, x2, x3, x4, x5, x6, x7, x8, x9, v, X2⟩, ⟨f3, X3, X3b⟩, ⟨f4, X4⟩, ⟨f5, X5⟩, X6, ⟨f7, X7⟩, X8, ⟨f9, X9⟩, f10, X10⟩, h9⟩ := h
  refine ⟨gn (by decide) h1, h2.off (by decide), h3.off (by decide), gn (by decide) h4, h5.off (by decide), h6.off (by decide), h7.off (by decide), ⟨fun k hk => ?_, ⟨x1, x2, x3, x4, x5, x6, x7, x8, x9, v, gn (by decide) X2⟩, ⟨f3, gn (by decide) X3, X3b⟩, ⟨f4, gn (by decide) X4⟩, ⟨f5, gn (by decide) X5⟩, gn (by decide) X6, ⟨f7, gn (by decide) X7⟩, gn (by decide) X8, ⟨f9, gn (by decide) X9⟩, f10, gn (by decide) X10⟩, gn (by decide) h9⟩
  obtain ⟨p1, s1, m1, g1, o1, t1, h⟩ := X1 k hk
  by_cases e : k = 0
  · subst e
    exact ⟨p, s, m, g, o, t, gs (show S[14]? = _ from h)⟩
  · exact ⟨p1, s1, m1, g1, o1, t1, gn (by rw [if_neg e]; omega) h⟩
theorem RA.u44 {S : aS} {flt tr du lw fr : Int32} {pl n q cs : Nat} {G : Nat → Nat → Nat} {z : Nat → Int} {la : Nat → Nat} {ce : Nat → Nat → Int32} {ro : Nat → Nat} {rb : Nat → Bool} (h : RA S flt tr du lw fr pl n q cs G z la ce ro rb) {g : Nat → Int32} : RA (S.set 44 (iA 12 g)) flt tr du lw fr pl n q cs G z la ce ro rb := by
  obtain ⟨h1, h2, h3, h4, ⟨Y1, ⟨y2, Y2⟩, ⟨y3, Y3⟩, ⟨y4, Y4⟩, ⟨y5, Y5⟩, ⟨y6, Y6⟩, ⟨y7, Y7⟩, y8, Y8⟩⟩ := h
  refine ⟨h1.off (by decide), h2.off (by decide), h3.off (by decide), h4.off (by decide), ⟨fun k hk => ?_, ⟨g, gs Y2⟩, ⟨y3, gn (by decide) Y3⟩, ⟨y4, gn (by decide) Y4⟩, ⟨y5, gn (by decide) Y5⟩, ⟨y6, gn (by decide) Y6⟩, ⟨y7, gn (by decide) Y7⟩, y8, gn (by decide) Y8⟩⟩
  obtain ⟨f, h⟩ := Y1 k hk
  exact ⟨f, gn (by omega) h⟩
theorem paN_congr {G : Nat → Nat → Nat} {cs : Nat} {r r2 : Nat → Nat} : ∀ (m : Nat), (∀ y, y < m → r y = r2 y) → paN G cs r m = paN G cs r2 m
  | 0, _ => rfl
  | m + 1, h => by simp only [paN]; rw [paN_congr m (fun y hy => h y (by omega)), h m (by omega)]
theorem sumN_congr {f g : Nat → Nat} : ∀ (m : Nat), (∀ y, y < m → f y = g y) → sumN f m = sumN g m
  | 0, _ => rfl
  | m + 1, h => by simp only [sumN]; rw [sumN_congr m (fun y hy => h y (by omega)), h m (by omega)]
theorem prodN_congr {f g : Nat → Nat} : ∀ (m : Nat), (∀ y, y < m → f y = g y) → prodN f m = prodN g m
  | 0, _ => rfl
  | m + 1, h => by simp only [prodN]; rw [prodN_congr m (fun y hy => h y (by omega)), h m (by omega)]
theorem goN_congr {r r2 : Nat → Nat} : ∀ (m : Nat), (∀ y, y < m → r y = r2 y) → goN r m = goN r2 m
  | 0, _ => rfl
  | m + 1, h => by simp only [goN]; rw [goN_congr m (fun y hy => h y (by omega)), h m (by omega)]
theorem paN_none {G : Nat → Nat → Nat} {cs x : Nat} {r : Nat → Nat} (h : paN G cs r x = none) : ∀ t, paN G cs r (x + t) = none
  | 0 => h
  | t + 1 => by rw [← Nat.add_assoc]; simp only [paN]; rw [paN_none h t]; rfl
theorem paN_stop {G : Nat → Nat → Nat} {cs x p : Nat} {r : Nat → Nat} (h : paN G cs r x = some p) (h2 : gt G cs (r x) p = none) {y p2 : Nat} (h3 : paN G cs r y = some p2) : y ≤ x := by
  refine Nat.le_of_not_lt (fun hlt => ?_)
  have h4 : paN G cs r (x + 1) = none := by simp only [paN, h]; exact h2
  have h5 := paN_none h4 (y - (x + 1))
  rw [show x + 1 + (y - (x + 1)) = y by omega, h3] at h5
  cases h5

set_option maxHeartbeats 4000000 in
set_option maxRecDepth 100000 in
theorem p_walk : P_walk := by
  intro S hST a b c n9 v d
  obtain ⟨flt, tr, du, lw, fC, fR, pl, n, q, cs, G, ad, z, la, ce, ro, rb, hok, hC, hR⟩ := hST
  obtain ⟨hg, hnp, hq, hcs, hdu, hlw, hf, hro, hn8⟩ := id hok
  obtain ⟨c0, hcA, hcS, c10, hcT, hcR, hcN, hcX, c30⟩ := id hC
  obtain ⟨⟨ra, rp, rs, ea, dp, bm, bi, m31⟩, hmN, hmR, hmS, hmX⟩ := id hR
  have hp7 := hg.1
  have hn9 := hg.2.1
  by_cases hx : 0 ≤ a.toInt ∧ a.toInt ≤ 3
  · obtain ⟨k, hk, rfl⟩ : ∃ k, k < 4 ∧ a = nI k := ⟨a.toInt.toNat, by omega, (toN hx.1).1⟩
    clear hx
    obtain ⟨fa, hA, hfa⟩ := hcA
    obtain ⟨z1, z2, l1, ln, len, f, hS, hc, hneg, hpos, hce⟩ := hcS k hk
    obtain ⟨fs, fl, fc, s52, s53, s54, hsa⟩ := id hmS
    obtain ⟨e1, -, -, -, e2, e3⟩ := hsa k hk
    have s55 := hmX.2.2.2.2.2.2.2
    obtain ⟨fh, s55⟩ := s55
    have m0 : ∀ e, (S.set 0 (co e))[31]? = some (mo flt (nI pl) (nI n) du lw fR (nI cs) ra rp rs ea dp bm bi (nI q) tr) := fun e => gn (by decide) m31
    have m52 : ∀ e, (S.set 0 (co e))[52]? = some (iA 4 fs) := fun e => gn (by decide) s52
    have m53 : ∀ e, (S.set 0 (co e))[53]? = some (iA 4 fl) := fun e => gn (by decide) s53
    have m54 : ∀ e, (S.set 0 (co e))[54]? = some (iA 240 fc) := fun e => gn (by decide) s54
    have lnn : ∀ h : 0 ≤ z k, ¬ ln = -1 := fun h => by rw [(hpos h).1]; exact nI_nm l1
    by_cases hw : 0 ≤ b.toInt ∧ b.toInt ≤ 2
    case neg =>
      refine c_X11_walk_lane c0 hA hfa hk hw ?_
      exact ⟨_, rfl, ⟨_, m0 _⟩, c_X12_walk_lane hg hcs (m0 _) (hmN.off (by decide)) hk hw ⟨rfl, ⟨_, tr, du, lw, fC, fR, pl, n, q, cs, G, ad, z, la, ce, ro, rb, hok, (hC.u0).off (by decide), (hR.off (by decide)).u31 (Nat.le_refl _)⟩⟩⟩
    by_cases hv : 0 ≤ v.toInt ∧ v.toInt ≤ 3
    case neg =>
      refine c_X11_walk_what c0 hA hfa hk hw hv ?_
      exact ⟨_, rfl, ⟨_, m0 _⟩, c_X12_walk_what hg hcs (m0 _) (hmN.off (by decide)) hk hw hv ⟨rfl, ⟨_, tr, du, lw, fC, fR, pl, n, q, cs, G, ad, z, la, ce, ro, rb, hok, (hC.u0).off (by decide), (hR.off (by decide)).u31 (Nat.le_refl _)⟩⟩⟩
    by_cases hn0 : n = 0
    · refine c_X11_walk_none c0 hA hfa hp7 hn9 hq c10 hk hw hv (hnp.mp hn0) ?_
      exact ⟨_, rfl, ⟨_, m0 _⟩, c_X12_walk_none hg hcs (m0 _) (hmN.off (by decide)) hk hw hv hn0 ⟨rfl, ⟨_, tr, du, lw, fC, fR, pl, n, q, cs, G, ad, z, la, ce, ro, rb, hok, (hC.u0).off (by decide), (hR.off (by decide)).u31 (Nat.le_refl _)⟩⟩⟩
    have hp : ¬ pl = 0 := fun z => hn0 (hnp.mpr z)
    obtain rfl := hf hn0
    by_cases hz : z k < 0
    · refine c_X11_walk_n c0 hA hfa hp7 hn9 hq c10 hk hS hc hw hv hp (hneg hz) ?_
      exact ⟨_, rfl, ⟨_, m0 _⟩, c_X12_walk_n hg hcs (m0 _) (hmN.off (by decide)) (m52 _) (m53 _) (m54 _) hk e1 ⟨z1, z2⟩ hw hv hn0 hz ⟨rfl, ⟨_, tr, du, lw, fC, fC, pl, n, q, cs, G, ad, z, la, ce, ro, rb, hok, (hC.u0).off (by decide), (hR.off (by decide)).u31 (Nat.le_refl _)⟩⟩⟩
    have hz0 : 0 ≤ z k := by omega
    have hla := (hpos hz0).1
    have hlb := e2 hz0
    have hlen := (hpos hz0).2
    by_cases he : ln = b
    case neg =>
      refine c_X11_walk_cast c0 hA hfa hp7 hn9 hq c10 hk hS hc hw hv hp (lnn hz0) he ?_
      exact ⟨_, rfl, ⟨_, m0 _⟩, c_X12_walk_cast hg hcs (m0 _) (hmN.off (by decide)) (m52 _) (m53 _) (m54 _) hk e1 ⟨z1, z2⟩ hw hv hn0 hz0 (by rw [hlb, ← hla]; exact he) ⟨rfl, ⟨_, tr, du, lw, fC, fC, pl, n, q, cs, G, ad, z, la, ce, ro, rb, hok, (hC.u0).off (by decide), (hR.off (by decide)).u31 (Nat.le_refl _)⟩⟩⟩
    have he2 : fl k = b := by rw [hlb, ← hla, he]
    by_cases hs : n9.toInt < 0
    · refine c_X11_walk_size c0 hA hfa hp7 hn9 hq c10 hk hS hc hw hv hp (lnn hz0) he hs ?_
      exact ⟨_, rfl, ⟨_, m0 _⟩, c_X12_walk_size hg hcs (m0 _) (hmN.off (by decide)) (m52 _) (m53 _) (m54 _) hk e1 ⟨z1, z2⟩ hw hv hn0 hz0 he2 hs ⟨rfl, ⟨_, tr, du, lw, fC, fC, pl, n, q, cs, G, ad, z, la, ce, ro, rb, hok, (hC.u0).off (by decide), (hR.off (by decide)).u31 (Nat.le_refl _)⟩⟩⟩
    by_cases hi : 0 ≤ c.toInt ∧ c.toInt + n9.toInt ≤ z k
    case neg =>
      refine c_X11_walk_ix c0 hA hfa hp7 hn9 hq c10 hk hS hc hw hv hp (by rw [hlen]; exact ⟨hz0, z2⟩) (lnn hz0) he (by omega) (by rw [hlen]; exact hi) ?_
      exact ⟨_, rfl, ⟨_, m0 _⟩, c_X12_walk_ix hg hcs (m0 _) (hmN.off (by decide)) (m52 _) (m53 _) (m54 _) hk e1 ⟨z1, z2⟩ hw hv hn0 hz0 he2 (by omega) hi ⟨rfl, ⟨_, tr, du, lw, fC, fC, pl, n, q, cs, G, ad, z, la, ce, ro, rb, hok, (hC.u0).off (by decide), (hR.off (by decide)).u31 (Nat.le_refl _)⟩⟩⟩
    obtain ⟨ii, hii, rfl⟩ : ∃ ii : Nat, (ii : Int) = c.toInt ∧ c = nI ii := ⟨c.toInt.toNat, by omega, (toN (by omega)).1⟩
    obtain ⟨m, hmm, rfl⟩ : ∃ m : Nat, (m : Int) = n9.toInt ∧ n9 = nI m := ⟨n9.toInt.toNat, by omega, (toN (by omega)).1⟩
    rw [← hii, ← hmm] at hi
    have hiz := hi.2
    clear hi hs hii hmm
    have hl60 : 0 ≤ len.toInt ∧ len.toInt ≤ 60 := by rw [hlen]; exact ⟨hz0, z2⟩
    by_cases hm : m ≤ 12
    case neg =>
      refine c_X11_walk_big c0 hA hfa hp7 hn9 hq c10 hk hS hc hw hv hp hl60 (by rw [hlen]; exact hiz) (lnn hz0) he (by omega) ?_
      exact ⟨_, rfl, ⟨_, m0 _⟩, c_X12_walk_big hg hcs (m0 _) (hmN.off (by decide)) (m52 _) (m53 _) (m54 _) hk e1 ⟨z1, z2⟩ hw hv hn0 hz0 he2 hiz (by omega) ⟨rfl, ⟨_, tr, du, lw, fC, fC, pl, n, q, cs, G, ad, z, la, ce, ro, rb, hok, (hC.u0).off (by decide), (hR.off (by decide)).u31 (Nat.le_refl _)⟩⟩⟩
    obtain ⟨x1, x2, x3, x4, x5, x6, h14⟩ := hcX.1 0 (by decide)
    have h14 : S[14]? = some (wkc x1 x2 x3 x4 x5 x6) := h14
    obtain ⟨rw0, s44⟩ := hmX.2.1
    obtain ⟨sa, hA11, hsa11⟩ := hcT
    have hE : ∀ y, y < m → f (ii + y) = fc (60 * k + ii + y) := fun y hy => by rw [hce (ii + y) (by omega), Nat.add_assoc, e3 (ii + y) (by omega)]
    have hrr : ∀ y, y < m → rc (fun y => f (ii + y)) y = rc (fun y => fc (60 * k + ii + y)) y := fun y hy => by simp only [rc]; rw [hE y hy]
    have hpc := fun x (hx : x ≤ m) => paN_congr (G := G) (cs := cs) x (fun y hy => hrr y (Nat.lt_of_lt_of_le hy hx))
    have hp0 : 0 < pl := Nat.pos_of_ne_zero hp
    obtain ⟨u, hu, rfl⟩ : ∃ u, u < 4 ∧ v = nI u := ⟨v.toInt.toNat, by omega, (toN hv.1).1⟩
    have hTE := sumN_congr (f := fun x => tk G fC.toInt (rc (fun y => f (ii + y)) x)) (g := fun x => tk G fC.toInt (rc (fun y => fc (60 * k + ii + y)) x)) m (fun y hy => by rw [hrr y hy])
    have hGE := goN_congr m hrr
    rcases (show u = 0 ∨ u = 1 ∨ u = 2 ∨ u = 3 by omega) with rfl | rfl | rfl | rfl
    · refine c_X11_walk_0 c0 hA hfa hp7 hn9 hq c10 hg hA11 hsa11 hcN hk hS hc hl60 (by rw [hlen]; exact hiz) (lnn hz0) he h14  hw hp hlw hdu hm (fun x hx hxn => ?_) (fun x p c hx hin h1 h2 => ?_) (fun p hin h1 => ?_)
      · refine ⟨_, rfl, ⟨_, m0 _⟩, ?_⟩
        exact c_X12_walk_0 hg hcs (m0 _) (hmN.off (by decide)) (m52 _) (m53 _) (m54 _) hk e1 ⟨z1, z2⟩  hw hn0 hz0 he2 hiz (gn (by decide) s44) hp0 hdu hm (fun g x _ _ => ⟨rfl, ⟨_, tr, du, lw, fC, fC, pl, n, q, cs, G, ad, z, la, ce, ro, rb, hok, ((hC.u0).off (by decide)).off (by decide), ((hR.off (by decide)).u44).u31 (Nat.le_refl _)⟩⟩) (fun g x2 p hx2 hin _ _ => absurd (hin x hx) (by rw [← hE x hx]; exact hxn)) (fun g p hin _ _ => absurd (hin x hx) (by rw [← hE x hx]; exact hxn))
      · have g : ∀ (x : Nat) (c2 : aE), 30 < x → S[x]? = some c2 → ((S.set 0 (co 0)).set 14 (WKC G n fC.toInt (rc (fun y => f (ii + y))) p c))[x]? = some c2 := fun x c hx h => gn (by omega) (gn (by omega) h)
        refine ⟨_, rfl, ⟨_, g 31 _ (by decide) m31⟩, ?_⟩
        rw [hpc x (by omega)] at h1
        rw [hrr x hx] at h2
        refine c_X12_walk_0 hg hcs (g 31 _ (by decide) m31) ((hmN.off (by decide)).off (by decide)) (g 52 _ (by decide) s52) (g 53 _ (by decide) s53) (g 54 _ (by decide) s54) hk e1 ⟨z1, z2⟩  hw hn0 hz0 he2 hiz (g 44 _ (by decide) s44) hp0 hdu hm (fun g x2 hx2 hxn => absurd (hin x2 hx2) (by rw [hE x2 hx2]; exact hxn)) (fun g x2 p2 hx2 _ h3 h4 => ?_) (fun g p2 _ _ h3 => absurd (paN_stop h1 h2 h3) (by omega))
        obtain rfl : x = x2 := Nat.le_antisymm (paN_stop h3 h4 h1) (paN_stop h1 h2 h3)
        exact ⟨rfl, ⟨_, tr, du, lw, fC, fC, pl, n, q, cs, G, ad, z, la, ce, ro, rb, hok, (((hC.u0).u14).off (by decide)).off (by decide), (((hR.off (by decide)).off (by decide)).u44).u31 (Nat.le_refl _)⟩⟩
      · have g : ∀ (x : Nat) (c2 : aE), 30 < x → S[x]? = some c2 → ((S.set 0 (co 0)).set 14 (WKC G n fC.toInt (rc (fun y => f (ii + y))) p m))[x]? = some c2 := fun x c hx h => gn (by omega) (gn (by omega) h)
        refine ⟨_, rfl, ⟨_, g 31 _ (by decide) m31⟩, ?_⟩
        rw [hpc m (Nat.le_refl _)] at h1
        refine c_X12_walk_0 hg hcs (g 31 _ (by decide) m31) ((hmN.off (by decide)).off (by decide)) (g 52 _ (by decide) s52) (g 53 _ (by decide) s53) (g 54 _ (by decide) s54) hk e1 ⟨z1, z2⟩  hw hn0 hz0 he2 hiz (g 44 _ (by decide) s44) hp0 hdu hm (fun g x2 hx2 hxn => absurd (hin x2 hx2) (by rw [hE x2 hx2]; exact hxn)) (fun g x2 p2 hx2 _ h3 h4 => absurd (paN_stop h3 h4 h1) (by omega)) (fun g p2 _ _ h3 => ⟨?_, ⟨_, tr, du, lw, fC, fC, pl, n, q, cs, G, ad, z, la, ce, ro, rb, hok, (((hC.u0).u14).off (by decide)).off (by decide), (((hR.off (by decide)).off (by decide)).u44).u31 (Nat.le_refl _)⟩⟩)
        rw [h1] at h3; cases h3; rfl
    · refine c_X11_walk_1 c0 hA hfa hp7 hn9 hq c10 hg hA11 hsa11 hcN hk hS hc hl60 (by rw [hlen]; exact hiz) (lnn hz0) he h14  hw hp hlw hdu hm (fun x hx hxn => ?_) (fun x p c hx hin h1 h2 => ?_) (fun p hin h1 => ?_)
      · refine ⟨_, rfl, ⟨_, m0 _⟩, ?_⟩
        exact c_X12_walk_1 hg hcs (m0 _) (hmN.off (by decide)) (m52 _) (m53 _) (m54 _) hk e1 ⟨z1, z2⟩  hw hn0 hz0 he2 hiz (gn (by decide) s44) hp0 hdu hm (fun g x _ _ => ⟨rfl, ⟨_, tr, du, lw, fC, fC, pl, n, q, cs, G, ad, z, la, ce, ro, rb, hok, ((hC.u0).off (by decide)).off (by decide), ((hR.off (by decide)).u44).u31 (Nat.le_refl _)⟩⟩) (fun g x2 p hx2 hin _ _ => absurd (hin x hx) (by rw [← hE x hx]; exact hxn)) (fun g p hin _ _ => absurd (hin x hx) (by rw [← hE x hx]; exact hxn))
      · have g : ∀ (x : Nat) (c2 : aE), 30 < x → S[x]? = some c2 → ((S.set 0 (co 0)).set 14 (WKC G n fC.toInt (rc (fun y => f (ii + y))) p c))[x]? = some c2 := fun x c hx h => gn (by omega) (gn (by omega) h)
        refine ⟨_, rfl, ⟨_, g 31 _ (by decide) m31⟩, ?_⟩
        rw [hpc x (by omega)] at h1
        rw [hrr x hx] at h2
        refine c_X12_walk_1 hg hcs (g 31 _ (by decide) m31) ((hmN.off (by decide)).off (by decide)) (g 52 _ (by decide) s52) (g 53 _ (by decide) s53) (g 54 _ (by decide) s54) hk e1 ⟨z1, z2⟩  hw hn0 hz0 he2 hiz (g 44 _ (by decide) s44) hp0 hdu hm (fun g x2 hx2 hxn => absurd (hin x2 hx2) (by rw [hE x2 hx2]; exact hxn)) (fun g x2 p2 hx2 _ h3 h4 => ?_) (fun g p2 _ _ h3 => absurd (paN_stop h1 h2 h3) (by omega))
        obtain rfl : x = x2 := Nat.le_antisymm (paN_stop h3 h4 h1) (paN_stop h1 h2 h3)
        exact ⟨rfl, ⟨_, tr, du, lw, fC, fC, pl, n, q, cs, G, ad, z, la, ce, ro, rb, hok, (((hC.u0).u14).off (by decide)).off (by decide), (((hR.off (by decide)).off (by decide)).u44).u31 (Nat.le_refl _)⟩⟩
      · have g : ∀ (x : Nat) (c2 : aE), 30 < x → S[x]? = some c2 → ((S.set 0 (co 0)).set 14 (WKC G n fC.toInt (rc (fun y => f (ii + y))) p m))[x]? = some c2 := fun x c hx h => gn (by omega) (gn (by omega) h)
        refine ⟨_, rfl, ⟨_, g 31 _ (by decide) m31⟩, ?_⟩
        rw [hpc m (Nat.le_refl _)] at h1
        refine c_X12_walk_1 hg hcs (g 31 _ (by decide) m31) ((hmN.off (by decide)).off (by decide)) (g 52 _ (by decide) s52) (g 53 _ (by decide) s53) (g 54 _ (by decide) s54) hk e1 ⟨z1, z2⟩  hw hn0 hz0 he2 hiz (g 44 _ (by decide) s44) hp0 hdu hm (fun g x2 hx2 hxn => absurd (hin x2 hx2) (by rw [hE x2 hx2]; exact hxn)) (fun g x2 p2 hx2 _ h3 h4 => absurd (paN_stop h3 h4 h1) (by omega)) (fun g p2 _ _ h3 => ⟨?_, ⟨_, tr, du, lw, fC, fC, pl, n, q, cs, G, ad, z, la, ce, ro, rb, hok, (((hC.u0).u14).off (by decide)).off (by decide), (((hR.off (by decide)).off (by decide)).u44).u31 (Nat.le_refl _)⟩⟩)
        rw [hTE]
    · refine c_X11_walk_2 c0 hA hfa hp7 hn9 hq c10 hg hA11 hsa11 hcN hk hS hc hl60 (by rw [hlen]; exact hiz) (lnn hz0) he h14  hw hp hlw hdu hm (fun x hx hxn => ?_) (fun x p c hx hin h1 h2 => ?_) (fun p hin h1 => ?_)
      · refine ⟨_, rfl, ⟨_, m0 _⟩, ?_⟩
        exact c_X12_walk_2 hg hcs (m0 _) (hmN.off (by decide)) (m52 _) (m53 _) (m54 _) hk e1 ⟨z1, z2⟩  hw hn0 hz0 he2 hiz (gn (by decide) s44) hp0 hdu hm (fun g x _ _ => ⟨rfl, ⟨_, tr, du, lw, fC, fC, pl, n, q, cs, G, ad, z, la, ce, ro, rb, hok, ((hC.u0).off (by decide)).off (by decide), ((hR.off (by decide)).u44).u31 (Nat.le_refl _)⟩⟩) (fun g x2 p hx2 hin _ _ => absurd (hin x hx) (by rw [← hE x hx]; exact hxn)) (fun g p hin _ _ => absurd (hin x hx) (by rw [← hE x hx]; exact hxn))
      · have g : ∀ (x : Nat) (c2 : aE), 30 < x → S[x]? = some c2 → ((S.set 0 (co 0)).set 14 (WKC G n fC.toInt (rc (fun y => f (ii + y))) p c))[x]? = some c2 := fun x c hx h => gn (by omega) (gn (by omega) h)
        refine ⟨_, rfl, ⟨_, g 31 _ (by decide) m31⟩, ?_⟩
        rw [hpc x (by omega)] at h1
        rw [hrr x hx] at h2
        refine c_X12_walk_2 hg hcs (g 31 _ (by decide) m31) ((hmN.off (by decide)).off (by decide)) (g 52 _ (by decide) s52) (g 53 _ (by decide) s53) (g 54 _ (by decide) s54) hk e1 ⟨z1, z2⟩  hw hn0 hz0 he2 hiz (g 44 _ (by decide) s44) hp0 hdu hm (fun g x2 hx2 hxn => absurd (hin x2 hx2) (by rw [hE x2 hx2]; exact hxn)) (fun g x2 p2 hx2 _ h3 h4 => ?_) (fun g p2 _ _ h3 => absurd (paN_stop h1 h2 h3) (by omega))
        obtain rfl : x = x2 := Nat.le_antisymm (paN_stop h3 h4 h1) (paN_stop h1 h2 h3)
        exact ⟨rfl, ⟨_, tr, du, lw, fC, fC, pl, n, q, cs, G, ad, z, la, ce, ro, rb, hok, (((hC.u0).u14).off (by decide)).off (by decide), (((hR.off (by decide)).off (by decide)).u44).u31 (Nat.le_refl _)⟩⟩
      · have g : ∀ (x : Nat) (c2 : aE), 30 < x → S[x]? = some c2 → ((S.set 0 (co 0)).set 14 (WKC G n fC.toInt (rc (fun y => f (ii + y))) p m))[x]? = some c2 := fun x c hx h => gn (by omega) (gn (by omega) h)
        refine ⟨_, rfl, ⟨_, g 31 _ (by decide) m31⟩, ?_⟩
        rw [hpc m (Nat.le_refl _)] at h1
        refine c_X12_walk_2 hg hcs (g 31 _ (by decide) m31) ((hmN.off (by decide)).off (by decide)) (g 52 _ (by decide) s52) (g 53 _ (by decide) s53) (g 54 _ (by decide) s54) hk e1 ⟨z1, z2⟩  hw hn0 hz0 he2 hiz (g 44 _ (by decide) s44) hp0 hdu hm (fun g x2 hx2 hxn => absurd (hin x2 hx2) (by rw [hE x2 hx2]; exact hxn)) (fun g x2 p2 hx2 _ h3 h4 => absurd (paN_stop h3 h4 h1) (by omega)) (fun g p2 _ _ h3 => ⟨?_, ⟨_, tr, du, lw, fC, fC, pl, n, q, cs, G, ad, z, la, ce, ro, rb, hok, (((hC.u0).u14).off (by decide)).off (by decide), (((hR.off (by decide)).off (by decide)).u44).u31 (Nat.le_refl _)⟩⟩)
        rw [hGE]
    · refine c_X11_walk_3 c0 hA hfa hp7 hn9 hq c10 hg hA11 hsa11 hcN hk hS hc hl60 (by rw [hlen]; exact hiz) (lnn hz0) he h14  hw hp hlw hdu hm (fun x hx hxn => ?_) (fun x p c hx hin h1 h2 => ?_) (fun p hin h1 => ?_)
      · refine ⟨_, rfl, ⟨_, m0 _⟩, ?_⟩
        exact c_X12_walk_3 hg hcs (m0 _) (hmN.off (by decide)) (m52 _) (m53 _) (m54 _) hk e1 ⟨z1, z2⟩  hw hn0 hz0 he2 hiz (gn (by decide) s44) hp0 hdu hm (fun g x _ _ => ⟨rfl, ⟨_, tr, du, lw, fC, fC, pl, n, q, cs, G, ad, z, la, ce, ro, rb, hok, ((hC.u0).off (by decide)).off (by decide), ((hR.off (by decide)).u44).u31 (Nat.le_refl _)⟩⟩) (fun g x2 p hx2 hin _ _ => absurd (hin x hx) (by rw [← hE x hx]; exact hxn)) (fun g p hin _ _ => absurd (hin x hx) (by rw [← hE x hx]; exact hxn))
      · have g : ∀ (x : Nat) (c2 : aE), 30 < x → S[x]? = some c2 → ((S.set 0 (co 0)).set 14 (WKC G n fC.toInt (rc (fun y => f (ii + y))) p c))[x]? = some c2 := fun x c hx h => gn (by omega) (gn (by omega) h)
        refine ⟨_, rfl, ⟨_, g 31 _ (by decide) m31⟩, ?_⟩
        rw [hpc x (by omega)] at h1
        rw [hrr x hx] at h2
        refine c_X12_walk_3 hg hcs (g 31 _ (by decide) m31) ((hmN.off (by decide)).off (by decide)) (g 52 _ (by decide) s52) (g 53 _ (by decide) s53) (g 54 _ (by decide) s54) hk e1 ⟨z1, z2⟩  hw hn0 hz0 he2 hiz (g 44 _ (by decide) s44) hp0 hdu hm (fun g x2 hx2 hxn => absurd (hin x2 hx2) (by rw [hE x2 hx2]; exact hxn)) (fun g x2 p2 hx2 _ h3 h4 => ?_) (fun g p2 _ _ h3 => absurd (paN_stop h1 h2 h3) (by omega))
        obtain rfl : x = x2 := Nat.le_antisymm (paN_stop h3 h4 h1) (paN_stop h1 h2 h3)
        exact ⟨rfl, ⟨_, tr, du, lw, fC, fC, pl, n, q, cs, G, ad, z, la, ce, ro, rb, hok, (((hC.u0).u14).off (by decide)).off (by decide), (((hR.off (by decide)).off (by decide)).u44).u31 (Nat.le_refl _)⟩⟩
      · have g : ∀ (x : Nat) (c2 : aE), 30 < x → S[x]? = some c2 → ((S.set 0 (co 0)).set 14 (WKC G n fC.toInt (rc (fun y => f (ii + y))) p m))[x]? = some c2 := fun x c hx h => gn (by omega) (gn (by omega) h)
        refine ⟨_, rfl, ⟨_, g 31 _ (by decide) m31⟩, ?_⟩
        rw [hpc m (Nat.le_refl _)] at h1
        refine c_X12_walk_3 hg hcs (g 31 _ (by decide) m31) ((hmN.off (by decide)).off (by decide)) (g 52 _ (by decide) s52) (g 53 _ (by decide) s53) (g 54 _ (by decide) s54) hk e1 ⟨z1, z2⟩  hw hn0 hz0 he2 hiz (g 44 _ (by decide) s44) hp0 hdu hm (fun g x2 hx2 hxn => absurd (hin x2 hx2) (by rw [hE x2 hx2]; exact hxn)) (fun g x2 p2 hx2 _ h3 h4 => absurd (paN_stop h3 h4 h1) (by omega)) (fun g p2 _ _ h3 => ⟨?_, ⟨_, tr, du, lw, fC, fC, pl, n, q, cs, G, ad, z, la, ce, ro, rb, hok, (((hC.u0).u14).off (by decide)).off (by decide), (((hR.off (by decide)).off (by decide)).u44).u31 (Nat.le_refl _)⟩⟩)
        rw [hTE, hGE, Int32.add_comm]
  · refine c_X11_walk_unk c0 hx ?_
    exact ⟨_, rfl, ⟨_, gn (by decide) m31⟩, c_X12_walk_unk hg hcs (gn (by decide) m31) (hmN.off (by decide)) hx ⟨rfl, ⟨_, tr, du, lw, fC, fR, pl, n, q, cs, G, ad, z, la, ce, ro, rb, hok, (hC.u0).off (by decide), (hR.off (by decide)).u31 (Nat.le_refl _)⟩⟩⟩

set_option maxHeartbeats 4000000 in
set_option maxRecDepth 100000 in
theorem p_safe : P_safe := by
  intro S hST a b c n9 v d
  obtain ⟨flt, tr, du, lw, fC, fR, pl, n, q, cs, G, ad, z, la, ce, ro, rb, hok, hC, hR⟩ := hST
  obtain ⟨hg, hnp, hq, hcs, hdu, hlw, hf, hro, hn8⟩ := id hok
  obtain ⟨c0, hcA, hcS, c10, hcT, hcR, hcN, hcX, c30⟩ := id hC
  obtain ⟨⟨ra, rp, rs, ea, dp, bm, bi, m31⟩, hmN, hmR, hmS, hmX⟩ := id hR
  have hp7 := hg.1
  have hn9 := hg.2.1
  by_cases hx : 0 ≤ a.toInt ∧ a.toInt ≤ 3
  · obtain ⟨k, hk, rfl⟩ : ∃ k, k < 4 ∧ a = nI k := ⟨a.toInt.toNat, by omega, (toN hx.1).1⟩
    clear hx
    obtain ⟨fa, hA, hfa⟩ := hcA
    obtain ⟨z1, z2, l1, ln, len, f, hS, hc, hneg, hpos, hce⟩ := hcS k hk
    obtain ⟨fs, fl, fc, s52, s53, s54, hsa⟩ := id hmS
    obtain ⟨e1, -, -, -, e2, e3⟩ := hsa k hk
    have s55 := hmX.2.2.2.2.2.2.2
    obtain ⟨fh, s55⟩ := s55
    have m0 : ∀ e, (S.set 0 (co e))[31]? = some (mo flt (nI pl) (nI n) du lw fR (nI cs) ra rp rs ea dp bm bi (nI q) tr) := fun e => gn (by decide) m31
    have m52 : ∀ e, (S.set 0 (co e))[52]? = some (iA 4 fs) := fun e => gn (by decide) s52
    have m53 : ∀ e, (S.set 0 (co e))[53]? = some (iA 4 fl) := fun e => gn (by decide) s53
    have m54 : ∀ e, (S.set 0 (co e))[54]? = some (iA 240 fc) := fun e => gn (by decide) s54
    have lnn : ∀ h : 0 ≤ z k, ¬ ln = -1 := fun h => by rw [(hpos h).1]; exact nI_nm l1
    by_cases hw : 0 ≤ b.toInt ∧ b.toInt ≤ 2
    case neg =>
      refine c_X11_safe_lane c0 hA hfa hk hw ?_
      exact ⟨_, rfl, ⟨_, m0 _⟩, c_X12_safe_lane hg hcs (m0 _) (hmN.off (by decide)) hk hw ⟨rfl, ⟨_, tr, du, lw, fC, fR, pl, n, q, cs, G, ad, z, la, ce, ro, rb, hok, (hC.u0).off (by decide), (hR.off (by decide)).u31 (Nat.le_refl _)⟩⟩⟩
    by_cases hv : 0 ≤ v.toInt ∧ v.toInt ≤ 1
    case neg =>
      refine c_X11_safe_what c0 hA hfa hk hw hv ?_
      exact ⟨_, rfl, ⟨_, m0 _⟩, c_X12_safe_what hg hcs (m0 _) (hmN.off (by decide)) hk hw hv ⟨rfl, ⟨_, tr, du, lw, fC, fR, pl, n, q, cs, G, ad, z, la, ce, ro, rb, hok, (hC.u0).off (by decide), (hR.off (by decide)).u31 (Nat.le_refl _)⟩⟩⟩
    by_cases hn0 : n = 0
    · refine c_X11_safe_none c0 hA hfa hp7 hn9 hq c10 hk hw hv (hnp.mp hn0) ?_
      exact ⟨_, rfl, ⟨_, m0 _⟩, c_X12_safe_none hg hcs (m0 _) (hmN.off (by decide)) hk hw hv hn0 ⟨rfl, ⟨_, tr, du, lw, fC, fR, pl, n, q, cs, G, ad, z, la, ce, ro, rb, hok, (hC.u0).off (by decide), (hR.off (by decide)).u31 (Nat.le_refl _)⟩⟩⟩
    have hp : ¬ pl = 0 := fun z => hn0 (hnp.mpr z)
    obtain rfl := hf hn0
    by_cases hz : z k < 0
    · refine c_X11_safe_n c0 hA hfa hp7 hn9 hq c10 hk hS hc hw hv hp (hneg hz) ?_
      exact ⟨_, rfl, ⟨_, m0 _⟩, c_X12_safe_n hg hcs (m0 _) (hmN.off (by decide)) (m52 _) (m53 _) (m54 _) hk e1 ⟨z1, z2⟩ hw hv hn0 hz ⟨rfl, ⟨_, tr, du, lw, fC, fC, pl, n, q, cs, G, ad, z, la, ce, ro, rb, hok, (hC.u0).off (by decide), (hR.off (by decide)).u31 (Nat.le_refl _)⟩⟩⟩
    have hz0 : 0 ≤ z k := by omega
    have hla := (hpos hz0).1
    have hlb := e2 hz0
    have hlen := (hpos hz0).2
    by_cases he : ln = b
    case neg =>
      refine c_X11_safe_cast c0 hA hfa hp7 hn9 hq c10 hk hS hc hw hv hp (lnn hz0) he ?_
      exact ⟨_, rfl, ⟨_, m0 _⟩, c_X12_safe_cast hg hcs (m0 _) (hmN.off (by decide)) (m52 _) (m53 _) (m54 _) hk e1 ⟨z1, z2⟩ hw hv hn0 hz0 (by rw [hlb, ← hla]; exact he) ⟨rfl, ⟨_, tr, du, lw, fC, fC, pl, n, q, cs, G, ad, z, la, ce, ro, rb, hok, (hC.u0).off (by decide), (hR.off (by decide)).u31 (Nat.le_refl _)⟩⟩⟩
    have he2 : fl k = b := by rw [hlb, ← hla, he]
    by_cases hs : n9.toInt < 0
    · refine c_X11_safe_size c0 hA hfa hp7 hn9 hq c10 hk hS hc hw hv hp (lnn hz0) he hs ?_
      exact ⟨_, rfl, ⟨_, m0 _⟩, c_X12_safe_size hg hcs (m0 _) (hmN.off (by decide)) (m52 _) (m53 _) (m54 _) hk e1 ⟨z1, z2⟩ hw hv hn0 hz0 he2 hs ⟨rfl, ⟨_, tr, du, lw, fC, fC, pl, n, q, cs, G, ad, z, la, ce, ro, rb, hok, (hC.u0).off (by decide), (hR.off (by decide)).u31 (Nat.le_refl _)⟩⟩⟩
    by_cases hi : 0 ≤ c.toInt ∧ c.toInt + n9.toInt ≤ z k
    case neg =>
      refine c_X11_safe_ix c0 hA hfa hp7 hn9 hq c10 hk hS hc hw hv hp (by rw [hlen]; exact ⟨hz0, z2⟩) (lnn hz0) he (by omega) (by rw [hlen]; exact hi) ?_
      exact ⟨_, rfl, ⟨_, m0 _⟩, c_X12_safe_ix hg hcs (m0 _) (hmN.off (by decide)) (m52 _) (m53 _) (m54 _) hk e1 ⟨z1, z2⟩ hw hv hn0 hz0 he2 (by omega) hi ⟨rfl, ⟨_, tr, du, lw, fC, fC, pl, n, q, cs, G, ad, z, la, ce, ro, rb, hok, (hC.u0).off (by decide), (hR.off (by decide)).u31 (Nat.le_refl _)⟩⟩⟩
    obtain ⟨ii, hii, rfl⟩ : ∃ ii : Nat, (ii : Int) = c.toInt ∧ c = nI ii := ⟨c.toInt.toNat, by omega, (toN (by omega)).1⟩
    obtain ⟨m, hmm, rfl⟩ : ∃ m : Nat, (m : Int) = n9.toInt ∧ n9 = nI m := ⟨n9.toInt.toNat, by omega, (toN (by omega)).1⟩
    rw [← hii, ← hmm] at hi
    have hiz := hi.2
    clear hi hs hii hmm
    have hl60 : 0 ≤ len.toInt ∧ len.toInt ≤ 60 := by rw [hlen]; exact ⟨hz0, z2⟩
    by_cases hm : m ≤ 12
    case neg =>
      refine c_X11_safe_big c0 hA hfa hp7 hn9 hq c10 hk hS hc hw hv hp hl60 (by rw [hlen]; exact hiz) (lnn hz0) he (by omega) ?_
      exact ⟨_, rfl, ⟨_, m0 _⟩, c_X12_safe_big hg hcs (m0 _) (hmN.off (by decide)) (m52 _) (m53 _) (m54 _) hk e1 ⟨z1, z2⟩ hw hv hn0 hz0 he2 hiz (by omega) ⟨rfl, ⟨_, tr, du, lw, fC, fC, pl, n, q, cs, G, ad, z, la, ce, ro, rb, hok, (hC.u0).off (by decide), (hR.off (by decide)).u31 (Nat.le_refl _)⟩⟩⟩
    obtain ⟨x1, x2, x3, x4, x5, x6, h14⟩ := hcX.1 0 (by decide)
    have h14 : S[14]? = some (wkc x1 x2 x3 x4 x5 x6) := h14
    obtain ⟨rw0, s44⟩ := hmX.2.1
    obtain ⟨sa, hA11, hsa11⟩ := hcT
    have hE : ∀ y, y < m → f (ii + y) = fc (60 * k + ii + y) := fun y hy => by rw [hce (ii + y) (by omega), Nat.add_assoc, e3 (ii + y) (by omega)]
    have hrr : ∀ y, y < m → rc (fun y => f (ii + y)) y = rc (fun y => fc (60 * k + ii + y)) y := fun y hy => by simp only [rc]; rw [hE y hy]
    have hpc := fun x (hx : x ≤ m) => paN_congr (G := G) (cs := cs) x (fun y hy => hrr y (Nat.lt_of_lt_of_le hy hx))
    have hp0 : 0 < pl := Nat.pos_of_ne_zero hp
    have hPE := prodN_congr (f := fun x => tn G fC.toInt (rc (fun y => f (ii + y)) x)) (g := fun x => tn G fC.toInt (rc (fun y => fc (60 * k + ii + y)) x)) m (fun y hy => by rw [hrr y hy])
    refine c_X11_safe_o c0 hA hfa hp7 hn9 hq c10 hg hA11 hsa11 hcN hk hS hc hl60 (by rw [hlen]; exact hiz) (lnn hz0) he h14 hv hw hp hlw hdu hm (fun x hx hxn => ?_) (fun x p c hx hin h1 h2 => ?_) (fun p hin h1 => ?_)
    · refine ⟨_, rfl, ⟨_, m0 _⟩, ?_⟩
      exact c_X12_safe_o hg hcs (m0 _) (hmN.off (by decide)) (m52 _) (m53 _) (m54 _) hk e1 ⟨z1, z2⟩ hv hw hn0 hz0 he2 hiz (gn (by decide) s44) hp0 hdu hm (fun g x _ _ => ⟨rfl, ⟨_, tr, du, lw, fC, fC, pl, n, q, cs, G, ad, z, la, ce, ro, rb, hok, ((hC.u0).off (by decide)).off (by decide), ((hR.off (by decide)).u44).u31 (Nat.le_refl _)⟩⟩) (fun g x2 p hx2 hin _ _ => absurd (hin x hx) (by rw [← hE x hx]; exact hxn)) (fun g p hin _ _ => absurd (hin x hx) (by rw [← hE x hx]; exact hxn))
    · have g : ∀ (x : Nat) (c2 : aE), 30 < x → S[x]? = some c2 → ((S.set 0 (co 0)).set 14 (WKC G n fC.toInt (rc (fun y => f (ii + y))) p c))[x]? = some c2 := fun x c hx h => gn (by omega) (gn (by omega) h)
      refine ⟨_, rfl, ⟨_, g 31 _ (by decide) m31⟩, ?_⟩
      rw [hpc x (by omega)] at h1
      rw [hrr x hx] at h2
      refine c_X12_safe_o hg hcs (g 31 _ (by decide) m31) ((hmN.off (by decide)).off (by decide)) (g 52 _ (by decide) s52) (g 53 _ (by decide) s53) (g 54 _ (by decide) s54) hk e1 ⟨z1, z2⟩ hv hw hn0 hz0 he2 hiz (g 44 _ (by decide) s44) hp0 hdu hm (fun g x2 hx2 hxn => absurd (hin x2 hx2) (by rw [hE x2 hx2]; exact hxn)) (fun g x2 p2 hx2 _ h3 h4 => ?_) (fun g p2 _ _ h3 => absurd (paN_stop h1 h2 h3) (by omega))
      obtain rfl : x = x2 := Nat.le_antisymm (paN_stop h3 h4 h1) (paN_stop h1 h2 h3)
      exact ⟨rfl, ⟨_, tr, du, lw, fC, fC, pl, n, q, cs, G, ad, z, la, ce, ro, rb, hok, (((hC.u0).u14).off (by decide)).off (by decide), (((hR.off (by decide)).off (by decide)).u44).u31 (Nat.le_refl _)⟩⟩
    · have g : ∀ (x : Nat) (c2 : aE), 30 < x → S[x]? = some c2 → ((S.set 0 (co 0)).set 14 (WKC G n fC.toInt (rc (fun y => f (ii + y))) p m))[x]? = some c2 := fun x c hx h => gn (by omega) (gn (by omega) h)
      refine ⟨_, rfl, ⟨_, g 31 _ (by decide) m31⟩, ?_⟩
      rw [hpc m (Nat.le_refl _)] at h1
      refine c_X12_safe_o hg hcs (g 31 _ (by decide) m31) ((hmN.off (by decide)).off (by decide)) (g 52 _ (by decide) s52) (g 53 _ (by decide) s53) (g 54 _ (by decide) s54) hk e1 ⟨z1, z2⟩ hv hw hn0 hz0 he2 hiz (g 44 _ (by decide) s44) hp0 hdu hm (fun g x2 hx2 hxn => absurd (hin x2 hx2) (by rw [hE x2 hx2]; exact hxn)) (fun g x2 p2 hx2 _ h3 h4 => absurd (paN_stop h3 h4 h1) (by omega)) (fun g p2 _ _ h3 => ⟨?_, ⟨_, tr, du, lw, fC, fC, pl, n, q, cs, G, ad, z, la, ce, ro, rb, hok, (((hC.u0).u14).off (by decide)).off (by decide), (((hR.off (by decide)).off (by decide)).u44).u31 (Nat.le_refl _)⟩⟩)
      rw [hPE]
  · refine c_X11_safe_unk c0 hx ?_
    exact ⟨_, rfl, ⟨_, gn (by decide) m31⟩, c_X12_safe_unk hg hcs (gn (by decide) m31) (hmN.off (by decide)) hx ⟨rfl, ⟨_, tr, du, lw, fC, fR, pl, n, q, cs, G, ad, z, la, ce, ro, rb, hok, (hC.u0).off (by decide), (hR.off (by decide)).u31 (Nat.le_refl _)⟩⟩⟩

