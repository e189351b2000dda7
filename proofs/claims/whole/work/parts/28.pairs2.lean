def uz {α : Type} (f : Nat → α) (k : Nat) (v : α) : Nat → α := fun i => if i = k then v else f i
theorem uz_s {α : Type} (f : Nat → α) (k : Nat) (v : α) : uz f k v k = v := by simp [uz]
theorem uz_n {α : Type} (f : Nat → α) {k i : Nat} (v : α) (h : i ≠ k) : uz f k v i = f i := by simp [uz, h]
theorem upd_s (f : Nat → Int32) (k : Nat) (v : Int32) : upd f k v k = v := by simp [upd]
theorem upd_n (f : Nat → Int32) {k i : Nat} (v : Int32) (h : i ≠ k) : upd f k v i = f i := by simp [upd, h]
theorem nI_nm {l : Nat} (h : l ≤ 2) : ¬ nI l = -1 := by
  rcases (show l = 0 ∨ l = 1 ∨ l = 2 by omega) with rfl | rfl | rfl <;> decide
theorem iZm : iZ (-1) = -1 := by decide
theorem iZn {m : Nat} (h : m < 1000) : nI m = iZ (m : Int) := toZ (nIt (by omega))
theorem ST_sh {S S2 : aS} {flt tr du lw fC fR : Int32} {pl n q cs : Nat} {G : Nat → Nat → Nat} {ad : Nat → Nat} {z : Nat → Int} {la : Nat → Nat} {ce : Nat → Nat → Int32} {ro : Nat → Nat} {rb : Nat → Bool} (hok : OKs du lw fC fR pl n q cs G ro) (hC : CA S flt tr du lw fC pl n q cs G ad z la ce ro rb) (hR : RA S flt tr du lw fR pl n q cs G z la ce ro rb)
    {k : Nat} (hk : k < 4) {e ra rp rs ea dp bm : Int32} {bi : Int64} {ln len : Int32} {f fs fl fc fs0 fl0 fc0 : Nat → Int32} {z' : Int} {l' : Nat} {c' : Nat → Int32}
    (so : ∀ x c, x ≠ 0 → x ≠ 2 + 2 * k → x ≠ 3 + 2 * k → x ≠ 31 → x ≠ 52 → x ≠ 53 → x ≠ 54 → x ≠ 55 → S[x]? = some c → S2[x]? = some c)
    (h0 : S2[0]? = some (co e)) (hS : S2[2 + 2 * k]? = some (.inr (5, [.ref (3 + 2 * k), .int ln, .int len]))) (hc : S2[3 + 2 * k]? = some (iA 60 f))
    (h31 : S2[31]? = some (mo e (nI pl) (nI n) du lw fR (nI cs) ra rp rs ea dp bm bi (nI q) tr)) (h52 : S2[52]? = some (iA 4 fs)) (h53 : S2[53]? = some (iA 4 fl)) (h54 : S2[54]? = some (iA 240 fc)) (h55 : ∃ f, S2[55]? = some (iA 60 f))
    (hz : -1 ≤ z' ∧ z' ≤ 60) (hl : l' ≤ 2) (hneg : z' < 0 → ln = -1) (hpos : 0 ≤ z' → ln = nI l' ∧ len.toInt = z') (hf : ∀ i : Nat, (i : Int) < z' → f i = c' i)
    (hfs : fs k = iZ z') (hfl : 0 ≤ z' → fl k = nI l') (hfc : ∀ i : Nat, (i : Int) < z' → fc (60 * k + i) = c' i)
    (hs0 : ∀ k, k < 4 → fs0 k = iZ (z k) ∧ -1 ≤ z k ∧ z k ≤ 60 ∧ la k ≤ 2 ∧ (0 ≤ z k → fl0 k = nI (la k)) ∧ ∀ i : Nat, (i : Int) < z k → fc0 (60 * k + i) = ce k i)
    (ho : ∀ j, j < 4 → j ≠ k → fs j = fs0 j ∧ fl j = fl0 j ∧ ∀ i, i < 60 → fc (60 * j + i) = fc0 (60 * j + i)) : ST S2 := by
  refine ⟨e, tr, du, lw, fC, fR, pl, n, q, cs, G, ad, uz z k z', uz la k l', uz ce k c', ro, rb, hok, ?_, ?_⟩
  · obtain ⟨-, ⟨fa, A1, A2⟩, hcS, c10, ⟨sa, hA, hsa⟩, ⟨fo, fw, R1, R2, R3⟩, hcN, ⟨X1, ⟨x1, x2, x3, x4, x5, x6, x7, x8, x9, v, X2⟩, ⟨f3, X3, X3b⟩, ⟨f4, X4⟩, ⟨f5, X5⟩, X6, ⟨f7, X7⟩, X8, ⟨f9, X9⟩, f10, X10⟩, c30⟩ := hC
    have s1 : ∀ x c, 9 < x → x < 31 → S[x]? = some c → S2[x]? = some c := fun x c h1 h2 h => so x c (by omega) (by omega) (by omega) (by omega) (by omega) (by omega) (by omega) (by omega) h
    refine ⟨h0, ⟨fa, so 1 _ (by omega) (by omega) (by omega) (by omega) (by omega) (by omega) (by omega) (by omega) A1, A2⟩, fun j hj => ?_, s1 10 _ (by omega) (by omega) c10, ⟨sa, s1 11 _ (by omega) (by omega) hA, hsa⟩, ⟨fo, fw, s1 12 _ (by omega) (by omega) R1, s1 13 _ (by omega) (by omega) R2, R3⟩, fun j hj => ?_, ⟨fun j hj => ?_, ⟨x1, x2, x3, x4, x5, x6, x7, x8, x9, v, s1 15 _ (by omega) (by omega) X2⟩, ⟨f3, s1 16 _ (by omega) (by omega) X3, X3b⟩, ⟨f4, s1 23 _ (by omega) (by omega) X4⟩, ⟨f5, s1 24 _ (by omega) (by omega) X5⟩, s1 25 _ (by omega) (by omega) X6, ⟨f7, s1 26 _ (by omega) (by omega) X7⟩, s1 27 _ (by omega) (by omega) X8, ⟨f9, s1 28 _ (by omega) (by omega) X9⟩, f10, s1 29 _ (by omega) (by omega) X10⟩, s1 30 _ (by omega) (by omega) c30⟩
    · by_cases e : j = k
      · subst e
        rw [uz_s, uz_s, uz_s]
        exact ⟨hz.1, hz.2, hl, ln, len, f, hS, hc, hneg, hpos, hf⟩
      · rw [uz_n _ _ e, uz_n _ _ e, uz_n _ _ e]
        obtain ⟨a1, a2, a3, ln2, len2, f2, a4, a5, a6⟩ := hcS j hj
        exact ⟨a1, a2, a3, ln2, len2, f2, so _ _ (by omega) (by omega) (by omega) (by omega) (by omega) (by omega) (by omega) (by omega) a4, so _ _ (by omega) (by omega) (by omega) (by omega) (by omega) (by omega) (by omega) (by omega) a5, a6⟩
    · have := (hcN j hj).2.1
      exact ⟨so _ _ (by omega) (by omega) (by omega) (by omega) (by omega) (by omega) (by omega) (by omega) (hcN j hj).1, (hcN j hj).2⟩
    · obtain ⟨p, s, m, g, o, t, h⟩ := X1 j hj
      exact ⟨p, s, m, g, o, t, s1 _ _ (by split <;> omega) (by split <;> omega) h⟩
  · obtain ⟨-, hmN, ⟨fo, fw, r1, r2, r3⟩, -, ⟨Y1, ⟨y2, Y2⟩, ⟨y3, Y3⟩, ⟨y4, Y4⟩, ⟨y5, Y5⟩, ⟨y6, Y6⟩, ⟨y7, Y7⟩, -⟩⟩ := hR
    have s1 : ∀ x c, 31 < x → x < 52 → S[x]? = some c → S2[x]? = some c := fun x c h1 h2 h => so x c (by omega) (by omega) (by omega) (by omega) (by omega) (by omega) (by omega) (by omega) h
    refine ⟨⟨ra, rp, rs, ea, dp, bm, bi, h31⟩, fun f hf => ?_, ⟨fo, fw, s1 48 _ (by omega) (by omega) r1, s1 49 _ (by omega) (by omega) r2, r3⟩, ⟨fs, fl, fc, h52, h53, h54, fun j hj => ?_⟩, ⟨fun j hj => ?_, ⟨y2, s1 44 _ (by omega) (by omega) Y2⟩, ⟨y3, s1 45 _ (by omega) (by omega) Y3⟩, ⟨y4, s1 46 _ (by omega) (by omega) Y4⟩, ⟨y5, s1 47 _ (by omega) (by omega) Y5⟩, ⟨y6, s1 50 _ (by omega) (by omega) Y6⟩, ⟨y7, s1 51 _ (by omega) (by omega) Y7⟩, h55⟩⟩
    · obtain ⟨g, h1, h2⟩ := hmN f hf
      exact ⟨g, s1 _ _ (by omega) (by omega) h1, h2⟩
    · by_cases e : j = k
      · subst e
        rw [uz_s, uz_s, uz_s]
        exact ⟨hfs, hz.1, hz.2, hl, hfl, hfc⟩
      · rw [uz_n _ _ e, uz_n _ _ e, uz_n _ _ e]
        obtain ⟨a1, a2, a3, a4, a5, a6⟩ := hs0 j hj
        obtain ⟨b1, b2, b3⟩ := ho j hj e
        exact ⟨b1.trans a1, a2, a3, a4, fun h => b2.trans (a5 h), fun i hi => (b3 i (by omega)).trans (a6 i hi)⟩
    · obtain ⟨f, h⟩ := Y1 j hj
      exact ⟨f, s1 _ _ (by omega) (by omega) h⟩

set_option maxHeartbeats 4000000 in
set_option maxRecDepth 100000 in
theorem p_lose : P_lose := by
  intro S hST a d
  obtain ⟨flt, tr, du, lw, fC, fR, pl, n, q, cs, G, ad, z, la, ce, ro, rb, hok, hC, hR⟩ := hST
  obtain ⟨hg, hnp, hq, hcs, hdu, hlw, hf, hro, hn8⟩ := id hok
  obtain ⟨c0, hcA, hcS, c10, hcT, hcR, hcN, hcX, c30⟩ := id hC
  obtain ⟨⟨ra, rp, rs, ea, dp, bm, bi, m31⟩, hmN, hmR, hmS, hmX⟩ := id hR
  have hp7 := hg.1
  have hn9 := hg.2.1
  by_cases hx : 0 ≤ a.toInt ∧ a.toInt ≤ 3
  · obtain ⟨k, hk, rfl⟩ : ∃ k, k < 4 ∧ a = nI k := ⟨a.toInt.toNat, by omega, (toN hx.1).1⟩
    clear hx
    obtain ⟨fa, hA, hfa⟩ := hcA
    obtain ⟨z1, z2, l1, ln, len, f, hS, hc, hneg, hpos, hce⟩ := hcS k hk
    obtain ⟨fs, fl, fc, s52, s53, s54, hsa⟩ := id hmS
    obtain ⟨e1, -, -, -, e2, e3⟩ := hsa k hk
    have s55 := hmX.2.2.2.2.2.2.2
    obtain ⟨fh, s55⟩ := s55
    have m0 : ∀ e, (S.set 0 (co e))[31]? = some (mo flt (nI pl) (nI n) du lw fR (nI cs) ra rp rs ea dp bm bi (nI q) tr) := fun e => gn (by decide) m31
    have m52 : ∀ e, (S.set 0 (co e))[52]? = some (iA 4 fs) := fun e => gn (by decide) s52
    have m53 : ∀ e, (S.set 0 (co e))[53]? = some (iA 4 fl) := fun e => gn (by decide) s53
    have m54 : ∀ e, (S.set 0 (co e))[54]? = some (iA 240 fc) := fun e => gn (by decide) s54
    have lnn : ∀ h : 0 ≤ z k, ¬ ln = -1 := fun h => by rw [(hpos h).1]; exact nI_nm l1
    by_cases hz : z k < 0
    · refine c_X11_lose_n c0 hA hfa hk hS hc (hneg hz) ?_
      refine ⟨_, rfl, ⟨_, m31⟩, ?_⟩
      refine c_X12_lose_n m31 s52 s53 s54 hk e1 ⟨z1, z2⟩ hz ⟨rfl, ?_⟩
      exact ST_sh (S := S) hok hC hR hk (e := flt) (z' := -1) (l' := la k) (c' := ce k) (fun x c a0 a1 a2 a3 a4 a5 a6 a7 h => gn (by omega) (h)) (gn (by decide) c0) (gn (by omega) hS) (gn (by omega) hc) (gn (by decide) m31) (gs s52) (gn (by decide) s53) (gn (by decide) s54) ⟨fh, gn (by decide) s55⟩ (by omega) l1 (fun _ => hneg hz) (by omega) (by omega) (by rw [upd_s, iZm]) (by omega) (by omega) hsa (fun j hj hne => ⟨upd_n _ _ hne, rfl, fun _ _ => rfl⟩)
    · refine c_X11_lose_o c0 hA hfa hk hS hc (lnn (by omega)) ?_
      have g : ∀ x c, 30 < x → S[x]? = some c → (S.set (2 + 2 * k) (.inr (5, [.ref (3 + 2 * k), .int (-1), .int 0])))[x]? = some c := fun x c hx h => gn (by omega) h
      refine ⟨_, rfl, ⟨_, g 31 _ (by decide) m31⟩, ?_⟩
      refine c_X12_lose_o (g 31 _ (by decide) m31) (g 52 _ (by decide) s52) (g 53 _ (by decide) s53) (g 54 _ (by decide) s54) hk e1 ⟨z1, z2⟩ (by omega) ⟨rfl, ?_⟩
      exact ST_sh (S := S) hok hC hR hk (e := flt) (z' := -1) (l' := la k) (c' := ce k) (fun x c a0 a1 a2 a3 a4 a5 a6 a7 h => gn (by omega) (gn (by omega) (h))) (gn (by decide) (gn (by omega) c0)) (gn (by omega) (gs hS)) (gn (by omega) (gn (by omega) hc)) (gn (by decide) (g 31 _ (by decide) m31)) (gs (g 52 _ (by decide) s52)) (gn (by decide) (g 53 _ (by decide) s53)) (gn (by decide) (g 54 _ (by decide) s54)) ⟨fh, gn (by decide) (g 55 _ (by decide) s55)⟩ (by omega) l1 (fun _ => rfl) (by omega) (by omega) (by rw [upd_s, iZm]) (by omega) (by omega) hsa (fun j hj hne => ⟨upd_n _ _ hne, rfl, fun _ _ => rfl⟩)
  · refine c_X11_lose_unk c0 hx ?_
    exact ⟨_, rfl, ⟨_, m31⟩, c_X12_lose_unk m31 hx ⟨rfl, ⟨flt, tr, du, lw, fC, fR, pl, n, q, cs, G, ad, z, la, ce, ro, rb, hok, hC, hR⟩⟩⟩

set_option maxHeartbeats 4000000 in
set_option maxRecDepth 100000 in
theorem p_put : P_put := by
  intro S hST a b c d
  obtain ⟨flt, tr, du, lw, fC, fR, pl, n, q, cs, G, ad, z, la, ce, ro, rb, hok, hC, hR⟩ := hST
  obtain ⟨hg, hnp, hq, hcs, hdu, hlw, hf, hro, hn8⟩ := id hok
  obtain ⟨c0, hcA, hcS, c10, hcT, hcR, hcN, hcX, c30⟩ := id hC
  obtain ⟨⟨ra, rp, rs, ea, dp, bm, bi, m31⟩, hmN, hmR, hmS, hmX⟩ := id hR
  have hp7 := hg.1
  have hn9 := hg.2.1
  by_cases hx : 0 ≤ a.toInt ∧ a.toInt ≤ 3
  · obtain ⟨k, hk, rfl⟩ : ∃ k, k < 4 ∧ a = nI k := ⟨a.toInt.toNat, by omega, (toN hx.1).1⟩
    clear hx
    obtain ⟨fa, hA, hfa⟩ := hcA
    obtain ⟨z1, z2, l1, ln, len, f, hS, hc, hneg, hpos, hce⟩ := hcS k hk
    obtain ⟨fs, fl, fc, s52, s53, s54, hsa⟩ := id hmS
    obtain ⟨e1, -, -, -, e2, e3⟩ := hsa k hk
    have s55 := hmX.2.2.2.2.2.2.2
    obtain ⟨fh, s55⟩ := s55
    have m0 : ∀ e, (S.set 0 (co e))[31]? = some (mo flt (nI pl) (nI n) du lw fR (nI cs) ra rp rs ea dp bm bi (nI q) tr) := fun e => gn (by decide) m31
    have m52 : ∀ e, (S.set 0 (co e))[52]? = some (iA 4 fs) := fun e => gn (by decide) s52
    have m53 : ∀ e, (S.set 0 (co e))[53]? = some (iA 4 fl) := fun e => gn (by decide) s53
    have m54 : ∀ e, (S.set 0 (co e))[54]? = some (iA 240 fc) := fun e => gn (by decide) s54
    have lnn : ∀ h : 0 ≤ z k, ¬ ln = -1 := fun h => by rw [(hpos h).1]; exact nI_nm l1
    by_cases hz : z k < 0
    · refine c_X11_put_n c0 hA hfa hk hS hc (hneg hz) ?_
      exact ⟨_, rfl, ⟨_, m0 _⟩, c_X12_put_n (m0 _) (m52 _) (m53 _) (m54 _) hk e1 ⟨z1, z2⟩ hz ⟨rfl, ⟨_, tr, du, lw, fC, fR, pl, n, q, cs, G, ad, z, la, ce, ro, rb, hok, (hC.u0).off (by decide), (hR.off (by decide)).u31 (Nat.le_refl _)⟩⟩⟩
    · have hz0 : 0 ≤ z k := by omega
      by_cases hi : 0 ≤ b.toInt ∧ b.toInt < z k
      · obtain ⟨i, hi2, rfl⟩ : ∃ i : Nat, (i : Int) < z k ∧ b = nI i := ⟨b.toInt.toNat, by omega, (toN hi.1).1⟩
        have hla := (hpos hz0).1
        have hlb := e2 hz0
        rcases (show la k = 0 ∨ la k = 1 ∨ la k = 2 by omega) with h0 | h0 | h0
        · rw [h0] at hla hlb
          refine c_X11_put_o0 c0 hA hfa hk hS hc (lnn hz0) (hpos hz0).2 ⟨hz0, z2⟩ hla hi2 ?_
          have g : ∀ x c2, 30 < x → S[x]? = some c2 → ((S.set 0 (co 0)).set (3 + 2 * k) (iA 60 (upd f i c.toInt8.toInt32)))[x]? = some c2 := fun x c hx h => gn (by omega) (gn (by omega) h)
          refine ⟨_, rfl, ⟨_, g 31 _ (by decide) m31⟩, ?_⟩
          refine c_X12_put_o0 (g 31 _ (by decide) m31) (g 52 _ (by decide) s52) (g 53 _ (by decide) s53) (g 54 _ (by decide) s54) hk e1 ⟨z1, z2⟩ hlb hi2 ⟨rfl, ?_⟩
          refine ST_sh (S := S) hok hC hR hk (e := 0) (z' := z k) (l' := la k) (c' := upd (ce k) i (c.toInt8.toInt32)) (fun x c a0 a1 a2 a3 a4 a5 a6 a7 h => gn (by omega) (gn (by omega) (gn (by omega) (gn (by omega) (h))))) (gn (by decide) (gn (by decide) (gn (by omega) (gs c0)))) (gn (by omega) (gn (by omega) (gn (by omega) (gn (by omega) hS)))) (gn (by omega) (gn (by omega) (gs (gn (by omega) hc)))) (gs (gn (by decide) (g 31 _ (by decide) m31))) (gn (by decide) (gn (by decide) (g 52 _ (by decide) s52))) (gn (by decide) (gn (by decide) (g 53 _ (by decide) s53))) (gn (by decide) (gs (g 54 _ (by decide) s54))) ⟨fh, gn (by decide) (gn (by decide) (g 55 _ (by decide) s55))⟩ ⟨z1, z2⟩ l1 hneg hpos ?_ e1 e2 ?_ hsa (fun j hj hne => ⟨rfl, rfl, fun i2 hi3 => upd_n _ _ (by omega)⟩)
          · intro i2 h2
            by_cases e : i2 = i
            · subst e; rw [upd_s, upd_s]
            · rw [upd_n _ _ e, upd_n _ _ e]; exact hce i2 h2
          · intro i2 h2
            by_cases e : i2 = i
            · subst e; rw [upd_s, upd_s]
            · rw [upd_n _ _ e, upd_n _ _ (by omega)]; exact e3 i2 h2
        · rw [h0] at hla hlb
          refine c_X11_put_o1 c0 hA hfa hk hS hc (lnn hz0) (hpos hz0).2 ⟨hz0, z2⟩ hla hi2 ?_
          have g : ∀ x c2, 30 < x → S[x]? = some c2 → ((S.set 0 (co 0)).set (3 + 2 * k) (iA 60 (upd f i c.toInt16.toInt32)))[x]? = some c2 := fun x c hx h => gn (by omega) (gn (by omega) h)
          refine ⟨_, rfl, ⟨_, g 31 _ (by decide) m31⟩, ?_⟩
          refine c_X12_put_o1 (g 31 _ (by decide) m31) (g 52 _ (by decide) s52) (g 53 _ (by decide) s53) (g 54 _ (by decide) s54) hk e1 ⟨z1, z2⟩ hlb hi2 ⟨rfl, ?_⟩
          refine ST_sh (S := S) hok hC hR hk (e := 0) (z' := z k) (l' := la k) (c' := upd (ce k) i (c.toInt16.toInt32)) (fun x c a0 a1 a2 a3 a4 a5 a6 a7 h => gn (by omega) (gn (by omega) (gn (by omega) (gn (by omega) (h))))) (gn (by decide) (gn (by decide) (gn (by omega) (gs c0)))) (gn (by omega) (gn (by omega) (gn (by omega) (gn (by omega) hS)))) (gn (by omega) (gn (by omega) (gs (gn (by omega) hc)))) (gs (gn (by decide) (g 31 _ (by decide) m31))) (gn (by decide) (gn (by decide) (g 52 _ (by decide) s52))) (gn (by decide) (gn (by decide) (g 53 _ (by decide) s53))) (gn (by decide) (gs (g 54 _ (by decide) s54))) ⟨fh, gn (by decide) (gn (by decide) (g 55 _ (by decide) s55))⟩ ⟨z1, z2⟩ l1 hneg hpos ?_ e1 e2 ?_ hsa (fun j hj hne => ⟨rfl, rfl, fun i2 hi3 => upd_n _ _ (by omega)⟩)
          · intro i2 h2
            by_cases e : i2 = i
            · subst e; rw [upd_s, upd_s]
            · rw [upd_n _ _ e, upd_n _ _ e]; exact hce i2 h2
          · intro i2 h2
            by_cases e : i2 = i
            · subst e; rw [upd_s, upd_s]
            · rw [upd_n _ _ e, upd_n _ _ (by omega)]; exact e3 i2 h2
        · rw [h0] at hla hlb
          refine c_X11_put_o2 c0 hA hfa hk hS hc (lnn hz0) (hpos hz0).2 ⟨hz0, z2⟩ hla hi2 ?_
          have g : ∀ x c2, 30 < x → S[x]? = some c2 → ((S.set 0 (co 0)).set (3 + 2 * k) (iA 60 (upd f i c)))[x]? = some c2 := fun x c hx h => gn (by omega) (gn (by omega) h)
          refine ⟨_, rfl, ⟨_, g 31 _ (by decide) m31⟩, ?_⟩
          refine c_X12_put_o2 (g 31 _ (by decide) m31) (g 52 _ (by decide) s52) (g 53 _ (by decide) s53) (g 54 _ (by decide) s54) hk e1 ⟨z1, z2⟩ hlb hi2 ⟨rfl, ?_⟩
          refine ST_sh (S := S) hok hC hR hk (e := 0) (z' := z k) (l' := la k) (c' := upd (ce k) i (c)) (fun x c a0 a1 a2 a3 a4 a5 a6 a7 h => gn (by omega) (gn (by omega) (gn (by omega) (gn (by omega) (h))))) (gn (by decide) (gn (by decide) (gn (by omega) (gs c0)))) (gn (by omega) (gn (by omega) (gn (by omega) (gn (by omega) hS)))) (gn (by omega) (gn (by omega) (gs (gn (by omega) hc)))) (gs (gn (by decide) (g 31 _ (by decide) m31))) (gn (by decide) (gn (by decide) (g 52 _ (by decide) s52))) (gn (by decide) (gn (by decide) (g 53 _ (by decide) s53))) (gn (by decide) (gs (g 54 _ (by decide) s54))) ⟨fh, gn (by decide) (gn (by decide) (g 55 _ (by decide) s55))⟩ ⟨z1, z2⟩ l1 hneg hpos ?_ e1 e2 ?_ hsa (fun j hj hne => ⟨rfl, rfl, fun i2 hi3 => upd_n _ _ (by omega)⟩)
          · intro i2 h2
            by_cases e : i2 = i
            · subst e; rw [upd_s, upd_s]
            · rw [upd_n _ _ e, upd_n _ _ e]; exact hce i2 h2
          · intro i2 h2
            by_cases e : i2 = i
            · subst e; rw [upd_s, upd_s]
            · rw [upd_n _ _ e, upd_n _ _ (by omega)]; exact e3 i2 h2
      · refine c_X11_put_i c0 hA hfa hk hS hc (lnn hz0) (hpos hz0).2 ⟨hz0, z2⟩ hi ?_
        exact ⟨_, rfl, ⟨_, m0 _⟩, c_X12_put_i (m0 _) (m52 _) (m53 _) (m54 _) hk e1 ⟨z1, z2⟩ hz0 hi ⟨rfl, ⟨_, tr, du, lw, fC, fR, pl, n, q, cs, G, ad, z, la, ce, ro, rb, hok, (hC.u0).off (by decide), (hR.off (by decide)).u31 (Nat.le_refl _)⟩⟩⟩
  · refine c_X11_put_unk c0 hx ?_
    exact ⟨_, rfl, ⟨_, gn (by decide) m31⟩, c_X12_put_unk (gn (by decide) m31) hx ⟨rfl, ⟨_, tr, du, lw, fC, fR, pl, n, q, cs, G, ad, z, la, ce, ro, rb, hok, (hC.u0).off (by decide), (hR.off (by decide)).u31 (Nat.le_refl _)⟩⟩⟩

set_option maxHeartbeats 4000000 in
set_option maxRecDepth 100000 in
theorem p_cell : P_cell := by
  intro S hST a b c d
  obtain ⟨flt, tr, du, lw, fC, fR, pl, n, q, cs, G, ad, z, la, ce, ro, rb, hok, hC, hR⟩ := hST
  obtain ⟨hg, hnp, hq, hcs, hdu, hlw, hf, hro, hn8⟩ := id hok
  obtain ⟨c0, hcA, hcS, c10, hcT, hcR, hcN, hcX, c30⟩ := id hC
  obtain ⟨⟨ra, rp, rs, ea, dp, bm, bi, m31⟩, hmN, hmR, hmS, hmX⟩ := id hR
  have hp7 := hg.1
  have hn9 := hg.2.1
  by_cases hx : 0 ≤ a.toInt ∧ a.toInt ≤ 3
  · obtain ⟨k, hk, rfl⟩ : ∃ k, k < 4 ∧ a = nI k := ⟨a.toInt.toNat, by omega, (toN hx.1).1⟩
    clear hx
    obtain ⟨fa, hA, hfa⟩ := hcA
    obtain ⟨z1, z2, l1, ln, len, f, hS, hc, hneg, hpos, hce⟩ := hcS k hk
    obtain ⟨fs, fl, fc, s52, s53, s54, hsa⟩ := id hmS
    obtain ⟨e1, -, -, -, e2, e3⟩ := hsa k hk
    have s55 := hmX.2.2.2.2.2.2.2
    obtain ⟨fh, s55⟩ := s55
    have m0 : ∀ e, (S.set 0 (co e))[31]? = some (mo flt (nI pl) (nI n) du lw fR (nI cs) ra rp rs ea dp bm bi (nI q) tr) := fun e => gn (by decide) m31
    have m52 : ∀ e, (S.set 0 (co e))[52]? = some (iA 4 fs) := fun e => gn (by decide) s52
    have m53 : ∀ e, (S.set 0 (co e))[53]? = some (iA 4 fl) := fun e => gn (by decide) s53
    have m54 : ∀ e, (S.set 0 (co e))[54]? = some (iA 240 fc) := fun e => gn (by decide) s54
    have lnn : ∀ h : 0 ≤ z k, ¬ ln = -1 := fun h => by rw [(hpos h).1]; exact nI_nm l1
    by_cases hw : 0 ≤ c.toInt ∧ c.toInt ≤ 2
    · by_cases hz : z k < 0
      · refine c_X11_cell_n c0 hA hfa hk hS hc hw (hneg hz) ?_
        exact ⟨_, rfl, ⟨_, m0 _⟩, c_X12_cell_n (m0 _) (m52 _) (m53 _) (m54 _) hk e1 ⟨z1, z2⟩ hw hz ⟨rfl, ⟨_, tr, du, lw, fC, fR, pl, n, q, cs, G, ad, z, la, ce, ro, rb, hok, (hC.u0).off (by decide), (hR.off (by decide)).u31 (Nat.le_refl _)⟩⟩⟩
      · have hz0 : 0 ≤ z k := by omega
        have hla := (hpos hz0).1
        have hlb := e2 hz0
        by_cases he : ln = c
        · by_cases hi : 0 ≤ b.toInt ∧ b.toInt < z k
          · obtain ⟨i, hi2, rfl⟩ : ∃ i : Nat, (i : Int) < z k ∧ b = nI i := ⟨b.toInt.toNat, by omega, (toN hi.1).1⟩
            refine c_X11_cell_o c0 hA hfa hk hS hc (lnn hz0) (hpos hz0).2 ⟨hz0, z2⟩ hw he hi2 ?_
            refine ⟨_, rfl, ⟨_, m0 _⟩, c_X12_cell_o (m0 _) (m52 _) (m53 _) (m54 _) hk e1 ⟨z1, z2⟩ hw hz0 (by rw [hlb, ← hla, he]) hi2 ⟨?_, ⟨_, tr, du, lw, fC, fR, pl, n, q, cs, G, ad, z, la, ce, ro, rb, hok, (hC.u0).off (by decide), (hR.off (by decide)).u31 (Nat.le_refl _)⟩⟩⟩
            rw [e3 i hi2, hce i hi2]
          · refine c_X11_cell_i c0 hA hfa hk hS hc (lnn hz0) (hpos hz0).2 ⟨hz0, z2⟩ hw he hi ?_
            exact ⟨_, rfl, ⟨_, m0 _⟩, c_X12_cell_i (m0 _) (m52 _) (m53 _) (m54 _) hk e1 ⟨z1, z2⟩ hw hz0 (by rw [hlb, ← hla, he]) hi ⟨rfl, ⟨_, tr, du, lw, fC, fR, pl, n, q, cs, G, ad, z, la, ce, ro, rb, hok, (hC.u0).off (by decide), (hR.off (by decide)).u31 (Nat.le_refl _)⟩⟩⟩
        · refine c_X11_cell_cast c0 hA hfa hk hS hc hw (lnn hz0) he ?_
          exact ⟨_, rfl, ⟨_, m0 _⟩, c_X12_cell_cast (m0 _) (m52 _) (m53 _) (m54 _) hk e1 ⟨z1, z2⟩ hw hz0 (by rw [hlb, ← hla]; exact he) ⟨rfl, ⟨_, tr, du, lw, fC, fR, pl, n, q, cs, G, ad, z, la, ce, ro, rb, hok, (hC.u0).off (by decide), (hR.off (by decide)).u31 (Nat.le_refl _)⟩⟩⟩
    · refine c_X11_cell_lane c0 hA hfa hk hw ?_
      exact ⟨_, rfl, ⟨_, m0 _⟩, c_X12_cell_lane (m0 _) hk hw ⟨rfl, ⟨_, tr, du, lw, fC, fR, pl, n, q, cs, G, ad, z, la, ce, ro, rb, hok, (hC.u0).off (by decide), (hR.off (by decide)).u31 (Nat.le_refl _)⟩⟩⟩
  · refine c_X11_cell_unk c0 hx ?_
    exact ⟨_, rfl, ⟨_, gn (by decide) m31⟩, c_X12_cell_unk (gn (by decide) m31) hx ⟨rfl, ⟨_, tr, du, lw, fC, fR, pl, n, q, cs, G, ad, z, la, ce, ro, rb, hok, (hC.u0).off (by decide), (hR.off (by decide)).u31 (Nat.le_refl _)⟩⟩⟩

set_option maxHeartbeats 4000000 in
set_option maxRecDepth 100000 in
theorem p_sheet : P_sheet := by
  intro S hST a b c d
  obtain ⟨flt, tr, du, lw, fC, fR, pl, n, q, cs, G, ad, z, la, ce, ro, rb, hok, hC, hR⟩ := hST
  obtain ⟨hg, hnp, hq, hcs, hdu, hlw, hf, hro, hn8⟩ := id hok
  obtain ⟨c0, hcA, hcS, c10, hcT, hcR, hcN, hcX, c30⟩ := id hC
  obtain ⟨⟨ra, rp, rs, ea, dp, bm, bi, m31⟩, hmN, hmR, hmS, hmX⟩ := id hR
  have hp7 := hg.1
  have hn9 := hg.2.1
  by_cases hx : 0 ≤ a.toInt ∧ a.toInt ≤ 3
  · obtain ⟨k, hk, rfl⟩ : ∃ k, k < 4 ∧ a = nI k := ⟨a.toInt.toNat, by omega, (toN hx.1).1⟩
    clear hx
    obtain ⟨fa, hA, hfa⟩ := hcA
    obtain ⟨z1, z2, l1, ln, len, f, hS, hc, hneg, hpos, hce⟩ := hcS k hk
    obtain ⟨fs, fl, fc, s52, s53, s54, hsa⟩ := id hmS
    obtain ⟨e1, -, -, -, e2, e3⟩ := hsa k hk
    have s55 := hmX.2.2.2.2.2.2.2
    obtain ⟨fh, s55⟩ := s55
    have m0 : ∀ e, (S.set 0 (co e))[31]? = some (mo flt (nI pl) (nI n) du lw fR (nI cs) ra rp rs ea dp bm bi (nI q) tr) := fun e => gn (by decide) m31
    have m52 : ∀ e, (S.set 0 (co e))[52]? = some (iA 4 fs) := fun e => gn (by decide) s52
    have m53 : ∀ e, (S.set 0 (co e))[53]? = some (iA 4 fl) := fun e => gn (by decide) s53
    have m54 : ∀ e, (S.set 0 (co e))[54]? = some (iA 240 fc) := fun e => gn (by decide) s54
    have lnn : ∀ h : 0 ≤ z k, ¬ ln = -1 := fun h => by rw [(hpos h).1]; exact nI_nm l1
    by_cases hw : 0 ≤ b.toInt ∧ b.toInt ≤ 2
    · by_cases hb : 60 < c.toInt
      · refine c_X11_sheet_big c0 hA hfa hk hw hb ?_
        exact ⟨_, rfl, ⟨_, m0 _⟩, c_X12_sheet_big (m0 _) hk hw hb ⟨rfl, ⟨_, tr, du, lw, fC, fR, pl, n, q, cs, G, ad, z, la, ce, ro, rb, hok, (hC.u0).off (by decide), (hR.off (by decide)).u31 (Nat.le_refl _)⟩⟩⟩
      · by_cases hc0 : c.toInt < 0
        · refine c_X11_sheet_size c0 hA hfa hk hw hc0 ?_
          exact ⟨_, rfl, ⟨_, m0 _⟩, c_X12_sheet_size (m0 _) hk hw hc0 ⟨rfl, ⟨_, tr, du, lw, fC, fR, pl, n, q, cs, G, ad, z, la, ce, ro, rb, hok, (hC.u0).off (by decide), (hR.off (by decide)).u31 (Nat.le_refl _)⟩⟩⟩
        · obtain ⟨m, hm, rfl⟩ : ∃ m, m ≤ 60 ∧ c = nI m := ⟨c.toInt.toNat, by omega, (toN (by omega)).1⟩
          obtain ⟨l, hl2, rfl⟩ : ∃ l, l ≤ 2 ∧ b = nI l := ⟨b.toInt.toNat, by omega, (toN (by omega)).1⟩
          refine c_X11_sheet_o c0 hA hfa hk hS hc hm hw ?_
          have g : ∀ x c, 30 < x → S[x]? = some c → (((S.set 0 (co 0)).set (3 + 2 * k) (iA 60 (filN f 0 60))).set (2 + 2 * k) (.inr (5, [.ref (3 + 2 * k), .int (nI l), .int (nI m)])))[x]? = some c := fun x c hx h => gn (by omega) (gn (by omega) (gn (by omega) h))
          refine ⟨_, rfl, ⟨_, g 31 _ (by decide) m31⟩, ?_⟩
          refine c_X12_sheet_o (g 31 _ (by decide) m31) (g 52 _ (by decide) s52) (g 53 _ (by decide) s53) (g 54 _ (by decide) s54) hk hm hw ⟨rfl, ?_⟩
          refine ST_sh (S := S) hok hC hR hk (e := 0) (z' := m) (l' := l) (c' := fun _ => 0) (fun x c a0 a1 a2 a3 a4 a5 a6 a7 h => gn (by omega) (gn (by omega) (gn (by omega) (gn (by omega) (gn (by omega) (gn (by omega) (gn (by omega) (h)))))))) (gn (by decide) (gn (by decide) (gn (by decide) (gn (by decide) (gn (by omega) (gn (by omega) (gs c0))))))) (gn (by omega) (gn (by omega) (gn (by omega) (gn (by omega) (gs (gn (by omega) (gn (by omega) hS))))))) (gn (by omega) (gn (by omega) (gn (by omega) (gn (by omega) (gn (by omega) (gs (gn (by omega) hc))))))) (gs (gn (by decide) (gn (by decide) (gn (by decide) (g 31 _ (by decide) m31))))) (gn (by decide) (gn (by decide) (gn (by decide) (gs (g 52 _ (by decide) s52))))) (gn (by decide) (gn (by decide) (gs (gn (by decide) (g 53 _ (by decide) s53))))) (gn (by decide) (gs (gn (by decide) (gn (by decide) (g 54 _ (by decide) s54))))) ⟨fh, gn (by decide) (gn (by decide) (gn (by decide) (gn (by decide) (g 55 _ (by decide) s55))))⟩ (by omega) hl2 (by omega) (fun _ => ⟨rfl, nIt (by omega)⟩) (fun i hi => ?_) (by rw [upd_s]; exact iZn (by omega)) (fun _ => upd_s _ _ _) (fun i hi => zerN_in _ _ (by omega)) hsa (fun j hj hne => ⟨upd_n _ _ hne, upd_n _ _ hne, fun i2 hi3 => zerN_out _ _ (by omega)⟩)
          show filN f 0 60 i = 0
          unfold filN
          rw [if_pos (by omega)]
    · refine c_X11_sheet_lane c0 hA hfa hk hw ?_
      exact ⟨_, rfl, ⟨_, m0 _⟩, c_X12_sheet_lane (m0 _) hk hw ⟨rfl, ⟨_, tr, du, lw, fC, fR, pl, n, q, cs, G, ad, z, la, ce, ro, rb, hok, (hC.u0).off (by decide), (hR.off (by decide)).u31 (Nat.le_refl _)⟩⟩⟩
  · refine c_X11_sheet_unk c0 hx ?_
    exact ⟨_, rfl, ⟨_, gn (by decide) m31⟩, c_X12_sheet_unk (gn (by decide) m31) hx ⟨rfl, ⟨_, tr, du, lw, fC, fR, pl, n, q, cs, G, ad, z, la, ce, ro, rb, hok, (hC.u0).off (by decide), (hR.off (by decide)).u31 (Nat.le_refl _)⟩⟩⟩

set_option maxHeartbeats 4000000 in
set_option maxRecDepth 100000 in
theorem p_copy : P_copy := by
  intro S hST a b c j e d
  obtain ⟨flt, tr, du, lw, fC, fR, pl, n, q, cs, G, ad, z, la, ce, ro, rb, hok, hC, hR⟩ := hST
  obtain ⟨hg, hnp, hq, hcs, hdu, hlw, hf, hro, hn8⟩ := id hok
  obtain ⟨c0, hcA, hcS, c10, hcT, hcR, hcN, hcX, c30⟩ := id hC
  obtain ⟨⟨ra, rp, rs, ea, dp, bm, bi, m31⟩, hmN, hmR, hmS, hmX⟩ := id hR
  have hp7 := hg.1
  have hn9 := hg.2.1
  by_cases hx : 0 ≤ a.toInt ∧ a.toInt ≤ 3
  · obtain ⟨k, hk, rfl⟩ : ∃ k, k < 4 ∧ a = nI k := ⟨a.toInt.toNat, by omega, (toN hx.1).1⟩
    clear hx
    obtain ⟨fa, hA, hfa⟩ := hcA
    obtain ⟨z1, z2, l1, ln, len, f, hS, hc, hneg, hpos, hce⟩ := hcS k hk
    obtain ⟨fs, fl, fc, s52, s53, s54, hsa⟩ := id hmS
    obtain ⟨e1, -, -, -, e2, e3⟩ := hsa k hk
    have s55 := hmX.2.2.2.2.2.2.2
    obtain ⟨fh, s55⟩ := s55
    have m0 : ∀ e, (S.set 0 (co e))[31]? = some (mo flt (nI pl) (nI n) du lw fR (nI cs) ra rp rs ea dp bm bi (nI q) tr) := fun e => gn (by decide) m31
    have m52 : ∀ e, (S.set 0 (co e))[52]? = some (iA 4 fs) := fun e => gn (by decide) s52
    have m53 : ∀ e, (S.set 0 (co e))[53]? = some (iA 4 fl) := fun e => gn (by decide) s53
    have m54 : ∀ e, (S.set 0 (co e))[54]? = some (iA 240 fc) := fun e => gn (by decide) s54
    have lnn : ∀ h : 0 ≤ z k, ¬ ln = -1 := fun h => by rw [(hpos h).1]; exact nI_nm l1
    by_cases hy : 0 ≤ c.toInt ∧ c.toInt ≤ 3
    · obtain ⟨o, ho, rfl⟩ : ∃ o, o < 4 ∧ c = nI o := ⟨c.toInt.toNat, by omega, (toN hy.1).1⟩
      clear hy
      obtain ⟨y1, y2, l2, ln2, len2, f2, hS2, hc2, hneg2, hpos2, hce2⟩ := hcS o ho
      obtain ⟨g1, -, -, -, g2, g3⟩ := hsa o ho
      have lnn2 : ∀ h : 0 ≤ z o, ¬ ln2 = -1 := fun h => by rw [(hpos2 h).1]; exact nI_nm l2
      by_cases hz : z k < 0
      · refine c_X11_copy_n1 c0 hA hfa hk hS hc ho hS2 hc2 (hneg hz) ?_
        exact ⟨_, rfl, ⟨_, m0 _⟩, c_X12_copy_n1 (m0 _) (m52 _) (m53 _) (m54 _) hk e1 ⟨z1, z2⟩ ho g1 ⟨y1, y2⟩ hz ⟨rfl, ⟨_, tr, du, lw, fC, fR, pl, n, q, cs, G, ad, z, la, ce, ro, rb, hok, (hC.u0).off (by decide), (hR.off (by decide)).u31 (Nat.le_refl _)⟩⟩⟩
      have hz0 : 0 ≤ z k := by omega
      by_cases hz2 : z o < 0
      · refine c_X11_copy_n2 c0 hA hfa hk hS hc ho hS2 hc2 (lnn hz0) (hneg2 hz2) ?_
        exact ⟨_, rfl, ⟨_, m0 _⟩, c_X12_copy_n2 (m0 _) (m52 _) (m53 _) (m54 _) hk e1 ⟨z1, z2⟩ ho g1 ⟨y1, y2⟩ hz0 hz2 ⟨rfl, ⟨_, tr, du, lw, fC, fR, pl, n, q, cs, G, ad, z, la, ce, ro, rb, hok, (hC.u0).off (by decide), (hR.off (by decide)).u31 (Nat.le_refl _)⟩⟩⟩
      have hy0 : 0 ≤ z o := by omega
      have hla := (hpos hz0).1
      have hlb := e2 hz0
      have hla2 := (hpos2 hy0).1
      have hlb2 := g2 hy0
      by_cases he : ln = ln2
      · have he2 : fl k = fl o := by rw [hlb, hlb2, ← hla, ← hla2, he]
        by_cases hi : b.toInt < 0 ∨ e.toInt < 0 ∨ z k < b.toInt + e.toInt
        · refine c_X11_copy_i1 c0 hA hfa hk hS hc ho hS2 hc2 (lnn hz0) (lnn2 hy0) (hpos hz0).2 ⟨hz0, z2⟩ (hpos2 hy0).2 ⟨hy0, y2⟩ he hi ?_
          exact ⟨_, rfl, ⟨_, m0 _⟩, c_X12_copy_i1 (m0 _) (m52 _) (m53 _) (m54 _) hk e1 ⟨z1, z2⟩ ho g1 ⟨y1, y2⟩ hz0 hy0 he2 hi ⟨rfl, ⟨_, tr, du, lw, fC, fR, pl, n, q, cs, G, ad, z, la, ce, ro, rb, hok, (hC.u0).off (by decide), (hR.off (by decide)).u31 (Nat.le_refl _)⟩⟩⟩
        by_cases hj : j.toInt < 0 ∨ e.toInt < 0 ∨ z o < j.toInt + e.toInt
        · refine c_X11_copy_i2 c0 hA hfa hk hS hc ho hS2 hc2 (lnn hz0) (lnn2 hy0) (hpos hz0).2 ⟨hz0, z2⟩ (hpos2 hy0).2 ⟨hy0, y2⟩ he hi hj ?_
          exact ⟨_, rfl, ⟨_, m0 _⟩, c_X12_copy_i2 (m0 _) (m52 _) (m53 _) (m54 _) hk e1 ⟨z1, z2⟩ ho g1 ⟨y1, y2⟩ hz0 hy0 he2 hi hj ⟨rfl, ⟨_, tr, du, lw, fC, fR, pl, n, q, cs, G, ad, z, la, ce, ro, rb, hok, (hC.u0).off (by decide), (hR.off (by decide)).u31 (Nat.le_refl _)⟩⟩⟩
        · obtain ⟨nn, hnn, rfl⟩ : ∃ nn : Nat, (nn : Int) = e.toInt ∧ e = nI nn := ⟨e.toInt.toNat, by omega, (toN (by omega)).1⟩
          obtain ⟨ii, hii, rfl⟩ : ∃ ii : Nat, (ii : Int) = b.toInt ∧ b = nI ii := ⟨b.toInt.toNat, by omega, (toN (by omega)).1⟩
          obtain ⟨jj, hjj, rfl⟩ : ∃ jj : Nat, (jj : Int) = j.toInt ∧ j = nI jj := ⟨j.toInt.toNat, by omega, (toN (by omega)).1⟩
          rw [← hnn, ← hii] at hi
          rw [← hnn, ← hjj] at hj
          refine c_X11_copy_o c0 hA hfa hk hS hc ho hS2 hc2 (lnn hz0) (lnn2 hy0) (hpos hz0).2 ⟨hz0, z2⟩ (hpos2 hy0).2 ⟨hy0, y2⟩ he (by omega) (by omega) ?_
          have g : ∀ x c, 30 < x → S[x]? = some c → ((S.set 0 (co 0)).set (3 + 2 * o) (iA 60 (va_cpy f f2 ii jj nn)))[x]? = some c := fun x c hx h => gn (by omega) (gn (by omega) h)
          refine ⟨_, rfl, ⟨_, g 31 _ (by decide) m31⟩, ?_⟩
          refine c_X12_copy_o (g 31 _ (by decide) m31) (g 52 _ (by decide) s52) (g 53 _ (by decide) s53) (g 54 _ (by decide) s54) (g 55 _ (by decide) s55) hk e1 ⟨z1, z2⟩ ho g1 ⟨y1, y2⟩ hz0 hy0 he2 (by omega) (by omega) ⟨rfl, ?_⟩
          refine ST_sh (S := S) hok hC hR ho (e := 0) (z' := z o) (l' := la o) (c' := va_cpy (ce k) (ce o) ii jj nn) (fun x c a0 a1 a2 a3 a4 a5 a6 a7 h => gn (by omega) (gn (by omega) (gn (by omega) (gn (by omega) (gn (by omega) (h)))))) (gn (by decide) (gn (by decide) (gn (by decide) (gn (by omega) (gs c0))))) (gn (by omega) (gn (by omega) (gn (by omega) (gn (by omega) (gn (by omega) hS2))))) (gn (by omega) (gn (by omega) (gn (by omega) (gs (gn (by omega) hc2))))) (gs (gn (by decide) (gn (by decide) (g 31 _ (by decide) m31)))) (gn (by decide) (gn (by decide) (gn (by decide) (g 52 _ (by decide) s52)))) (gn (by decide) (gn (by decide) (gn (by decide) (g 53 _ (by decide) s53)))) (gn (by decide) (gs (gn (by decide) (g 54 _ (by decide) s54)))) ⟨_, gn (by decide) (gn (by decide) (gs (g 55 _ (by decide) s55)))⟩ ⟨y1, y2⟩ l2 hneg2 hpos2 ?_ g1 g2 ?_ hsa (fun j hj2 hne => ⟨rfl, rfl, fun i2 hi3 => cpN_out _ _ (by omega)⟩)
          · intro i2 h2
            unfold va_cpy
            split
            · exact hce _ (by omega)
            · exact hce2 _ h2
          · intro i2 h2
            unfold va_cpy
            split
            · next hr =>
              rw [show 60 * o + i2 = 60 * o + jj + (i2 - jj) by omega, cpN_in _ _ (by omega), cpN_in _ _ (by omega), Nat.add_assoc]
              exact e3 _ (by omega)
            · next hr =>
              rw [cpN_out _ _ (by omega)]
              exact g3 _ h2
      · refine c_X11_copy_cast c0 hA hfa hk hS hc ho hS2 hc2 (lnn hz0) (lnn2 hy0) he ?_
        exact ⟨_, rfl, ⟨_, m0 _⟩, c_X12_copy_cast (m0 _) (m52 _) (m53 _) (m54 _) hk e1 ⟨z1, z2⟩ ho g1 ⟨y1, y2⟩ hz0 hy0 (by rw [hlb, hlb2, ← hla, ← hla2]; exact he) ⟨rfl, ⟨_, tr, du, lw, fC, fR, pl, n, q, cs, G, ad, z, la, ce, ro, rb, hok, (hC.u0).off (by decide), (hR.off (by decide)).u31 (Nat.le_refl _)⟩⟩⟩
    · refine c_X11_copy_unk2 c0 hA hfa hk hy ?_
      exact ⟨_, rfl, ⟨_, m0 _⟩, c_X12_copy_unk2 (m0 _) hk hy ⟨rfl, ⟨_, tr, du, lw, fC, fR, pl, n, q, cs, G, ad, z, la, ce, ro, rb, hok, (hC.u0).off (by decide), (hR.off (by decide)).u31 (Nat.le_refl _)⟩⟩⟩
  · obtain ⟨fa, hA, hfa⟩ := hcA
    by_cases hy : 0 ≤ c.toInt ∧ c.toInt ≤ 3
    · obtain ⟨o, ho, rfl⟩ : ∃ o, o < 4 ∧ c = nI o := ⟨c.toInt.toNat, by omega, (toN hy.1).1⟩
      refine c_X11_copy_unk1 c0 hA hfa hx ho ?_
      exact ⟨_, rfl, ⟨_, gn (by decide) m31⟩, c_X12_copy_unk1 (gn (by decide) m31) hx ⟨rfl, ⟨_, tr, du, lw, fC, fR, pl, n, q, cs, G, ad, z, la, ce, ro, rb, hok, (hC.u0).off (by decide), (hR.off (by decide)).u31 (Nat.le_refl _)⟩⟩⟩
    · refine c_X11_copy_unk12 c0 hA hfa hx hy ?_
      exact ⟨_, rfl, ⟨_, gn (by decide) m31⟩, c_X12_copy_unk1 (gn (by decide) m31) hx ⟨rfl, ⟨_, tr, du, lw, fC, fR, pl, n, q, cs, G, ad, z, la, ce, ro, rb, hok, (hC.u0).off (by decide), (hR.off (by decide)).u31 (Nat.le_refl _)⟩⟩⟩

