set_option maxHeartbeats 4000000 in
set_option maxRecDepth 100000 in
theorem p_quickest : P_quickest := by
  intro S hST a d
  obtain ⟨flt, tr, du, lw, fC, fR, pl, n, q, cs, G, ad, z, la, ce, ro, rb, hok, hC, hR⟩ := hST
  obtain ⟨hg, hnp, hq, hcs, hdu, hlw, hf, hro, hn8⟩ := id hok
  obtain ⟨c0, hcA, hcS, c10, hcT, hcR, hcN, hcX, c30⟩ := id hC
  obtain ⟨⟨ra, rp, rs, ea, dp, bm, bi, m31⟩, hmN, hmR, hmS, hmX⟩ := id hR
  have hp7 := hg.1
  have hn9 := hg.2.1
  by_cases hx : 0 ≤ a.toInt ∧ a.toInt < pl
  · obtain ⟨p, hp, rfl⟩ : ∃ p, p < pl ∧ a = nI p := ⟨a.toInt.toNat, by omega, (toN hx.1).1⟩
    clear hx
    have hn0 : n ≠ 0 := fun z => by have := hnp.mp z; omega
    obtain rfl := hf hn0
    obtain ⟨sa, hA, hsa⟩ := hcT
    obtain ⟨-, -, -, -, -, c25, ⟨f26, c26⟩, -⟩ := hcX
    obtain ⟨-, -, ⟨f45, s45⟩, -⟩ := hmX
    have g : ∀ (F : Nat → Int32) (x : Nat) (c2 : aE), 30 < x → S[x]? = some c2 → (S.set 26 (iA 7 F))[x]? = some c2 := fun F x c hx h => gn (by omega) h
    have h0 : 0 < pl := by omega
    have eC := (bf_enc (cs := cs) (fz := fC.toInt) (M := 1000000) (s := 0) hg (pl - 1) (by omega)).1 p
    have eR := (bf_enc (cs := cs) (fz := fC.toInt) (M := 99999) (s := 0) hg pl (by omega)).1 p
    have eB := (bf_enc (cs := cs) (fz := fC.toInt) (M := 1000000) (s := 0) hg (pl - 1) (by omega)).2 p
    rw [bfO_last hg h0 hp] at eR
    cases hD : bfO G cs fC.toInt n 0 (pl - 1) p with
    | none =>
      rw [hD] at eC eR
      have eC : bfA G cs fC.toInt n 1000000 0 (pl - 1) p = 1000000 := eC
      have eR : bfA G cs fC.toInt n 99999 0 pl p = 99999 := eR
      refine c_X11_quickest c0 hp7 hn9 hq c10 hg hA hsa hcN c25 hp c26 (fun F h => ?_) (fun F h => absurd h (by omega))
      refine ⟨_, rfl, ⟨_, g F 31 _ (by decide) m31⟩, ?_⟩
      exact c_X12_quickest hg hcs (g F 31 _ (by decide) m31) (hmN.off (by decide)) (g F 45 _ (by decide) s45) hp (fun F2 _ => ⟨rfl, ⟨flt, tr, du, lw, fC, fC, pl, n, q, cs, G, ad, z, la, ce, ro, rb, hok, (hC.u26).off (by decide), (hR.off (by decide)).u45⟩⟩) (fun F2 h2 => absurd h2 (by omega))
    | some v =>
      have hv := eB v hD
      rw [hD] at eC eR
      have eC : bfA G cs fC.toInt n 1000000 0 (pl - 1) p = v := eC
      have eR : bfA G cs fC.toInt n 99999 0 pl p = v := eR
      refine c_X11_quickest c0 hp7 hn9 hq c10 hg hA hsa hcN c25 hp c26 (fun F h => absurd h (by omega)) (fun F h => ?_)
      refine ⟨_, rfl, ⟨_, g F 31 _ (by decide) m31⟩, ?_⟩
      exact c_X12_quickest hg hcs (g F 31 _ (by decide) m31) (hmN.off (by decide)) (g F 45 _ (by decide) s45) hp (fun F2 h2 => absurd h2 (by omega)) (fun F2 _ => ⟨by rw [eC, eR], ⟨flt, tr, du, lw, fC, fC, pl, n, q, cs, G, ad, z, la, ce, ro, rb, hok, (hC.u26).off (by decide), (hR.off (by decide)).u45⟩⟩)
  · refine c_X11_quickest_bad c0 hp7 hn9 hq c10 hx ?_
    refine ⟨_, rfl, ⟨_, m31⟩, ?_⟩
    exact c_X12_quickest_bad hg hcs m31 hmN hx ⟨rfl, ⟨flt, tr, du, lw, fC, fR, pl, n, q, cs, G, ad, z, la, ce, ro, rb, hok, hC, hR⟩⟩

set_option maxHeartbeats 4000000 in
set_option maxRecDepth 100000 in
theorem p_via : P_via := by
  intro S hST a d
  obtain ⟨flt, tr, du, lw, fC, fR, pl, n, q, cs, G, ad, z, la, ce, ro, rb, hok, hC, hR⟩ := hST
  obtain ⟨hg, hnp, hq, hcs, hdu, hlw, hf, hro, hn8⟩ := id hok
  obtain ⟨c0, hcA, hcS, c10, hcT, hcR, hcN, hcX, c30⟩ := id hC
  obtain ⟨⟨ra, rp, rs, ea, dp, bm, bi, m31⟩, hmN, hmR, hmS, hmX⟩ := id hR
  have hp7 := hg.1
  have hn9 := hg.2.1
  by_cases hx : 0 ≤ a.toInt ∧ a.toInt < pl
  · obtain ⟨p, hp, rfl⟩ : ∃ p, p < pl ∧ a = nI p := ⟨a.toInt.toNat, by omega, (toN hx.1).1⟩
    clear hx
    have hn0 : n ≠ 0 := fun z => by have := hnp.mp z; omega
    obtain rfl := hf hn0
    obtain ⟨sa, hA, hsa⟩ := hcT
    obtain ⟨-, -, -, -, -, c25, ⟨f26, c26⟩, -⟩ := hcX
    obtain ⟨-, -, ⟨f45, s45⟩, -⟩ := hmX
    have g : ∀ (F : Nat → Int32) (x : Nat) (c2 : aE), 30 < x → S[x]? = some c2 → (S.set 26 (iA 7 F))[x]? = some c2 := fun F x c hx h => gn (by omega) h
    have h0 : 0 < pl := by omega
    have hl : pl - 1 < pl := by omega
    have hE : ∃ (u v : Option Nat), (∀ w, u = some w → w ≤ 2000) ∧ (∀ w, v = some w → w ≤ 2000) ∧ bfA G cs fC.toInt n 1000000 0 (pl - 1) p = enc 1000000 u ∧ bfA G cs fC.toInt n 1000000 p (pl - 1) (pl - 1) = enc 1000000 v ∧ bfA G cs fC.toInt n 99999 p pl 0 = enc 99999 u ∧ bfA G cs fC.toInt n 99999 p pl (pl - 1) = enc 99999 v := by
      have e1 := bf_enc (cs := cs) (fz := fC.toInt) (M := 1000000) (s := 0) hg (pl - 1) (by omega)
      have e2 := bf_enc (cs := cs) (fz := fC.toInt) (M := 1000000) (s := p) hg (pl - 1) (by omega)
      have e3 := bf_enc (cs := cs) (fz := fC.toInt) (M := 99999) (s := p) hg pl (by omega)
      refine ⟨bfO G cs fC.toInt n 0 (pl - 1) p, bfO G cs fC.toInt n p (pl - 1) (pl - 1), fun w h => by have := e1.2 _ w h; omega, fun w h => by have := e2.2 _ w h; omega, e1.1 p, e2.1 (pl - 1), ?_, ?_⟩
      · rw [e3.1 0, bfO_last hg hp h0, bfO_symm hg hp h0]
      · rw [e3.1 (pl - 1), bfO_last hg hp hl]
    obtain ⟨u, v, hu, hv, eA, eB, eC, eD⟩ := hE
    have key : (u = none ∨ v = none) ∨ ∃ a b, u = some a ∧ v = some b := by
      cases u with
      | none => exact Or.inl (Or.inl rfl)
      | some a =>
        cases v with
        | none => exact Or.inl (Or.inr rfl)
        | some b => exact Or.inr ⟨a, b, rfl, rfl⟩
    rcases key with key | ⟨a, b, rfl, rfl⟩
    · have hC1 : ¬ (bfA G cs fC.toInt n 1000000 0 (pl - 1) p < 1000000 ∧ bfA G cs fC.toInt n 1000000 p (pl - 1) (pl - 1) < 1000000) := by
        rw [eA, eB]
        rcases key with rfl | rfl
        · exact fun z => absurd z.1 (by decide)
        · exact fun z => absurd z.2 (by decide)
      have hR1 : ¬ (bfA G cs fC.toInt n 99999 p pl 0 < 99999 ∧ bfA G cs fC.toInt n 99999 p pl (pl - 1) < 99999) := by
        rw [eC, eD]
        rcases key with rfl | rfl
        · exact fun z => absurd z.1 (by decide)
        · exact fun z => absurd z.2 (by decide)
      refine c_X11_via c0 hp7 hn9 hq c10 hg hA hsa hcN c25 hp c26 (fun F h => ?_) (fun F h h2 => absurd ⟨h, h2⟩ hC1)
      refine ⟨_, rfl, ⟨_, g F 31 _ (by decide) m31⟩, ?_⟩
      exact c_X12_via hg hcs (g F 31 _ (by decide) m31) (hmN.off (by decide)) (g F 45 _ (by decide) s45) hp (fun F2 _ => ⟨rfl, ⟨flt, tr, du, lw, fC, fC, pl, n, q, cs, G, ad, z, la, ce, ro, rb, hok, (hC.u26).off (by decide), (hR.off (by decide)).u45⟩⟩) (fun F2 h2 h3 => absurd ⟨h2, h3⟩ hR1)
    · have ha := hu a rfl
      have hb := hv b rfl
      have eA : bfA G cs fC.toInt n 1000000 0 (pl - 1) p = a := eA
      have eB : bfA G cs fC.toInt n 1000000 p (pl - 1) (pl - 1) = b := eB
      have eC : bfA G cs fC.toInt n 99999 p pl 0 = a := eC
      have eD : bfA G cs fC.toInt n 99999 p pl (pl - 1) = b := eD
      refine c_X11_via c0 hp7 hn9 hq c10 hg hA hsa hcN c25 hp c26 (fun F h => absurd h (by omega)) (fun F h h2 => ?_)
      refine ⟨_, rfl, ⟨_, g F 31 _ (by decide) m31⟩, ?_⟩
      exact c_X12_via hg hcs (g F 31 _ (by decide) m31) (hmN.off (by decide)) (g F 45 _ (by decide) s45) hp (fun F2 h2 => absurd h2 (by omega)) (fun F2 _ _ => ⟨by rw [eA, eB, eC, eD], ⟨flt, tr, du, lw, fC, fC, pl, n, q, cs, G, ad, z, la, ce, ro, rb, hok, (hC.u26).off (by decide), (hR.off (by decide)).u45⟩⟩)
  · refine c_X11_via_bad c0 hp7 hn9 hq c10 hx ?_
    refine ⟨_, rfl, ⟨_, m31⟩, ?_⟩
    exact c_X12_via_bad hg hcs m31 hmN hx ⟨rfl, ⟨flt, tr, du, lw, fC, fR, pl, n, q, cs, G, ad, z, la, ce, ro, rb, hok, hC, hR⟩⟩

