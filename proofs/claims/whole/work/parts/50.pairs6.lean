/-! ===== the searches, side by side ===== -/
theorem MN.l {S S2 : aS} {n : Nat} {G : Nat → Nat → Nat} (h : MN S n G) (hF : FrL S S2) : MN S2 n G := by
  intro f hf
  obtain ⟨g, h1, h2⟩ := h f hf
  exact ⟨g, hF.at h1 (by omega), h2⟩
theorem ST_sr {S S1 S2 : aS} {flt tr du lw fC fR ra rp rs ea : Int32} {pl n q cs : Nat} {G : Nat → Nat → Nat} {ad : Nat → Nat} {z : Nat → Int} {la : Nat → Nat} {ce : Nat → Nat → Int32} {ro : Nat → Nat} {rb : Nat → Bool} (hok : OKs du lw fC fR pl n q cs G ro) (hC : CA S flt tr du lw fC pl n q cs G ad z la ce ro rb) (hR : RA S flt tr du lw fR pl n q cs G z la ce ro rb) (hF : FrL S S1) {go mo mi wa uw mu : Int32} {acc : rV} {s : Nat} {r : Nat → Nat} (hG : cG S1 go mo mi wa uw mu acc s r) (hE : RE (moM flt du lw fR ra rp rs ea tr pl n cs q) S1 S2) : ST S2 := by
  obtain ⟨hE1, ⟨dp, bm, bi, hE2⟩, hE3, hE4, hE5⟩ := hE
  have h1 := (hC.sr hF hG).cg (S2 := S2) (fun a ha => hE1 a (by omega) (by omega) (by omega) (by omega))
  have h2 := (hR.cg (S2 := S1) (fun a ha => hF a (by omega) (by omega))).sr hE1 ⟨ra, rp, rs, ea, dp, bm, bi, hE2⟩ hE3 hE4 hE5
  exact ⟨flt, tr, du, lw, fC, fR, pl, n, q, cs, G, ad, z, la, ce, ro, rb, hok, h1, h2⟩

set_option maxHeartbeats 4000000 in
set_option maxRecDepth 100000 in
theorem p_best : P_best := by
  intro S hST a b d
  obtain ⟨flt, tr, du, lw, fC, fR, pl, n, q, cs, G, ad, z, la, ce, ro, rb, hok, hC, hR⟩ := hST
  obtain ⟨hg, hnp, hq, hcs, hdu, hlw, hf, hro, hn8⟩ := id hok
  obtain ⟨c0, hcA, hcS, c10, hcT, hcR, hcN, hcX, c30⟩ := id hC
  obtain ⟨⟨ra, rp, rs, ea, dp, bm, bi, m31⟩, hmN, hmR, hmS, hmX⟩ := id hR
  have hp7 := hg.1
  have hn9 := hg.2.1
  by_cases hxy : (1 ≤ a.toInt ∧ a.toInt ≤ 5) ∧ (-1 ≤ b.toInt ∧ b.toInt ≤ 4)
  case neg =>
    refine c_X11_best_b c0 hp7 hn9 hq c10 hxy ?_
    exact ⟨_, rfl, ⟨_, m31⟩, c_X12_best_b hn9 m31 hxy ⟨rfl, ⟨flt, tr, du, lw, fC, fR, pl, n, q, cs, G, ad, z, la, ce, ro, rb, hok, hC, hR⟩⟩⟩
  by_cases hn0 : n = 0
  · refine c_X11_best_s c0 hp7 hn9 hq c10 hxy (hnp.mp hn0) ?_
    exact ⟨_, rfl, ⟨_, m31⟩, c_X12_best_s hn9 m31 hxy hn0 ⟨rfl, ⟨flt, tr, du, lw, fC, fR, pl, n, q, cs, G, ad, z, la, ce, ro, rb, hok, hC, hR⟩⟩⟩
  obtain rfl := hf hn0
  have hpl : ¬ pl = 0 := fun z => hn0 (hnp.mpr z)
  have hp0 : 0 < pl := by omega
  obtain ⟨X1, X2, X3, X4, X5, -⟩ := hcX
  have hX : WX S := by
    intro j hj
    obtain ⟨p, s, m, g, o, t, h⟩ := X1 (j + 1) (by omega)
    rw [if_neg (by omega), show 16 + (j + 1) = 17 + j by omega] at h
    exact ⟨p, s, m, g, o, t, h⟩
  obtain ⟨fo, fw, h12, h13, hrd⟩ := hcR
  obtain ⟨fo2, fw2, h48, h49, hrd2⟩ := hmR
  obtain ⟨-, ⟨s44, y44⟩, -, ⟨s46, y46⟩, ⟨s47, y47⟩, -⟩ := hmX
  have he : eC S pl n q cs du lw fC G fC.toInt ad := ⟨c10, hcT, hcN, X3⟩
  obtain ⟨m, hm, rfl⟩ : ∃ m : Nat, (1 ≤ m ∧ m ≤ 5) ∧ a = nI m := ⟨a.toInt.toNat, by omega, (toN (by omega)).1⟩
  by_cases hb : b = -1
  · subst hb
    refine c_X11_best_m (d := d + 3) hlw hdu c0 hg hq hm hpl he X2 X4 X5 hX h12 h13 hrd hro (fun S1 hF hG => ?_)
    refine ⟨_, rfl, ⟨_, hF.at m31 (by omega)⟩, ?_⟩
    exact c_X12_best_m (d := d + 9) hg hcs (hmN.l hF) (hF.at m31 (by omega)) (hF.at y44 (by omega)) (hF.at y46 (by omega)) (hF.at y47 (by omega)) hm hp0 hn0 hdu (fun S2 hE => ⟨rfl, ST_sr hok hC hR hF hG hE⟩)
  · have hb2 : 0 ≤ b.toInt := by
      have h1 : ¬ b.toInt = -1 := fun z => hb ((xeq _ _).mpr z)
      omega
    obtain ⟨j, hj, rfl⟩ : ∃ j : Nat, j ≤ 4 ∧ b = nI j := ⟨b.toInt.toNat, by omega, (toN hb2).1⟩
    refine c_X11_best_j (d := d + 3) hlw hdu hj c0 hg hq hm hpl he X2 X4 X5 hX h12 h13 hrd hro (fun S1 hF hG => ?_)
    refine ⟨_, rfl, ⟨_, hF.at m31 (by omega)⟩, ?_⟩
    exact c_X12_best_j (d := d + 9) hj hg hcs (hmN.l hF) (hF.at m31 (by omega)) (hF.at y44 (by omega)) (hF.at y46 (by omega)) (hF.at y47 (by omega)) hm hp0 hn0 hdu (fun S2 hE => ⟨rfl, ST_sr hok hC hR hF hG hE⟩)

set_option maxHeartbeats 4000000 in
set_option maxRecDepth 100000 in
theorem p_safest : P_safest := by
  intro S hST a b d
  obtain ⟨flt, tr, du, lw, fC, fR, pl, n, q, cs, G, ad, z, la, ce, ro, rb, hok, hC, hR⟩ := hST
  obtain ⟨hg, hnp, hq, hcs, hdu, hlw, hf, hro, hn8⟩ := id hok
  obtain ⟨c0, hcA, hcS, c10, hcT, hcR, hcN, hcX, c30⟩ := id hC
  obtain ⟨⟨ra, rp, rs, ea, dp, bm, bi, m31⟩, hmN, hmR, hmS, hmX⟩ := id hR
  have hp7 := hg.1
  have hn9 := hg.2.1
  by_cases hxy : (1 ≤ a.toInt ∧ a.toInt ≤ 5) ∧ (-1 ≤ b.toInt ∧ b.toInt ≤ 4)
  case neg =>
    refine c_X11_safest_b c0 hp7 hn9 hq c10 hxy ?_
    exact ⟨_, rfl, ⟨_, m31⟩, c_X12_safest_b hn9 m31 hxy ⟨rfl, ⟨flt, tr, du, lw, fC, fR, pl, n, q, cs, G, ad, z, la, ce, ro, rb, hok, hC, hR⟩⟩⟩
  by_cases hn0 : n = 0
  · refine c_X11_safest_s c0 hp7 hn9 hq c10 hxy (hnp.mp hn0) ?_
    exact ⟨_, rfl, ⟨_, m31⟩, c_X12_safest_s hn9 m31 hxy hn0 ⟨rfl, ⟨flt, tr, du, lw, fC, fR, pl, n, q, cs, G, ad, z, la, ce, ro, rb, hok, hC, hR⟩⟩⟩
  obtain rfl := hf hn0
  have hpl : ¬ pl = 0 := fun z => hn0 (hnp.mpr z)
  have hp0 : 0 < pl := by omega
  obtain ⟨X1, X2, X3, X4, X5, -⟩ := hcX
  have hX : WX S := by
    intro j hj
    obtain ⟨p, s, m, g, o, t, h⟩ := X1 (j + 1) (by omega)
    rw [if_neg (by omega), show 16 + (j + 1) = 17 + j by omega] at h
    exact ⟨p, s, m, g, o, t, h⟩
  obtain ⟨fo, fw, h12, h13, hrd⟩ := hcR
  obtain ⟨fo2, fw2, h48, h49, hrd2⟩ := hmR
  obtain ⟨-, ⟨s44, y44⟩, -, ⟨s46, y46⟩, ⟨s47, y47⟩, -⟩ := hmX
  have he : eC S pl n q cs du lw fC G fC.toInt ad := ⟨c10, hcT, hcN, X3⟩
  obtain ⟨m, hm, rfl⟩ : ∃ m : Nat, (1 ≤ m ∧ m ≤ 5) ∧ a = nI m := ⟨a.toInt.toNat, by omega, (toN (by omega)).1⟩
  by_cases hb : b = -1
  · subst hb
    refine c_X11_safest_m (d := d + 3) c0 hg hq hm hpl he X2 X4 X5 hX h12 h13 hrd hro (fun S1 hF hG => ?_)
    refine ⟨_, rfl, ⟨_, hF.at m31 (by omega)⟩, ?_⟩
    exact c_X12_safest_m (d := d + 9) hg hcs (hmN.l hF) (hF.at m31 (by omega)) (hF.at y44 (by omega)) (hF.at y46 (by omega)) (hF.at y47 (by omega)) hm hp0 hn0 (fun S2 hE => ⟨rfl, ST_sr hok hC hR hF hG hE⟩)
  · have hb2 : 0 ≤ b.toInt := by
      have h1 : ¬ b.toInt = -1 := fun z => hb ((xeq _ _).mpr z)
      omega
    obtain ⟨j, hj, rfl⟩ : ∃ j : Nat, j ≤ 4 ∧ b = nI j := ⟨b.toInt.toNat, by omega, (toN hb2).1⟩
    refine c_X11_safest_j (d := d + 3) hj c0 hg hq hm hpl he X2 X4 X5 hX h12 h13 hrd hro (fun S1 hF hG => ?_)
    refine ⟨_, rfl, ⟨_, hF.at m31 (by omega)⟩, ?_⟩
    exact c_X12_safest_j (d := d + 9) hj hg hcs (hmN.l hF) (hF.at m31 (by omega)) (hF.at y44 (by omega)) (hF.at y46 (by omega)) (hF.at y47 (by omega)) hm hp0 hn0 (fun S2 hE => ⟨rfl, ST_sr hok hC hR hF hG hE⟩)

set_option maxHeartbeats 4000000 in
set_option maxRecDepth 100000 in
theorem p_trails : P_trails := by
  intro S hST a b c d
  obtain ⟨flt, tr, du, lw, fC, fR, pl, n, q, cs, G, ad, z, la, ce, ro, rb, hok, hC, hR⟩ := hST
  obtain ⟨hg, hnp, hq, hcs, hdu, hlw, hf, hro, hn8⟩ := id hok
  obtain ⟨c0, hcA, hcS, c10, hcT, hcR, hcN, hcX, c30⟩ := id hC
  obtain ⟨⟨ra, rp, rs, ea, dp, bm, bi, m31⟩, hmN, hmR, hmS, hmX⟩ := id hR
  have hp7 := hg.1
  have hn9 := hg.2.1
  by_cases ht : 0 ≤ b.toInt ∧ b.toInt ≤ 200
  case neg =>
    refine c_X11_trails_t c0 hp7 hn9 hq c10 ht ?_
    exact ⟨_, rfl, ⟨_, m31⟩, c_X12_trails_b hn9 m31 (fun z => ht z.2.1) ⟨rfl, ⟨flt, tr, du, lw, fC, fR, pl, n, q, cs, G, ad, z, la, ce, ro, rb, hok, hC, hR⟩⟩⟩
  by_cases hxy : (1 ≤ a.toInt ∧ a.toInt ≤ 5) ∧ (-1 ≤ c.toInt ∧ c.toInt ≤ 4)
  case neg =>
    refine c_X11_trails_b c0 hp7 hn9 hq c10 ht hxy ?_
    exact ⟨_, rfl, ⟨_, m31⟩, c_X12_trails_b hn9 m31 (fun z => hxy ⟨z.1, z.2.2⟩) ⟨rfl, ⟨flt, tr, du, lw, fC, fR, pl, n, q, cs, G, ad, z, la, ce, ro, rb, hok, hC, hR⟩⟩⟩
  by_cases hn0 : n = 0
  · refine c_X11_trails_s c0 hp7 hn9 hq c10 ht hxy (hnp.mp hn0) ?_
    exact ⟨_, rfl, ⟨_, m31⟩, c_X12_trails_s hn9 m31 ⟨hxy.1, ht, hxy.2⟩ hn0 ⟨rfl, ⟨flt, tr, du, lw, fC, fR, pl, n, q, cs, G, ad, z, la, ce, ro, rb, hok, hC, hR⟩⟩⟩
  obtain rfl := hf hn0
  have hpl : ¬ pl = 0 := fun z => hn0 (hnp.mpr z)
  have hp0 : 0 < pl := by omega
  obtain ⟨X1, X2, X3, X4, X5, -⟩ := hcX
  have hX : WX S := by
    intro j hj
    obtain ⟨p, s, m, g, o, t, h⟩ := X1 (j + 1) (by omega)
    rw [if_neg (by omega), show 16 + (j + 1) = 17 + j by omega] at h
    exact ⟨p, s, m, g, o, t, h⟩
  obtain ⟨fo, fw, h12, h13, hrd⟩ := hcR
  obtain ⟨fo2, fw2, h48, h49, hrd2⟩ := hmR
  obtain ⟨-, ⟨s44, y44⟩, -, ⟨s46, y46⟩, ⟨s47, y47⟩, -⟩ := hmX
  have he : eC S pl n q cs du lw fC G fC.toInt ad := ⟨c10, hcT, hcN, X3⟩
  obtain ⟨m, hm, rfl⟩ : ∃ m : Nat, (1 ≤ m ∧ m ≤ 5) ∧ a = nI m := ⟨a.toInt.toNat, by omega, (toN (by omega)).1⟩
  obtain ⟨tt, htt, rfl⟩ : ∃ tt : Nat, tt ≤ 200 ∧ b = nI tt := ⟨b.toInt.toNat, by omega, (toN ht.1).1⟩
  by_cases hb : c = -1
  · subst hb
    refine c_X11_trails_m (d := d + 3) htt c0 hg hq hm hpl he X2 X4 X5 hX h12 h13 hrd hro (fun S1 hF hG => ?_)
    refine ⟨_, rfl, ⟨_, hF.at m31 (by omega)⟩, ?_⟩
    exact c_X12_trails_m (d := d + 10) hg hcs (hmN.l hF) (hF.at m31 (by omega)) (hF.at y44 (by omega)) (hF.at y46 (by omega)) (hF.at y47 (by omega)) hrd2 hro hq (hF.at h48 (by omega)) (hF.at h49 (by omega)) hm hp0 hn0 htt (fun S2 hE => ⟨rfl, ST_sr hok hC hR hF hG hE⟩)
  · have hb2 : 0 ≤ c.toInt := by
      have h1 : ¬ c.toInt = -1 := fun z => hb ((xeq _ _).mpr z)
      omega
    obtain ⟨j, hj, rfl⟩ : ∃ j : Nat, j ≤ 4 ∧ c = nI j := ⟨c.toInt.toNat, by omega, (toN hb2).1⟩
    refine c_X11_trails_j (d := d + 3) htt hj c0 hg hq hm hpl he X2 X4 X5 hX h12 h13 hrd hro (fun S1 hF hG => ?_)
    refine ⟨_, rfl, ⟨_, hF.at m31 (by omega)⟩, ?_⟩
    exact c_X12_trails_j (d := d + 10) hj hg hcs (hmN.l hF) (hF.at m31 (by omega)) (hF.at y44 (by omega)) (hF.at y46 (by omega)) (hF.at y47 (by omega)) hrd2 hro hq (hF.at h48 (by omega)) (hF.at h49 (by omega)) hm hp0 hn0 htt (fun S2 hE => ⟨rfl, ST_sr hok hC hR hF hG hE⟩)

set_option maxHeartbeats 4000000 in
set_option maxRecDepth 100000 in
theorem p_worth : P_worth := by
  intro S hST a d
  obtain ⟨flt, tr, du, lw, fC, fR, pl, n, q, cs, G, ad, z, la, ce, ro, rb, hok, hC, hR⟩ := hST
  obtain ⟨hg, hnp, hq, hcs, hdu, hlw, hf, hro, hn8⟩ := id hok
  obtain ⟨c0, hcA, hcS, c10, hcT, hcR, hcN, hcX, c30⟩ := id hC
  obtain ⟨⟨ra, rp, rs, ea, dp, bm, bi, m31⟩, hmN, hmR, hmS, hmX⟩ := id hR
  have hp7 := hg.1
  have hn9 := hg.2.1
  by_cases hx : 0 ≤ a.toInt ∧ a.toInt < n
  case neg =>
    refine c_X11_worth_bad c0 hp7 hn9 hq c10 hx ?_
    exact ⟨_, rfl, ⟨_, m31⟩, c_X12_worth_bad hg hcs m31 hmN hx ⟨rfl, ⟨flt, tr, du, lw, fC, fR, pl, n, q, cs, G, ad, z, la, ce, ro, rb, hok, hC, hR⟩⟩⟩
  have hn0 : ¬ n = 0 := by omega
  obtain ⟨j, hj, rfl⟩ : ∃ j : Nat, j < n ∧ a = nI j := ⟨a.toInt.toNat, by omega, (toN hx.1).1⟩
  obtain rfl := hf hn0
  have hpl : ¬ pl = 0 := fun z => hn0 (hnp.mpr z)
  have hp0 : 0 < pl := by omega
  obtain ⟨X1, X2, X3, X4, X5, -⟩ := hcX
  have hX : WX S := by
    intro j hj
    obtain ⟨p, s, m, g, o, t, h⟩ := X1 (j + 1) (by omega)
    rw [if_neg (by omega), show 16 + (j + 1) = 17 + j by omega] at h
    exact ⟨p, s, m, g, o, t, h⟩
  obtain ⟨fo, fw, h12, h13, hrd⟩ := hcR
  obtain ⟨fo2, fw2, h48, h49, hrd2⟩ := hmR
  obtain ⟨-, ⟨s44, y44⟩, -, ⟨s46, y46⟩, ⟨s47, y47⟩, -⟩ := hmX
  have he : eC S pl n q cs du lw fC G fC.toInt ad := ⟨c10, hcT, hcN, X3⟩
  refine c_X11_worth (d := d + 4) hlw hdu hcs hj c0 hg hq hpl he X2 X4 X5 hX h12 h13 hrd hro (fun S1 hF hG => ?_)
  refine ⟨_, rfl, ⟨_, hF.at m31 (by omega)⟩, ?_⟩
  exact c_X12_worth (d := d + 9) hg hcs (hmN.l hF) (hF.at m31 (by omega)) (hF.at y44 (by omega)) (hF.at y46 (by omega)) (hF.at y47 (by omega)) hj hp0 hdu (fun S2 hE => ⟨rfl, ST_sr hok hC hR hF hG hE⟩)

