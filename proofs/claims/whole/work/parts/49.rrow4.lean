/-! ===== the reference's calls over its searches ===== -/
def RE (M : Int32 → Int32 → Int64 → aE) (S S2 : aS) : Prop := FrR S S2 ∧ (∃ dp bm bi, S2[31]? = some (M dp bm bi)) ∧ (∃ f : Nat → Int32, S2[44]? = some (iA 12 f)) ∧ (∃ f : Nat → Int32, S2[46]? = some (iA 6 f)) ∧ ∃ f : Nat → Int32, S2[47]? = some (iA 5 f)
theorem RX.re {M : Int32 → Int32 → Int64 → aE} {b : Bool} {o : Int} {x : Nat} {S0 S : aS} {dv : Int32} {s : Nat} {r e : Nat → Nat} {acc : rV} (h : RX M b o x S0 S dv s r e acc) : RE M S0 S := by
  obtain ⟨hF, bm, bi, R, E, B, h1, h2, h3, h4, -⟩ := h
  exact ⟨hF, ⟨_, _, _, h1⟩, ⟨_, h2⟩, ⟨_, h3⟩, ⟨_, h4⟩⟩
theorem anZ_neg {b : Bool} {x : Nat} {acc : rV} {bm : Int32} {bi : Int64} {B : Nat → Int32} (hkp : kpR b 100000 x acc bm bi B) : anZ 100000 acc < 0 ↔ anZ 100000 acc = -9 := by
  obtain ⟨c, bb⟩ := acc
  obtain ⟨k2, k3⟩ := hkp
  cases bb with
  | none => exact ⟨fun _ => rfl, fun _ => (by decide : (-9 : Int32) < 0)⟩
  | some v =>
    obtain ⟨z, s, r⟩ := v
    obtain ⟨f1, f2, f3, f4, f5, f6, f7, f8⟩ := k3 z s r rfl
    show iZ (100000 + z) < 0 ↔ iZ (100000 + z) = -9
    rw [xlt, xeq, iZt (by omega), z32_0, z32_m9]
    omega

set_option maxHeartbeats 4000000 in
set_option maxRecDepth 100000 in
theorem c_X12_refusedFor {d : Nat} {S : aS} {Q : Option Value → aS → Prop} {flt du lw fr cl ra rp rs ea dp bm rd tr : Int32} {bi : Int64} {pl n : Nat} (hn9 : n ≤ 9) (hM : S[31]? = some (mo flt (nI pl) (nI n) du lw fr cl ra rp rs ea dp bm bi rd tr)) {x y : Int32} (kb : ¬ ((1 ≤ x.toInt ∧ x.toInt ≤ 5) ∧ (-1 ≤ y.toInt ∧ y.toInt ≤ 4)) → Q (some (.int (-2))) S) (ks : ((1 ≤ x.toInt ∧ x.toInt ≤ 5) ∧ (-1 ≤ y.toInt ∧ y.toInt ≤ 4)) → n = 0 → Q (some (.int (-3))) S) (k : ((1 ≤ x.toInt ∧ x.toInt ≤ 5) ∧ (-1 ≤ y.toInt ∧ y.toInt ≤ 4)) → ¬ n = 0 → Q (some (.int 0)) S) : Mth mX12_refusedFor (d + 1) 0 [.ref 31, .int x, .int y] S Q := by
  refine Mth_of (by decide) rfl ?_
  refine Ev_iload_n dX12_refusedFor_0 rfl ?_
  refine Ev_i2l dX12_refusedFor_1 ?_
  refine Ev_lconst (v := 1) dX12_refusedFor_2 (by decide) ?_
  refine Ev_ldc2 dX12_refusedFor_3 wl_X12_252 ?_
  refine Ev_callS (bc := 0) (b := 0) dX12_refusedFor_6 cs_X12_97 rfl (Nat.le_of_ble_eq_true rfl) (by omega) ?_
  refine c_X12_in (x := _) (y := 1) (z := 5) (x64 _) rfl rfl (fun q1 => ?_) (fun q1 => ?_)
  · skip
    refine Ev_if_eq dX12_refusedFor_9 (fun c => absurd c (by decide)) (fun _ => ?_)
    refine Ev_iload_n dX12_refusedFor_12 rfl ?_
    refine Ev_i2l dX12_refusedFor_13 ?_
    refine Ev_ldc2 dX12_refusedFor_14 wl_X12_254 ?_
    refine Ev_ldc2 dX12_refusedFor_17 wl_X12_256 ?_
    refine Ev_callS (bc := 0) (b := 0) dX12_refusedFor_20 cs_X12_97 rfl (Nat.le_of_ble_eq_true rfl) (by omega) ?_
    refine c_X12_in (x := _) (y := (-1)) (z := 4) (x64 _) rfl rfl (fun q2 => ?_) (fun q2 => ?_)
    · skip
      refine Ev_if_ne dX12_refusedFor_23 (fun _ => ?_) (fun c => absurd c (by decide))
      refine Ev_aload_n dX12_refusedFor_31 rfl ?_
      refine Ev_get dX12_refusedFor_32 fg_X12_101_12 hM rfl ?_
      refine Ev_if_ne dX12_refusedFor_35 (fun c3 => ?_) (fun c3 => ?_)
      · skip
        have c3 : ¬ (n = 0) := fun z => c3 ((nIinj (a := n) (b := 0) (by omega) (by omega)).mpr z)
        refine Ev_iconst (v := 0) dX12_refusedFor_43 (by decide) ?_
        refine Ev_iret dX12_refusedFor_44 rfl rfl ?_
        first | exact k (by omega) (by omega) | exact ks (by omega) (by omega) | exact kb (by omega)
      · skip
        have c3 : n = 0 := (nIinj (a := n) (b := 0) (by omega) (by omega)).mp c3
        refine Ev_bipush (v := (-3)) dX12_refusedFor_38 (by decide) ?_
        refine Ev_goto dX12_refusedFor_40 ?_
        refine Ev_iret dX12_refusedFor_44 rfl rfl ?_
        first | exact k (by omega) (by omega) | exact ks (by omega) (by omega) | exact kb (by omega)
    · skip
      refine Ev_if_ne dX12_refusedFor_23 (fun c => absurd (by decide) c) (fun _ => ?_)
      refine Ev_bipush (v := (-2)) dX12_refusedFor_26 (by decide) ?_
      refine Ev_goto dX12_refusedFor_28 ?_
      refine Ev_iret dX12_refusedFor_44 rfl rfl ?_
      first | exact k (by omega) (by omega) | exact ks (by omega) (by omega) | exact kb (by omega)
  · skip
    refine Ev_if_eq dX12_refusedFor_9 (fun _ => ?_) (fun c => absurd (by decide) c)
    refine Ev_bipush (v := (-2)) dX12_refusedFor_26 (by decide) ?_
    refine Ev_goto dX12_refusedFor_28 ?_
    refine Ev_iret dX12_refusedFor_44 rfl rfl ?_
    first | exact k (by omega) (by omega) | exact ks (by omega) (by omega) | exact kb (by omega)

set_option maxHeartbeats 4000000 in
set_option maxRecDepth 100000 in
theorem c_X12_best_b {d : Nat} {S : aS} {Q : Option Value → aS → Prop} {flt du lw fr cl ra rp rs ea dp bm rd tr : Int32} {bi : Int64} {pl n : Nat} (hn9 : n ≤ 9) (hM : S[31]? = some (mo flt (nI pl) (nI n) du lw fr cl ra rp rs ea dp bm bi rd tr)) {x y : Int32} (hxy : ¬ ((1 ≤ x.toInt ∧ x.toInt ≤ 5) ∧ (-1 ≤ y.toInt ∧ y.toInt ≤ 4))) (k : Q (some (.int (-2))) S) : Mth mX12_best (d + 2) 0 [.ref 31, .int x, .int y] S Q := by
  refine Mth_of (by decide) rfl ?_
  refine Ev_aload_n dX12_best_0 rfl ?_
  refine Ev_iload_n dX12_best_1 rfl ?_
  refine Ev_iload_n dX12_best_2 rfl ?_
  refine Ev_callV (bc := 0) (b := 0) dX12_best_3 cv_X12_258 rfl hM (Nat.le_of_ble_eq_true rfl) (by omega) ?_
  refine c_X12_refusedFor hn9 hM (fun _ => ?_) (fun z => absurd z hxy) (fun z => absurd z hxy)
  refine Ev_istore_n dX12_best_6 rfl ?_
  refine Ev_iload_n dX12_best_7 rfl ?_
  refine Ev_if_ge dX12_best_8 (fun c => absurd c (by decide)) (fun _ => ?_)
  refine Ev_iload_n dX12_best_11 rfl ?_
  refine Ev_iret dX12_best_12 rfl rfl ?_
  exact k

set_option maxHeartbeats 4000000 in
set_option maxRecDepth 100000 in
theorem c_X12_best_s {d : Nat} {S : aS} {Q : Option Value → aS → Prop} {flt du lw fr cl ra rp rs ea dp bm rd tr : Int32} {bi : Int64} {pl n : Nat} (hn9 : n ≤ 9) (hM : S[31]? = some (mo flt (nI pl) (nI n) du lw fr cl ra rp rs ea dp bm bi rd tr)) {x y : Int32} (hxy : (1 ≤ x.toInt ∧ x.toInt ≤ 5) ∧ (-1 ≤ y.toInt ∧ y.toInt ≤ 4)) (hn0 : n = 0) (k : Q (some (.int (-3))) S) : Mth mX12_best (d + 2) 0 [.ref 31, .int x, .int y] S Q := by
  refine Mth_of (by decide) rfl ?_
  refine Ev_aload_n dX12_best_0 rfl ?_
  refine Ev_iload_n dX12_best_1 rfl ?_
  refine Ev_iload_n dX12_best_2 rfl ?_
  refine Ev_callV (bc := 0) (b := 0) dX12_best_3 cv_X12_258 rfl hM (Nat.le_of_ble_eq_true rfl) (by omega) ?_
  refine c_X12_refusedFor hn9 hM (fun z => absurd hxy z) (fun _ _ => ?_) (fun _ z => absurd hn0 z)
  refine Ev_istore_n dX12_best_6 rfl ?_
  refine Ev_iload_n dX12_best_7 rfl ?_
  refine Ev_if_ge dX12_best_8 (fun c => absurd c (by decide)) (fun _ => ?_)
  refine Ev_iload_n dX12_best_11 rfl ?_
  refine Ev_iret dX12_best_12 rfl rfl ?_
  exact k

set_option maxHeartbeats 4000000 in
set_option maxRecDepth 100000 in
theorem c_X12_safest_b {d : Nat} {S : aS} {Q : Option Value → aS → Prop} {flt du lw fr cl ra rp rs ea dp bm rd tr : Int32} {bi : Int64} {pl n : Nat} (hn9 : n ≤ 9) (hM : S[31]? = some (mo flt (nI pl) (nI n) du lw fr cl ra rp rs ea dp bm bi rd tr)) {x y : Int32} (hxy : ¬ ((1 ≤ x.toInt ∧ x.toInt ≤ 5) ∧ (-1 ≤ y.toInt ∧ y.toInt ≤ 4))) (k : Q (some (.int (-2))) S) : Mth mX12_safest (d + 2) 0 [.ref 31, .int x, .int y] S Q := by
  refine Mth_of (by decide) rfl ?_
  refine Ev_aload_n dX12_safest_0 rfl ?_
  refine Ev_iload_n dX12_safest_1 rfl ?_
  refine Ev_iload_n dX12_safest_2 rfl ?_
  refine Ev_callV (bc := 0) (b := 0) dX12_safest_3 cv_X12_258 rfl hM (Nat.le_of_ble_eq_true rfl) (by omega) ?_
  refine c_X12_refusedFor hn9 hM (fun _ => ?_) (fun z => absurd z hxy) (fun z => absurd z hxy)
  refine Ev_istore_n dX12_safest_6 rfl ?_
  refine Ev_iload_n dX12_safest_7 rfl ?_
  refine Ev_if_ge dX12_safest_8 (fun c => absurd c (by decide)) (fun _ => ?_)
  refine Ev_iload_n dX12_safest_11 rfl ?_
  refine Ev_iret dX12_safest_12 rfl rfl ?_
  exact k

set_option maxHeartbeats 4000000 in
set_option maxRecDepth 100000 in
theorem c_X12_safest_s {d : Nat} {S : aS} {Q : Option Value → aS → Prop} {flt du lw fr cl ra rp rs ea dp bm rd tr : Int32} {bi : Int64} {pl n : Nat} (hn9 : n ≤ 9) (hM : S[31]? = some (mo flt (nI pl) (nI n) du lw fr cl ra rp rs ea dp bm bi rd tr)) {x y : Int32} (hxy : (1 ≤ x.toInt ∧ x.toInt ≤ 5) ∧ (-1 ≤ y.toInt ∧ y.toInt ≤ 4)) (hn0 : n = 0) (k : Q (some (.int (-3))) S) : Mth mX12_safest (d + 2) 0 [.ref 31, .int x, .int y] S Q := by
  refine Mth_of (by decide) rfl ?_
  refine Ev_aload_n dX12_safest_0 rfl ?_
  refine Ev_iload_n dX12_safest_1 rfl ?_
  refine Ev_iload_n dX12_safest_2 rfl ?_
  refine Ev_callV (bc := 0) (b := 0) dX12_safest_3 cv_X12_258 rfl hM (Nat.le_of_ble_eq_true rfl) (by omega) ?_
  refine c_X12_refusedFor hn9 hM (fun z => absurd hxy z) (fun _ _ => ?_) (fun _ z => absurd hn0 z)
  refine Ev_istore_n dX12_safest_6 rfl ?_
  refine Ev_iload_n dX12_safest_7 rfl ?_
  refine Ev_if_ge dX12_safest_8 (fun c => absurd c (by decide)) (fun _ => ?_)
  refine Ev_iload_n dX12_safest_11 rfl ?_
  refine Ev_iret dX12_safest_12 rfl rfl ?_
  exact k

set_option maxHeartbeats 4000000 in
set_option maxRecDepth 100000 in
theorem c_X12_best_m {d : Nat} {S : aS} {Q : Option Value → aS → Prop} {flt du lw fr ra rp rs ea dp bm tr : Int32} {bi : Int64} {pl n cs q : Nat} {m : Nat} {G : Nat → Nat → Nat} (hg : GD pl n G) (hcs : cs < 512) (hG : MN S n G) (h31 : S[31]? = some (mo flt (nI pl) (nI n) du lw fr (nI cs) ra rp rs ea dp bm bi (nI q) tr)) {R E B : Nat → Int32} (h44 : S[44]? = some (iA 12 R)) (h46 : S[46]? = some (iA 6 E)) (h47 : S[47]? = some (iA 5 B)) (hm : 1 ≤ m ∧ m ≤ 5) (hp0 : 0 < pl) (hn0 : ¬ n = 0) (hdu : 0 ≤ du.toInt ∧ du.toInt ≤ 99) (k : ∀ (S2 : aS), RE (moM flt du lw fr ra rp rs ea tr pl n cs q) S S2 → Q (some (.int (anZ 100000 (Dn G cs n (pl - 1) (vJ G n fr.toInt lw.toInt du.toInt) m 0 r0 0)))) S2)  : Mth mX12_best (d + 10) 0 [.ref 31, .int (nI m), .int (-1)] S Q := by
  have hn9 := hg.2.1
  have hxy : (1 ≤ (nI m).toInt ∧ (nI m).toInt ≤ 5) ∧ (-1 ≤ ((-1) : Int32).toInt ∧ ((-1) : Int32).toInt ≤ 4) := by
    rw [nIt (by omega)]
    exact ⟨by omega, by decide⟩
  refine Mth_of (by decide) rfl ?_
  refine Ev_aload_n dX12_best_0 rfl ?_
  refine Ev_iload_n dX12_best_1 rfl ?_
  refine Ev_iload_n dX12_best_2 rfl ?_
  refine Ev_callV (bc := 0) (b := 0) dX12_best_3 cv_X12_258 rfl h31 (Nat.le_of_ble_eq_true rfl) (by omega) ?_
  refine c_X12_refusedFor hn9 h31 (fun z => absurd hxy z) (fun _ z => absurd z hn0) (fun _ _ => ?_)
  refine Ev_istore_n dX12_best_6 rfl ?_
  refine Ev_iload_n dX12_best_7 rfl ?_
  refine Ev_if_ge dX12_best_8 (fun _ => ?_) (fun c => absurd (by decide) c)
  refine Ev_aload_n dX12_best_13 rfl ?_
  refine Ev_iload_n dX12_best_14 rfl ?_
  refine Ev_iconst (v := 0) dX12_best_15 (by decide) ?_
  refine Ev_callV (bc := 0) (b := 0) dX12_best_16 cv_X12_261 rfl h31 (Nat.le_of_ble_eq_true rfl) (by omega) ?_
  refine c_seek0 hg hcs hG h31 h44 h46 h47 hm hp0 hdu (fun S2 dv hX => ?_)
  have hX3 := hX
  obtain ⟨hF2, bm2, bi2, R2, E2, B2, g31, g44, g46, g47, gR, gE, gkp⟩ := hX3
  refine Ev_aload_n dX12_best_19 rfl ?_
  refine Ev_iload_n dX12_best_20 rfl ?_
  refine Ev_callV (bc := 0) (b := 0) dX12_best_21 cv_X12_265 rfl g31 (Nat.le_of_ble_eq_true rfl) (by omega) ?_
  refine c_toldM g31 gkp hm.2 (by omega) ?_
  refine Ev_iret dX12_best_24 rfl rfl ?_
  exact k S2 hX.re

set_option maxHeartbeats 4000000 in
set_option maxRecDepth 100000 in
theorem c_X12_best_j {d : Nat} {S : aS} {Q : Option Value → aS → Prop} {flt du lw fr ra rp rs ea dp bm tr : Int32} {bi : Int64} {pl n cs q : Nat} {m : Nat} {G : Nat → Nat → Nat} {j : Nat} (hj : j ≤ 4) (hg : GD pl n G) (hcs : cs < 512) (hG : MN S n G) (h31 : S[31]? = some (mo flt (nI pl) (nI n) du lw fr (nI cs) ra rp rs ea dp bm bi (nI q) tr)) {R E B : Nat → Int32} (h44 : S[44]? = some (iA 12 R)) (h46 : S[46]? = some (iA 6 E)) (h47 : S[47]? = some (iA 5 B)) (hm : 1 ≤ m ∧ m ≤ 5) (hp0 : 0 < pl) (hn0 : ¬ n = 0) (hdu : 0 ≤ du.toInt ∧ du.toInt ≤ 99) (k : ∀ (S2 : aS), RE (moM flt du lw fr ra rp rs ea tr pl n cs q) S S2 → Q (some (.int (anJ (Dn G cs n (pl - 1) (vJ G n fr.toInt lw.toInt du.toInt) m 0 r0 0) j))) S2)  : Mth mX12_best (d + 10) 0 [.ref 31, .int (nI m), .int (nI j)] S Q := by
  have hn9 := hg.2.1
  have hxy : (1 ≤ (nI m).toInt ∧ (nI m).toInt ≤ 5) ∧ (-1 ≤ (nI j : Int32).toInt ∧ (nI j : Int32).toInt ≤ 4) := by
    rw [nIt (by omega), nIt (by omega)]
    omega
  refine Mth_of (by decide) rfl ?_
  refine Ev_aload_n dX12_best_0 rfl ?_
  refine Ev_iload_n dX12_best_1 rfl ?_
  refine Ev_iload_n dX12_best_2 rfl ?_
  refine Ev_callV (bc := 0) (b := 0) dX12_best_3 cv_X12_258 rfl h31 (Nat.le_of_ble_eq_true rfl) (by omega) ?_
  refine c_X12_refusedFor hn9 h31 (fun z => absurd hxy z) (fun _ z => absurd z hn0) (fun _ _ => ?_)
  refine Ev_istore_n dX12_best_6 rfl ?_
  refine Ev_iload_n dX12_best_7 rfl ?_
  refine Ev_if_ge dX12_best_8 (fun _ => ?_) (fun c => absurd (by decide) c)
  refine Ev_aload_n dX12_best_13 rfl ?_
  refine Ev_iload_n dX12_best_14 rfl ?_
  refine Ev_iconst (v := 0) dX12_best_15 (by decide) ?_
  refine Ev_callV (bc := 0) (b := 0) dX12_best_16 cv_X12_261 rfl h31 (Nat.le_of_ble_eq_true rfl) (by omega) ?_
  refine c_seek0 hg hcs hG h31 h44 h46 h47 hm hp0 hdu (fun S2 dv hX => ?_)
  have hX3 := hX
  obtain ⟨hF2, bm2, bi2, R2, E2, B2, g31, g44, g46, g47, gR, gE, gkp⟩ := hX3
  refine Ev_aload_n dX12_best_19 rfl ?_
  refine Ev_iload_n dX12_best_20 rfl ?_
  refine Ev_callV (bc := 0) (b := 0) dX12_best_21 cv_X12_265 rfl g31 (Nat.le_of_ble_eq_true rfl) (by omega) ?_
  refine c_toldJ g31 g47 gkp hm.2 hj ?_
  refine Ev_iret dX12_best_24 rfl rfl ?_
  exact k S2 hX.re

set_option maxHeartbeats 4000000 in
set_option maxRecDepth 100000 in
theorem c_X12_safest_m {d : Nat} {S : aS} {Q : Option Value → aS → Prop} {flt du lw fr ra rp rs ea dp bm tr : Int32} {bi : Int64} {pl n cs q : Nat} {m : Nat} {G : Nat → Nat → Nat} (hg : GD pl n G) (hcs : cs < 512) (hG : MN S n G) (h31 : S[31]? = some (mo flt (nI pl) (nI n) du lw fr (nI cs) ra rp rs ea dp bm bi (nI q) tr)) {R E B : Nat → Int32} (h44 : S[44]? = some (iA 12 R)) (h46 : S[46]? = some (iA 6 E)) (h47 : S[47]? = some (iA 5 B)) (hm : 1 ≤ m ∧ m ≤ 5) (hp0 : 0 < pl) (hn0 : ¬ n = 0) (k : ∀ (S2 : aS), RE (moM flt du lw fr ra rp rs ea tr pl n cs q) S S2 → Q (some (.int (anZ 0 (Dn G cs n (pl - 1) (vS G fr.toInt) m 0 r0 0)))) S2)  : Mth mX12_safest (d + 10) 0 [.ref 31, .int (nI m), .int (-1)] S Q := by
  have hn9 := hg.2.1
  have hxy : (1 ≤ (nI m).toInt ∧ (nI m).toInt ≤ 5) ∧ (-1 ≤ ((-1) : Int32).toInt ∧ ((-1) : Int32).toInt ≤ 4) := by
    rw [nIt (by omega)]
    exact ⟨by omega, by decide⟩
  refine Mth_of (by decide) rfl ?_
  refine Ev_aload_n dX12_safest_0 rfl ?_
  refine Ev_iload_n dX12_safest_1 rfl ?_
  refine Ev_iload_n dX12_safest_2 rfl ?_
  refine Ev_callV (bc := 0) (b := 0) dX12_safest_3 cv_X12_258 rfl h31 (Nat.le_of_ble_eq_true rfl) (by omega) ?_
  refine c_X12_refusedFor hn9 h31 (fun z => absurd hxy z) (fun _ z => absurd z hn0) (fun _ _ => ?_)
  refine Ev_istore_n dX12_safest_6 rfl ?_
  refine Ev_iload_n dX12_safest_7 rfl ?_
  refine Ev_if_ge dX12_safest_8 (fun _ => ?_) (fun c => absurd (by decide) c)
  refine Ev_aload_n dX12_safest_13 rfl ?_
  refine Ev_iload_n dX12_safest_14 rfl ?_
  refine Ev_iconst (v := 1) dX12_safest_15 (by decide) ?_
  refine Ev_callV (bc := 0) (b := 0) dX12_safest_16 cv_X12_261 rfl h31 (Nat.le_of_ble_eq_true rfl) (by omega) ?_
  refine c_seek1 hg hcs hG h31 h44 h46 h47 hm hp0 (fun S2 dv hX => ?_)
  have hX3 := hX
  obtain ⟨hF2, bm2, bi2, R2, E2, B2, g31, g44, g46, g47, gR, gE, gkp⟩ := hX3
  refine Ev_aload_n dX12_safest_19 rfl ?_
  refine Ev_iload_n dX12_safest_20 rfl ?_
  refine Ev_callV (bc := 0) (b := 0) dX12_safest_21 cv_X12_265 rfl g31 (Nat.le_of_ble_eq_true rfl) (by omega) ?_
  refine c_toldM g31 gkp hm.2 (by omega) ?_
  refine Ev_iret dX12_safest_24 rfl rfl ?_
  exact k S2 hX.re

set_option maxHeartbeats 4000000 in
set_option maxRecDepth 100000 in
theorem c_X12_safest_j {d : Nat} {S : aS} {Q : Option Value → aS → Prop} {flt du lw fr ra rp rs ea dp bm tr : Int32} {bi : Int64} {pl n cs q : Nat} {m : Nat} {G : Nat → Nat → Nat} {j : Nat} (hj : j ≤ 4) (hg : GD pl n G) (hcs : cs < 512) (hG : MN S n G) (h31 : S[31]? = some (mo flt (nI pl) (nI n) du lw fr (nI cs) ra rp rs ea dp bm bi (nI q) tr)) {R E B : Nat → Int32} (h44 : S[44]? = some (iA 12 R)) (h46 : S[46]? = some (iA 6 E)) (h47 : S[47]? = some (iA 5 B)) (hm : 1 ≤ m ∧ m ≤ 5) (hp0 : 0 < pl) (hn0 : ¬ n = 0) (k : ∀ (S2 : aS), RE (moM flt du lw fr ra rp rs ea tr pl n cs q) S S2 → Q (some (.int (anJ (Dn G cs n (pl - 1) (vS G fr.toInt) m 0 r0 0) j))) S2)  : Mth mX12_safest (d + 10) 0 [.ref 31, .int (nI m), .int (nI j)] S Q := by
  have hn9 := hg.2.1
  have hxy : (1 ≤ (nI m).toInt ∧ (nI m).toInt ≤ 5) ∧ (-1 ≤ (nI j : Int32).toInt ∧ (nI j : Int32).toInt ≤ 4) := by
    rw [nIt (by omega), nIt (by omega)]
    omega
  refine Mth_of (by decide) rfl ?_
  refine Ev_aload_n dX12_safest_0 rfl ?_
  refine Ev_iload_n dX12_safest_1 rfl ?_
  refine Ev_iload_n dX12_safest_2 rfl ?_
  refine Ev_callV (bc := 0) (b := 0) dX12_safest_3 cv_X12_258 rfl h31 (Nat.le_of_ble_eq_true rfl) (by omega) ?_
  refine c_X12_refusedFor hn9 h31 (fun z => absurd hxy z) (fun _ z => absurd z hn0) (fun _ _ => ?_)
  refine Ev_istore_n dX12_safest_6 rfl ?_
  refine Ev_iload_n dX12_safest_7 rfl ?_
  refine Ev_if_ge dX12_safest_8 (fun _ => ?_) (fun c => absurd (by decide) c)
  refine Ev_aload_n dX12_safest_13 rfl ?_
  refine Ev_iload_n dX12_safest_14 rfl ?_
  refine Ev_iconst (v := 1) dX12_safest_15 (by decide) ?_
  refine Ev_callV (bc := 0) (b := 0) dX12_safest_16 cv_X12_261 rfl h31 (Nat.le_of_ble_eq_true rfl) (by omega) ?_
  refine c_seek1 hg hcs hG h31 h44 h46 h47 hm hp0 (fun S2 dv hX => ?_)
  have hX3 := hX
  obtain ⟨hF2, bm2, bi2, R2, E2, B2, g31, g44, g46, g47, gR, gE, gkp⟩ := hX3
  refine Ev_aload_n dX12_safest_19 rfl ?_
  refine Ev_iload_n dX12_safest_20 rfl ?_
  refine Ev_callV (bc := 0) (b := 0) dX12_safest_21 cv_X12_265 rfl g31 (Nat.le_of_ble_eq_true rfl) (by omega) ?_
  refine c_toldJ g31 g47 gkp hm.2 hj ?_
  refine Ev_iret dX12_safest_24 rfl rfl ?_
  exact k S2 hX.re

set_option maxHeartbeats 4000000 in
set_option maxRecDepth 100000 in
theorem c_X12_worth_bad {d : Nat} {S : aS} {Q : Option Value → aS → Prop} {flt du lw fr ra rp rs ea dp bm rd tr : Int32} {bi : Int64} {pl n cs : Nat} {G : Nat → Nat → Nat} (hg : GD pl n G) (hcs : cs < 512) (hM : S[31]? = some (mo flt (nI pl) (nI n) du lw fr (nI cs) ra rp rs ea dp bm bi rd tr)) (hG : MN S n G) {x : Int32} (hx : ¬ (0 ≤ x.toInt ∧ x.toInt < n)) (k : Q (some (.int (-1))) S) : Mth mX12_worth (d + 2) 0 [.ref 31, .int x] S Q := by
  have hn9 := hg.2.1
  have hp7 := hg.1
  refine Mth_of (by decide) rfl ?_
  refine Ev_aload_n dX12_worth_0 rfl ?_
  refine Ev_iload_n dX12_worth_1 rfl ?_
  refine Ev_callV (bc := 0) (b := 0) dX12_worth_2 cv_X12_167 rfl hM (Nat.le_of_ble_eq_true rfl) (by omega) ?_
  refine c_X12_noStretch hp7 hn9 hM (fun _ => ?_) (fun q => absurd q hx)
  refine Ev_if_eq dX12_worth_5 (fun c => absurd c (by decide)) (fun _ => ?_)
  refine Ev_iconst (v := (-1)) dX12_worth_8 (by decide) ?_
  refine Ev_iret dX12_worth_9 rfl rfl ?_
  exact k

theorem ltz {a : Int32} (h : ¬ 0 ≤ a) : a < 0 := by
  rw [xle, z32_0] at h
  rw [xlt, z32_0]
  omega
theorem nltz {a : Int32} (h : 0 ≤ a) : ¬ a < 0 := by
  rw [xle, z32_0] at h
  rw [xlt, z32_0]
  omega

set_option maxHeartbeats 4000000 in
set_option maxRecDepth 100000 in
theorem c_X12_worth {d : Nat} {S : aS} {Q : Option Value → aS → Prop} {flt du lw fr ra rp rs ea dp bm tr : Int32} {bi : Int64} {pl n cs q : Nat} {j : Nat} {G : Nat → Nat → Nat} (hg : GD pl n G) (hcs : cs < 512) (hG : MN S n G) (h31 : S[31]? = some (mo flt (nI pl) (nI n) du lw fr (nI cs) ra rp rs ea dp bm bi (nI q) tr)) {R E B : Nat → Int32} (h44 : S[44]? = some (iA 12 R)) (h46 : S[46]? = some (iA 6 E)) (h47 : S[47]? = some (iA 5 B)) (hj : j < n) (hp0 : 0 < pl) (hdu : 0 ≤ du.toInt ∧ du.toInt ≤ 99) (k : ∀ (S2 : aS), RE (moM flt du lw fr ra rp rs ea tr pl n cs q) S S2 → Q (some (.int (wrA (anZ 100000 (Dn G cs n (pl - 1) (vJ G n fr.toInt lw.toInt du.toInt) 4 0 r0 0)) (anZ 100000 (Dn G (setb cs j true) n (pl - 1) (vJ G n fr.toInt lw.toInt du.toInt) 4 0 r0 0))))) S2)  : Mth mX12_worth (d + 10) 0 [.ref 31, .int (nI j)] S Q := by
  have hn9 := hg.2.1
  have hp7 := hg.1
  have hc2 := setb_lt (b := true) hcs (show j < 9 by omega)
  refine Mth_of (by decide) rfl ?_
  refine Ev_aload_n dX12_worth_0 rfl ?_
  refine Ev_iload_n dX12_worth_1 rfl ?_
  refine Ev_callV (bc := 0) (b := 0) dX12_worth_2 cv_X12_167 rfl h31 (Nat.le_of_ble_eq_true rfl) (by omega) ?_
  refine c_X12_noStretch hp7 hn9 h31 (fun q => absurd q (not_not_intro (by rw [nIt (by omega)]; omega))) (fun _ => ?_)
  refine Ev_if_eq dX12_worth_5 (fun _ => ?_) (fun c => absurd (by decide) c)
  refine Ev_aload_n dX12_worth_10 rfl ?_
  refine Ev_get dX12_worth_11 fg_X12_158_12 h31 rfl ?_
  refine Ev_istore_n dX12_worth_14 rfl ?_
  refine Ev_aload_n dX12_worth_15 rfl ?_
  refine Ev_iconst (v := 4) dX12_worth_16 (by decide) ?_
  refine Ev_iconst (v := 0) dX12_worth_17 (by decide) ?_
  refine Ev_callV (bc := 0) (b := 0) dX12_worth_18 cv_X12_261 rfl h31 (Nat.le_of_ble_eq_true rfl) (by omega) ?_
  refine c_seek0 (m := 4) hg hcs hG h31 h44 h46 h47 ⟨by decide, by decide⟩ hp0 hdu (fun S2 dv hX => ?_)
  obtain ⟨hF2, bm2, bi2, R2, E2, B2, g31, g44, g46, g47, gR, gE, gkp⟩ := hX
  refine Ev_aload_n dX12_worth_21 rfl ?_
  refine Ev_iconst (v := (-1)) dX12_worth_22 (by decide) ?_
  refine Ev_callV (bc := 0) (b := 0) dX12_worth_23 cv_X12_265 rfl g31 (Nat.le_of_ble_eq_true rfl) (by omega) ?_
  refine c_toldM g31 gkp (by decide) (by decide) ?_
  refine Ev_istore_n dX12_worth_26 rfl ?_
  refine Ev_aload_n dX12_worth_27 rfl ?_
  refine Ev_iload_n dX12_worth_28 rfl ?_
  refine Ev_iconst (v := 1) dX12_worth_29 (by decide) ?_
  refine Ev_iload_n dX12_worth_30 rfl ?_
  refine Ev_ishl dX12_worth_31 ?_
  refine Ev_topi (y := nI (2 ^ j)) (oneShl (by omega)) ?_
  refine Ev_ior dX12_worth_32 ?_
  refine Ev_topi (y := nI (setb cs j true)) (orN _ _) ?_
  refine Ev_put dX12_worth_33 fr_X12_158_12 g31 rfl rfl rfl ?_
  refine Ev_aload_n dX12_worth_36 rfl ?_
  refine Ev_iconst (v := 4) dX12_worth_37 (by decide) ?_
  refine Ev_iconst (v := 0) dX12_worth_38 (by decide) ?_
  refine Ev_callV (bc := 0) (b := 0) dX12_worth_39 cv_X12_261 rfl (gs g31) (Nat.le_of_ble_eq_true rfl) (by omega) ?_
  refine c_seek0 (m := 4) (cs := setb cs j true) hg hc2 ((hG.fr hF2).off (by decide)) (gs g31) (gn (by decide) g44) (gn (by decide) g46) (gn (by decide) g47) ⟨by decide, by decide⟩ hp0 hdu (fun S4 dv4 hX4 => ?_)
  obtain ⟨hF4, bm4, bi4, R4, E4, B4, i31, i44, i46, i47, iR, iE, ikp⟩ := hX4
  refine Ev_aload_n dX12_worth_42 rfl ?_
  refine Ev_iconst (v := (-1)) dX12_worth_43 (by decide) ?_
  refine Ev_callV (bc := 0) (b := 0) dX12_worth_44 cv_X12_265 rfl i31 (Nat.le_of_ble_eq_true rfl) (by omega) ?_
  refine c_toldM i31 ikp (by decide) (by decide) ?_
  refine Ev_istore dX12_worth_47 rfl ?_
  refine Ev_aload_n dX12_worth_49 rfl ?_
  refine Ev_iload_n dX12_worth_50 rfl ?_
  refine Ev_put dX12_worth_51 fr_X12_158_12 i31 rfl rfl rfl ?_
  refine Ev_iload_n dX12_worth_54 rfl ?_
  refine Ev_if_lt dX12_worth_55 (fun c1 => ?_) (fun c1 => ?_)
  · skip
    refine Ev_bipush (v := (-9)) dX12_worth_63 (by decide) ?_
    refine Ev_goto dX12_worth_65 ?_
    refine Ev_iret dX12_worth_72 rfl rfl ?_
    have hk := k _ ⟨FrR.st (hF2.tr ((FrR.st FrR.rf (Or.inl rfl)).tr hF4)) (Or.inl rfl), ⟨dv4, bm4, bi4, gs i31⟩, ⟨_, gn (by decide) i44⟩, ⟨_, gn (by decide) i46⟩, ⟨_, gn (by decide) i47⟩⟩
    rw [wrA, if_pos (Or.inl ((anZ_neg gkp).mp c1))] at hk
    exact hk
  · skip
    refine Ev_iload dX12_worth_58 rfl ?_
    refine Ev_if_ge dX12_worth_60 (fun c2 => ?_) (fun c2 => ?_)
    · skip
      refine Ev_iload_n dX12_worth_68 rfl ?_
      refine Ev_iload dX12_worth_69 rfl ?_
      refine Ev_isub dX12_worth_71 ?_
      refine Ev_iret dX12_worth_72 rfl rfl ?_
      have hk := k _ ⟨FrR.st (hF2.tr ((FrR.st FrR.rf (Or.inl rfl)).tr hF4)) (Or.inl rfl), ⟨dv4, bm4, bi4, gs i31⟩, ⟨_, gn (by decide) i44⟩, ⟨_, gn (by decide) i46⟩, ⟨_, gn (by decide) i47⟩⟩
      rw [wrA, if_neg (fun z => z.elim (fun z => c1 ((anZ_neg gkp).mpr z)) (fun z => nltz c2 ((anZ_neg ikp).mpr z)))] at hk
      exact hk
    · skip
      refine Ev_bipush (v := (-9)) dX12_worth_63 (by decide) ?_
      refine Ev_goto dX12_worth_65 ?_
      refine Ev_iret dX12_worth_72 rfl rfl ?_
      have hk := k _ ⟨FrR.st (hF2.tr ((FrR.st FrR.rf (Or.inl rfl)).tr hF4)) (Or.inl rfl), ⟨dv4, bm4, bi4, gs i31⟩, ⟨_, gn (by decide) i44⟩, ⟨_, gn (by decide) i46⟩, ⟨_, gn (by decide) i47⟩⟩
      rw [wrA, if_pos (Or.inr ((anZ_neg ikp).mp (ltz c2)))] at hk
      exact hk

set_option maxHeartbeats 4000000 in
set_option maxRecDepth 100000 in
theorem ht_trails {D : Nat} {S0 : aS} {Q : Option Value → aS → Prop} {flt du lw fr ra rp rs ea tr : Int32} {pl n cs q : Nat} {G : Nat → Nat → Nat} {m x tt : Nat} {y : Int32} (hg : GD pl n G) (hcs : cs < 512) (hG0 : MN S0 n G) (hx1 : 1 ≤ x) (hx5 : x ≤ 5) (htt : tt ≤ 200) {ro : Nat → Nat} {rb : Nat → Bool} {fo fw : Nat → Int32} (hrd : ∀ x, x < q → fo x = nI (ro x) ∧ fw x = bz (rb x)) (hro : ∀ x, x < q → ro x < n) (hq : q ≤ 8) (h48 : S0[48]? = some (iA 8 fo)) (h49 : S0[49]? = some (zA 8 fw)) : ∀ (S : aS) (r e : Nat → Nat) (acc : rV), (∀ j, j < x → r j < n) → (jn acc ((vT G fr.toInt tt q ro rb) x r)).1 < 2147483647 → RX (moM flt du lw fr ra rp rs ea tr pl n cs q) true 0 x S0 S (nI (x - 1)) x r e acc → (∀ S2, RX (moM flt du lw fr ra rp rs ea tr pl n cs q) true 0 x S0 S2 (nI (x - 1)) x r e (jn acc ((vT G fr.toInt tt q ro rb) x r)) → Ev none mX12_nextRow (D + 6 + 2) 0 0 [some (.ref 31), some (.int (nI x)), none] [] S2 (fun v S2 => Ev none mX12_trails (D + 9) 0 78 [some (.ref 31), some (.int (nI m)), some (.int (nI tt)), some (.int y), some (.int (nI (jn acc ((vT G fr.toInt tt q ro rb) x r)).1)), some (.int (nI x))] (pu v []) S2 Q)) → (fun v S2 => Ev none mX12_trails (D + 9) 0 78 [some (.ref 31), some (.int (nI m)), some (.int (nI tt)), some (.int y), some (.int (nI acc.1)), some (.int (nI x))] (pu v []) S2 Q) (some (.int 1)) S := by
  intro S r e acc hr hcn hX k2
  have hn9 := hg.2.1
  obtain ⟨hF, bm, bi, R, E, B, h31, h44, h46, h47, hR, hE, hkp⟩ := hX
  have hrw : ∀ y, y < x → R y = nI (r y) ∧ r y < n := fun y hy => ⟨hR y hy, hr y hy⟩
  have hsm : sumN (fun y => tk G fr.toInt (r y)) x ≤ x * 21 := sumN_le x (fun y hy => (tk_le hg _ (hr y hy)).1)
  by_cases hmi : sumN (fun y => tk G fr.toInt (r y)) x ≤ tt
  case neg =>
    have ev : (vT G fr.toInt tt q ro rb) x r = un := if_neg (fun z => hmi z.1)
    rw [ev, jn_un] at k2
    · skip
      refine Ev_if_eq dX12_trails_78 (fun c => absurd c (by decide)) (fun _ => ?_)
      refine Ev_aload_n dX12_trails_81 rfl ?_
      refine Ev_iload dX12_trails_82 rfl ?_
      refine Ev_callV (bc := 0) (b := 0) dX12_trails_84 cv_X12_187 rfl h31 (Nat.le_of_ble_eq_true rfl) (by omega) ?_
      refine c_X12_minutesOf hg hcs h31 (hG0.fr hF) (m := x) (by omega) h44 hrw ?_
      refine Ev_iload_n dX12_trails_87 rfl ?_
      refine Ev_icmp_gt dX12_trails_88 (fun _ => ?_) (fun c => absurd ((nlt (by omega) (by omega)).mpr (by omega)) c)
      refine Ev_aload_n dX12_trails_72 rfl ?_
      refine Ev_iload dX12_trails_73 rfl ?_
      refine Ev_callV (bc := 0) (b := 0) dX12_trails_75 cv_X12_242 rfl h31 (Nat.le_of_ble_eq_true rfl) (by omega) ?_
      refine Mth_of (by decide) rfl ?_
      exact k2 _ ⟨hF, _, _, _, _, _, h31, h44, h46, h47, hR, hE, hkp⟩
  cases hts : trB G ro rb (goN r x) q with
  | false =>
    have ev : (vT G fr.toInt tt q ro rb) x r = un := if_neg (fun z => by rw [hts] at z; exact absurd z.2 (by decide))
    rw [ev, jn_un] at k2
    · skip
      refine Ev_if_eq dX12_trails_78 (fun c => absurd c (by decide)) (fun _ => ?_)
      refine Ev_aload_n dX12_trails_81 rfl ?_
      refine Ev_iload dX12_trails_82 rfl ?_
      refine Ev_callV (bc := 0) (b := 0) dX12_trails_84 cv_X12_187 rfl h31 (Nat.le_of_ble_eq_true rfl) (by omega) ?_
      refine c_X12_minutesOf hg hcs h31 (hG0.fr hF) (m := x) (by omega) h44 hrw ?_
      refine Ev_iload_n dX12_trails_87 rfl ?_
      refine Ev_icmp_gt dX12_trails_88 (fun c => absurd c (fun z => absurd ((nlt (by omega) (by omega)).mp z) (by omega))) (fun _ => ?_)
      refine Ev_aload_n dX12_trails_91 rfl ?_
      refine Ev_iload dX12_trails_92 rfl ?_
      refine Ev_callV (bc := 0) (b := 0) dX12_trails_94 cv_X12_270 rfl h31 (Nat.le_of_ble_eq_true rfl) (by omega) ?_
      refine c_X12_areSo hg hcs h31 (hG0.fr hF) (m := x) (by omega) h44 hrw (hF.at h48 (by omega)) (hF.at h49 (by omega)) hrd hro hq ?_
      rw [hts]
      refine Ev_topi (y := 0) rfl ?_
      refine Ev_if_eq dX12_trails_97 (fun _ => ?_) (fun c => absurd (by decide) c)
      refine Ev_aload_n dX12_trails_72 rfl ?_
      refine Ev_iload dX12_trails_73 rfl ?_
      refine Ev_callV (bc := 0) (b := 0) dX12_trails_75 cv_X12_242 rfl h31 (Nat.le_of_ble_eq_true rfl) (by omega) ?_
      refine Mth_of (by decide) rfl ?_
      exact k2 _ ⟨hF, _, _, _, _, _, h31, h44, h46, h47, hR, hE, hkp⟩
  | true =>
    have ev : (vT G fr.toInt tt q ro rb) x r = (1, some (0, x, r)) := if_pos ⟨hmi, hts⟩
    rw [ev] at k2 hcn
    obtain ⟨c, bb⟩ := acc
    obtain ⟨kk2, kk3⟩ := hkp
    have hcn : c + 1 < 2147483647 := hcn
    cases bb with
    | none =>
      obtain ⟨e1, e2⟩ := kk2 rfl
      have e1 : c = 0 := e1
      subst e1
      subst e2
      have hky : kpR true 0 x (jn (0, none) (1, some (0, x, r))) (nI x) 0 (mixI R B x) := by
        refine ⟨fun h => (by cases h), fun z2 s2 r2 h => ?_⟩
        cases h
        exact ⟨Nat.succ_pos 0, rfl, rfl, hx1, Nat.le_refl _, fun _ => rfl, by decide, mixI_pre hR⟩
      refine Ev_if_eq dX12_trails_78 (fun c => absurd c (by decide)) (fun _ => ?_)
      refine Ev_aload_n dX12_trails_81 rfl ?_
      refine Ev_iload dX12_trails_82 rfl ?_
      refine Ev_callV (bc := 0) (b := 0) dX12_trails_84 cv_X12_187 rfl h31 (Nat.le_of_ble_eq_true rfl) (by omega) ?_
      refine c_X12_minutesOf hg hcs h31 (hG0.fr hF) (m := x) (by omega) h44 hrw ?_
      refine Ev_iload_n dX12_trails_87 rfl ?_
      refine Ev_icmp_gt dX12_trails_88 (fun c => absurd c (fun z => absurd ((nlt (by omega) (by omega)).mp z) (by omega))) (fun _ => ?_)
      refine Ev_aload_n dX12_trails_91 rfl ?_
      refine Ev_iload dX12_trails_92 rfl ?_
      refine Ev_callV (bc := 0) (b := 0) dX12_trails_94 cv_X12_270 rfl h31 (Nat.le_of_ble_eq_true rfl) (by omega) ?_
      refine c_X12_areSo hg hcs h31 (hG0.fr hF) (m := x) (by omega) h44 hrw (hF.at h48 (by omega)) (hF.at h49 (by omega)) hrd hro hq ?_
      rw [hts]
      refine Ev_topi (y := 1) rfl ?_
      refine Ev_if_eq dX12_trails_97 (fun c => absurd c (by decide)) (fun _ => ?_)
      refine Ev_iinc (v := nI (0 + 1)) dX12_trails_100 rfl (nI_1 _) rfl ?_
      refine Ev_iload dX12_trails_103 rfl ?_
      refine Ev_iconst (v := 1) dX12_trails_105 (by decide) ?_
      refine Ev_icmp_ne dX12_trails_106 (fun c => absurd (by decide) c) (fun _ => ?_)
      refine Ev_aload_n dX12_trails_109 rfl ?_
      refine Ev_iload dX12_trails_110 rfl ?_
      refine Ev_lconst (v := 0) dX12_trails_112 (by decide) ?_
      refine Ev_callV (bc := 0) (b := 0) dX12_trails_113 cv_X12_248 rfl h31 (Nat.le_of_ble_eq_true rfl) (by omega) ?_
      refine c_X12_keepRow h31 h44 h47 (m := x) (w := 0) hx5 ?_
      refine Ev_goto dX12_trails_116 ?_
      refine Ev_aload_n dX12_trails_72 rfl ?_
      refine Ev_iload dX12_trails_73 rfl ?_
      refine Ev_callV (bc := 0) (b := 0) dX12_trails_75 cv_X12_242 rfl (gn (by decide) (gs h31)) (Nat.le_of_ble_eq_true rfl) (by omega) ?_
      refine Mth_of (by decide) rfl ?_
      exact k2 _ ⟨(FrR.st (FrR.st hF (by decide)) (by decide)), _, _, _, _, _, (gn (by decide) (gs h31)), (gn (by decide) (gn (by decide) h44)), (gn (by decide) (gn (by decide) h46)), (gs (gn (by decide) h47)), hR, hE, hky⟩
    | some b9 =>
      obtain ⟨z, s0, r9⟩ := b9
      obtain ⟨f1, f2, f3, f4, f5, f6, f7, f8⟩ := kk3 z s0 r9 rfl
      have f1 : 0 < c := f1
      subst f2
      have hz0 := f6 rfl
      have hkn : kpR true 0 x (jn (c, some (z, s0, r9)) (1, some (0, x, r))) (nI s0) bi B := by
        have ej : jn (c, some (z, s0, r9)) (1, some (0, x, r)) = (c + 1, some (z, s0, r9)) := by
          unfold jn
          rw [jb_x (show ¬ (z < 0 ∨ (z = 0 ∧ x < s0)) by omega)]
        rw [ej]
        refine ⟨fun h => (by cases h), fun z2 s2 r2 h => ?_⟩
        cases h
        exact ⟨Nat.succ_pos c, rfl, f3, f4, f5, f6, f7, f8⟩
      refine Ev_if_eq dX12_trails_78 (fun c => absurd c (by decide)) (fun _ => ?_)
      refine Ev_aload_n dX12_trails_81 rfl ?_
      refine Ev_iload dX12_trails_82 rfl ?_
      refine Ev_callV (bc := 0) (b := 0) dX12_trails_84 cv_X12_187 rfl h31 (Nat.le_of_ble_eq_true rfl) (by omega) ?_
      refine c_X12_minutesOf hg hcs h31 (hG0.fr hF) (m := x) (by omega) h44 hrw ?_
      refine Ev_iload_n dX12_trails_87 rfl ?_
      refine Ev_icmp_gt dX12_trails_88 (fun c => absurd c (fun z => absurd ((nlt (by omega) (by omega)).mp z) (by omega))) (fun _ => ?_)
      refine Ev_aload_n dX12_trails_91 rfl ?_
      refine Ev_iload dX12_trails_92 rfl ?_
      refine Ev_callV (bc := 0) (b := 0) dX12_trails_94 cv_X12_270 rfl h31 (Nat.le_of_ble_eq_true rfl) (by omega) ?_
      refine c_X12_areSo hg hcs h31 (hG0.fr hF) (m := x) (by omega) h44 hrw (hF.at h48 (by omega)) (hF.at h49 (by omega)) hrd hro hq ?_
      rw [hts]
      refine Ev_topi (y := 1) rfl ?_
      refine Ev_if_eq dX12_trails_97 (fun c => absurd c (by decide)) (fun _ => ?_)
      refine Ev_iinc (v := nI (c + 1)) dX12_trails_100 rfl (nI_1 _) rfl ?_
      refine Ev_iload dX12_trails_103 rfl ?_
      refine Ev_iconst (v := 1) dX12_trails_105 (by decide) ?_
      refine Ev_icmp_ne dX12_trails_106 (fun _ => ?_) (fun c => absurd c (fun z => absurd ((nIinj (b := 1) (by omega) (by omega)).mp z) (by omega)))
      refine Ev_aload_n dX12_trails_72 rfl ?_
      refine Ev_iload dX12_trails_73 rfl ?_
      refine Ev_callV (bc := 0) (b := 0) dX12_trails_75 cv_X12_242 rfl h31 (Nat.le_of_ble_eq_true rfl) (by omega) ?_
      refine Mth_of (by decide) rfl ?_
      exact k2 _ ⟨hF, _, _, _, _, _, h31, h44, h46, h47, hR, hE, hkn⟩

set_option maxHeartbeats 4000000 in
set_option maxRecDepth 100000 in
theorem l_trails {D : Nat} {S0 : aS} {Q : Option Value → aS → Prop} {flt du lw fr ra rp rs ea tr : Int32} {pl n cs q : Nat} {G : Nat → Nat → Nat} {m tt : Nat} {y : Int32} (hg : GD pl n G) (hcs : cs < 512) (hG0 : MN S0 n G) (hm5 : m ≤ 5) (hp0 : 0 < pl) (htt : tt ≤ 200) {ro : Nat → Nat} {rb : Nat → Bool} {fo fw : Nat → Int32} (hrd : ∀ x, x < q → fo x = nI (ro x) ∧ fw x = bz (rb x)) (hro : ∀ x, x < q → ro x < n) (hq : q ≤ 8) (h48 : S0[48]? = some (iA 8 fo)) (h49 : S0[49]? = some (zA 8 fw)) (k : ∀ (S2 : aS) (dv : Int32), RX (moM flt du lw fr ra rp rs ea tr pl n cs q) true 0 m S0 S2 dv 0 r0 r0 (ff (fun y => Ln G cs n (pl - 1) (vT G fr.toInt tt q ro rb) y 0 r0 0) m 0) → Ev none mX12_trails (D + 9) 0 125 [some (.ref 31), some (.int (nI m)), some (.int (nI tt)), some (.int y), some (.int (nI (ff (fun y => Ln G cs n (pl - 1) (vT G fr.toInt tt q ro rb) y 0 r0 0) m 0).1)), some (.int (nI (m + 1)))] [] S2 Q) : ∀ (t i : Nat) (S : aS) (dv : Int32), i + t = m → RX (moM flt du lw fr ra rp rs ea tr pl n cs q) true 0 i S0 S dv 0 r0 r0 (ff (fun y => Ln G cs n (pl - 1) (vT G fr.toInt tt q ro rb) y 0 r0 0) i 0) → Ev none mX12_trails (D + 9) 0 62 [some (.ref 31), some (.int (nI m)), some (.int (nI tt)), some (.int y), some (.int (nI (ff (fun y => Ln G cs n (pl - 1) (vT G fr.toInt tt q ro rb) y 0 r0 0) i 0).1)), some (.int (nI (i + 1)))] [] S Q := by
  have hn9 := hg.2.1
  have hp7 := hg.1
  intro t
  induction t with
  | zero =>
    intro i S dv hi hX
    have hi : i = m := by omega
    subst hi
    have hX1 := hX
    obtain ⟨hF, bm, bi, R, E, B, h31, h44, h46, h47, hR, hE, hkp⟩ := hX1
    refine Ev_iload dX12_trails_62 rfl ?_
    refine Ev_iload_n dX12_trails_64 rfl ?_
    refine Ev_icmp_gt dX12_trails_65 (fun _ => ?_) (fun c => absurd ((nlt (by omega) (by omega)).mpr (by omega)) c)
    exact k S _ hX
  | succ t ih =>
    intro i S dv hi hX
    obtain ⟨hF, bm, bi, R, E, B, h31, h44, h46, h47, hR, hE, hkp⟩ := hX
    refine Ev_iload dX12_trails_62 rfl ?_
    refine Ev_iload_n dX12_trails_64 rfl ?_
    refine Ev_icmp_gt dX12_trails_65 (fun c => absurd c (fun z => absurd ((nlt (by omega) (by omega)).mp z) (by omega))) (fun _ => ?_)
    refine Ev_aload_n dX12_trails_68 rfl ?_
    refine Ev_callV (bc := 0) (b := 0) dX12_trails_69 cv_X12_239 rfl h31 (Nat.le_of_ble_eq_true rfl) (by omega) ?_
    refine c_X12_beginRows h31 h44 h46 ?_
    refine Ev_aload_n dX12_trails_72 rfl ?_
    refine Ev_iload dX12_trails_73 rfl ?_
    refine Ev_callV (bc := 0) (b := 0) dX12_trails_75 cv_X12_242 rfl (gn (by decide) (gn (by decide) (gs h31))) (Nat.le_of_ble_eq_true rfl) (by omega) ?_
    have hs9 := ff_snoc (g := (fun y => Ln G cs n (pl - 1) (vT G fr.toInt tt q ro rb) y 0 r0 0)) i 0
    rw [Nat.zero_add] at hs9
    have hcn9 : (jn (ff (fun y => Ln G cs n (pl - 1) (vT G fr.toInt tt q ro rb) y 0 r0 0) i 0) (ff (tX G cs n (pl - 1) (vT G fr.toInt tt q ro rb) 0 r0 0 i) n 0)).1 < 2147483647 := by rw [← Ln_tX, ← hs9, ← Dn_eq vT_of]; exact Nat.lt_of_le_of_lt (Dn_small vT_1 hn9 (by omega) 0 r0 0) (by decide)
    refine Mth_of (by decide) rfl ?_
    refine nx_all (Qa := fun acc => (fun v S2 => Ev none mX12_trails (D + 9) 0 78 [some (.ref 31), some (.int (nI m)), some (.int (nI tt)), some (.int y), some (.int (nI acc.1)), some (.int (nI (i + 1)))] (pu v []) S2 Q)) (D := D + 6) (b := true) (o := 0) (val := (vT G fr.toInt tt q ro rb)) hg hcs hG0 (by omega) (ht_trails hg hcs hG0 (by omega) (by omega) htt hrd hro hq h48 h49) i 0 (by omega) n 0 _ r0 r0 (ff (fun y => Ln G cs n (pl - 1) (vT G fr.toInt tt q ro rb) y 0 r0 0) i 0) 0 (by omega) (fun j hj => absurd hj (Nat.not_lt_zero j)) hp0 ⟨(FrR.st (FrR.st (FrR.st hF (by decide)) (by decide)) (by decide)), _, _, _, _, _, (gn (by decide) (gn (by decide) (gs h31))), (gn (by decide) (gs (gn (by decide) h44))), (gs (gn (by decide) (gn (by decide) h46))), (gn (by decide) (gn (by decide) (gn (by decide) h47))), (fun j hj => absurd hj (Nat.not_lt_zero j)), (fun j hj => absurd hj (Nat.not_lt_zero j)), (by rw [upd_s]; decide), (by rw [upd_s]; rfl), hkp.up⟩ hcn9 (fun S2 hX2 => ?_)
    rw [← Ln_tX, ← hs9] at hX2 ⊢
    have hX3 := hX2
    obtain ⟨hF2, bm2, bi2, R2, E2, B2, g31, g44, g46, g47, gR, gE, gkp⟩ := hX3
    refine nx_end g31 ?_
    refine Ev_if_eq dX12_trails_78 (fun _ => ?_) (fun c => absurd (by decide) c)
    refine Ev_iinc (v := nI (i + 1 + 1)) dX12_trails_119 rfl (nI_1 _) rfl ?_
    refine Ev_goto dX12_trails_122 ?_
    exact ih (i + 1) S2 _ (by omega) hX2

set_option maxHeartbeats 4000000 in
set_option maxRecDepth 100000 in
theorem c_X12_trails_b {d : Nat} {S : aS} {Q : Option Value → aS → Prop} {flt du lw fr cl ra rp rs ea dp bm rd tr : Int32} {bi : Int64} {pl n : Nat} (hn9 : n ≤ 9) (hM : S[31]? = some (mo flt (nI pl) (nI n) du lw fr cl ra rp rs ea dp bm bi rd tr)) {x y t : Int32} (hb : ¬ ((1 ≤ x.toInt ∧ x.toInt ≤ 5) ∧ (0 ≤ t.toInt ∧ t.toInt ≤ 200) ∧ (-1 ≤ y.toInt ∧ y.toInt ≤ 4))) (k : Q (some (.int (-2))) S) : Mth mX12_trails (d + 2) 0 [.ref 31, .int x, .int t, .int y] S Q := by
  refine Mth_of (by decide) rfl ?_
  refine Ev_iload_n dX12_trails_0 rfl ?_
  refine Ev_i2l dX12_trails_1 ?_
  refine Ev_lconst (v := 1) dX12_trails_2 (by decide) ?_
  refine Ev_ldc2 dX12_trails_3 wl_X12_252 ?_
  refine Ev_callS (bc := 0) (b := 0) dX12_trails_6 cs_X12_97 rfl (Nat.le_of_ble_eq_true rfl) (by omega) ?_
  refine c_X12_in (x := _) (y := 1) (z := 5) (x64 _) rfl rfl (fun q1 => ?_) (fun q1 => ?_)
  · skip
    refine Ev_if_eq dX12_trails_9 (fun c => absurd c (by decide)) (fun _ => ?_)
    refine Ev_iload_n dX12_trails_12 rfl ?_
    refine Ev_i2l dX12_trails_13 ?_
    refine Ev_lconst (v := 0) dX12_trails_14 (by decide) ?_
    refine Ev_ldc2 dX12_trails_15 wl_X12_268 ?_
    refine Ev_callS (bc := 0) (b := 0) dX12_trails_18 cs_X12_97 rfl (Nat.le_of_ble_eq_true rfl) (by omega) ?_
    refine c_X12_in (x := _) (y := 0) (z := 200) (x64 _) rfl rfl (fun q2 => ?_) (fun q2 => ?_)
    · skip
      refine Ev_if_eq dX12_trails_21 (fun c => absurd c (by decide)) (fun _ => ?_)
      refine Ev_iload_n dX12_trails_24 rfl ?_
      refine Ev_i2l dX12_trails_25 ?_
      refine Ev_ldc2 dX12_trails_26 wl_X12_254 ?_
      refine Ev_ldc2 dX12_trails_29 wl_X12_256 ?_
      refine Ev_callS (bc := 0) (b := 0) dX12_trails_32 cs_X12_97 rfl (Nat.le_of_ble_eq_true rfl) (by omega) ?_
      refine c_X12_in (x := _) (y := (-1)) (z := 4) (x64 _) rfl rfl (fun q3 => ?_) (fun q3 => ?_)
      · skip
        refine Ev_if_ne dX12_trails_35 (fun _ => ?_) (fun c => absurd c (by decide))
        exact absurd (by omega) hb
      · skip
        refine Ev_if_ne dX12_trails_35 (fun c => absurd (by decide) c) (fun _ => ?_)
        refine Ev_bipush (v := (-2)) dX12_trails_38 (by decide) ?_
        refine Ev_iret dX12_trails_40 rfl rfl ?_
        exact k
    · skip
      refine Ev_if_eq dX12_trails_21 (fun _ => ?_) (fun c => absurd (by decide) c)
      refine Ev_bipush (v := (-2)) dX12_trails_38 (by decide) ?_
      refine Ev_iret dX12_trails_40 rfl rfl ?_
      exact k
  · skip
    refine Ev_if_eq dX12_trails_9 (fun _ => ?_) (fun c => absurd (by decide) c)
    refine Ev_bipush (v := (-2)) dX12_trails_38 (by decide) ?_
    refine Ev_iret dX12_trails_40 rfl rfl ?_
    exact k

set_option maxHeartbeats 4000000 in
set_option maxRecDepth 100000 in
theorem c_X12_trails_s {d : Nat} {S : aS} {Q : Option Value → aS → Prop} {flt du lw fr cl ra rp rs ea dp bm rd tr : Int32} {bi : Int64} {pl n : Nat} (hn9 : n ≤ 9) (hM : S[31]? = some (mo flt (nI pl) (nI n) du lw fr cl ra rp rs ea dp bm bi rd tr)) {x y t : Int32} (hb : (1 ≤ x.toInt ∧ x.toInt ≤ 5) ∧ (0 ≤ t.toInt ∧ t.toInt ≤ 200) ∧ (-1 ≤ y.toInt ∧ y.toInt ≤ 4)) (hn0 : n = 0) (k : Q (some (.int (-3))) S) : Mth mX12_trails (d + 2) 0 [.ref 31, .int x, .int t, .int y] S Q := by
  refine Mth_of (by decide) rfl ?_
  refine Ev_iload_n dX12_trails_0 rfl ?_
  refine Ev_i2l dX12_trails_1 ?_
  refine Ev_lconst (v := 1) dX12_trails_2 (by decide) ?_
  refine Ev_ldc2 dX12_trails_3 wl_X12_252 ?_
  refine Ev_callS (bc := 0) (b := 0) dX12_trails_6 cs_X12_97 rfl (Nat.le_of_ble_eq_true rfl) (by omega) ?_
  refine c_X12_in (x := _) (y := 1) (z := 5) (x64 _) rfl rfl (fun q1 => ?_) (fun q1 => ?_)
  · skip
    refine Ev_if_eq dX12_trails_9 (fun c => absurd c (by decide)) (fun _ => ?_)
    refine Ev_iload_n dX12_trails_12 rfl ?_
    refine Ev_i2l dX12_trails_13 ?_
    refine Ev_lconst (v := 0) dX12_trails_14 (by decide) ?_
    refine Ev_ldc2 dX12_trails_15 wl_X12_268 ?_
    refine Ev_callS (bc := 0) (b := 0) dX12_trails_18 cs_X12_97 rfl (Nat.le_of_ble_eq_true rfl) (by omega) ?_
    refine c_X12_in (x := _) (y := 0) (z := 200) (x64 _) rfl rfl (fun q2 => ?_) (fun q2 => ?_)
    · skip
      refine Ev_if_eq dX12_trails_21 (fun c => absurd c (by decide)) (fun _ => ?_)
      refine Ev_iload_n dX12_trails_24 rfl ?_
      refine Ev_i2l dX12_trails_25 ?_
      refine Ev_ldc2 dX12_trails_26 wl_X12_254 ?_
      refine Ev_ldc2 dX12_trails_29 wl_X12_256 ?_
      refine Ev_callS (bc := 0) (b := 0) dX12_trails_32 cs_X12_97 rfl (Nat.le_of_ble_eq_true rfl) (by omega) ?_
      refine c_X12_in (x := _) (y := (-1)) (z := 4) (x64 _) rfl rfl (fun q3 => ?_) (fun q3 => ?_)
      · skip
        refine Ev_if_ne dX12_trails_35 (fun _ => ?_) (fun c => absurd c (by decide))
        refine Ev_aload_n dX12_trails_41 rfl ?_
        refine Ev_get dX12_trails_42 fg_X12_101_12 hM rfl ?_
        refine Ev_if_ne dX12_trails_45 (fun c => absurd (by rw [hn0]; rfl) c) (fun _ => ?_)
        refine Ev_bipush (v := (-3)) dX12_trails_48 (by decide) ?_
        refine Ev_iret dX12_trails_50 rfl rfl ?_
        exact k
      · skip
        refine Ev_if_ne dX12_trails_35 (fun c => absurd (by decide) c) (fun _ => ?_)
        refine Ev_bipush (v := (-2)) dX12_trails_38 (by decide) ?_
        refine Ev_iret dX12_trails_40 rfl rfl ?_
        exact absurd hb (by omega)
    · skip
      refine Ev_if_eq dX12_trails_21 (fun _ => ?_) (fun c => absurd (by decide) c)
      refine Ev_bipush (v := (-2)) dX12_trails_38 (by decide) ?_
      refine Ev_iret dX12_trails_40 rfl rfl ?_
      exact absurd hb (by omega)
  · skip
    refine Ev_if_eq dX12_trails_9 (fun _ => ?_) (fun c => absurd (by decide) c)
    refine Ev_bipush (v := (-2)) dX12_trails_38 (by decide) ?_
    refine Ev_iret dX12_trails_40 rfl rfl ?_
    exact absurd hb (by omega)

set_option maxHeartbeats 4000000 in
set_option maxRecDepth 100000 in
theorem c_X12_trails_m {d : Nat} {S : aS} {Q : Option Value → aS → Prop} {flt du lw fr ra rp rs ea dp bm tr : Int32} {bi : Int64} {pl n cs q : Nat} {m tt : Nat} {G : Nat → Nat → Nat} (hg : GD pl n G) (hcs : cs < 512) (hG : MN S n G) (h31 : S[31]? = some (mo flt (nI pl) (nI n) du lw fr (nI cs) ra rp rs ea dp bm bi (nI q) tr)) {R E B : Nat → Int32} (h44 : S[44]? = some (iA 12 R)) (h46 : S[46]? = some (iA 6 E)) (h47 : S[47]? = some (iA 5 B)) {ro : Nat → Nat} {rb : Nat → Bool} {fo fw : Nat → Int32} (hrd : ∀ x, x < q → fo x = nI (ro x) ∧ fw x = bz (rb x)) (hro : ∀ x, x < q → ro x < n) (hq : q ≤ 8) (h48 : S[48]? = some (iA 8 fo)) (h49 : S[49]? = some (zA 8 fw)) (hm : 1 ≤ m ∧ m ≤ 5) (hp0 : 0 < pl) (hn0 : ¬ n = 0) (htt : tt ≤ 200) (k : ∀ (S2 : aS), RE (moM flt du lw fr ra rp rs ea tr pl n cs q) S S2 → Q (some (.int (nI (Dn G cs n (pl - 1) (vT G fr.toInt tt q ro rb) m 0 r0 0).1))) S2)  : Mth mX12_trails (d + 9) 0 [.ref 31, .int (nI m), .int (nI tt), .int (-1)] S Q := by
  have hn9 := hg.2.1
  have hb : (1 ≤ (nI m).toInt ∧ (nI m).toInt ≤ 5) ∧ (0 ≤ (nI tt).toInt ∧ (nI tt).toInt ≤ 200) ∧ (-1 ≤ ((-1) : Int32).toInt ∧ ((-1) : Int32).toInt ≤ 4) := by
    rw [nIt (by omega), nIt (by omega)]
    exact ⟨by omega, by omega, by decide⟩
  refine Mth_of (by decide) rfl ?_
  refine Ev_iload_n dX12_trails_0 rfl ?_
  refine Ev_i2l dX12_trails_1 ?_
  refine Ev_topl (y := lN m) (nl (by omega)) ?_
  refine Ev_lconst (v := 1) dX12_trails_2 (by decide) ?_
  refine Ev_ldc2 dX12_trails_3 wl_X12_252 ?_
  refine Ev_callS (bc := 0) (b := 0) dX12_trails_6 cs_X12_97 rfl (Nat.le_of_ble_eq_true rfl) (by omega) ?_
  refine c_X12_in (x := (nI m : Int32).toInt) (y := 1) (z := 5) (by rw [lN_toInt (by omega), nIt (by omega)]) rfl rfl (fun _ => ?_) (fun z => absurd hb.1 z)
  refine Ev_if_eq dX12_trails_9 (fun c => absurd c (by decide)) (fun _ => ?_)
  refine Ev_iload_n dX12_trails_12 rfl ?_
  refine Ev_i2l dX12_trails_13 ?_
  refine Ev_topl (y := lN tt) (nl (by omega)) ?_
  refine Ev_lconst (v := 0) dX12_trails_14 (by decide) ?_
  refine Ev_ldc2 dX12_trails_15 wl_X12_268 ?_
  refine Ev_callS (bc := 0) (b := 0) dX12_trails_18 cs_X12_97 rfl (Nat.le_of_ble_eq_true rfl) (by omega) ?_
  refine c_X12_in (x := (nI tt : Int32).toInt) (y := 0) (z := 200) (by rw [lN_toInt (by omega), nIt (by omega)]) rfl rfl (fun _ => ?_) (fun z => absurd hb.2.1 z)
  refine Ev_if_eq dX12_trails_21 (fun c => absurd c (by decide)) (fun _ => ?_)
  refine Ev_iload_n dX12_trails_24 rfl ?_
  refine Ev_i2l dX12_trails_25 ?_
  refine Ev_topl (y := (-1)) (by decide) ?_
  refine Ev_ldc2 dX12_trails_26 wl_X12_254 ?_
  refine Ev_ldc2 dX12_trails_29 wl_X12_256 ?_
  refine Ev_callS (bc := 0) (b := 0) dX12_trails_32 cs_X12_97 rfl (Nat.le_of_ble_eq_true rfl) (by omega) ?_
  refine c_X12_in (x := ((-1) : Int32).toInt) (y := (-1)) (z := 4) rfl rfl rfl (fun _ => ?_) (fun z => absurd hb.2.2 z)
  refine Ev_if_ne dX12_trails_35 (fun _ => ?_) (fun c => absurd c (by decide))
  refine Ev_aload_n dX12_trails_41 rfl ?_
  refine Ev_get dX12_trails_42 fg_X12_101_12 h31 rfl ?_
  refine Ev_if_ne dX12_trails_45 (fun _ => ?_) (fun c => absurd c (fun z => absurd ((nIinj (b := 0) (by omega) (by omega)).mp z) hn0))
  refine Ev_aload_n dX12_trails_51 rfl ?_
  refine Ev_iconst (v := 0) dX12_trails_52 (by decide) ?_
  refine Ev_put dX12_trails_53 fr_X12_232_12 h31 rfl rfl rfl ?_
  refine Ev_iconst (v := 0) dX12_trails_56 (by decide) ?_
  refine Ev_istore dX12_trails_57 rfl ?_
  refine Ev_iconst (v := 1) dX12_trails_59 (by decide) ?_
  refine Ev_istore dX12_trails_60 rfl ?_
  refine l_trails (m := m) (S0 := S) (y := (-1)) hg hcs hG hm.2 hp0 htt hrd hro hq h48 h49 ?_ m 0 _ dp (by omega) ⟨(FrR.st FrR.rf (by decide)), _, _, R, E, B, (gs h31), (gn (by decide) h44), (gn (by decide) h46), (gn (by decide) h47), (fun j hj => absurd hj (Nat.not_lt_zero j)), (fun j hj => absurd hj (Nat.not_lt_zero j)), ⟨fun _ => ⟨rfl, rfl⟩, fun z s r h => by cases h⟩⟩
  intro S2 dv hX
  rw [← Dn_eq vT_of] at hX ⊢
  have hX3 := hX
  obtain ⟨hF2, bm2, bi2, R2, E2, B2, g31, g44, g46, g47, gR, gE, gkp⟩ := hX3
  refine Ev_iload_n dX12_trails_125 rfl ?_
  refine Ev_if_ge dX12_trails_126 (fun c => absurd c (by decide)) (fun _ => ?_)
  refine Ev_iload dX12_trails_129 rfl ?_
  refine Ev_goto dX12_trails_131 ?_
  refine Ev_iret dX12_trails_139 rfl rfl ?_
  exact k S2 hX.re

set_option maxHeartbeats 4000000 in
set_option maxRecDepth 100000 in
theorem c_X12_trails_j {d : Nat} {S : aS} {Q : Option Value → aS → Prop} {flt du lw fr ra rp rs ea dp bm tr : Int32} {bi : Int64} {pl n cs q : Nat} {m tt : Nat} {G : Nat → Nat → Nat} {j : Nat} (hj : j ≤ 4) (hg : GD pl n G) (hcs : cs < 512) (hG : MN S n G) (h31 : S[31]? = some (mo flt (nI pl) (nI n) du lw fr (nI cs) ra rp rs ea dp bm bi (nI q) tr)) {R E B : Nat → Int32} (h44 : S[44]? = some (iA 12 R)) (h46 : S[46]? = some (iA 6 E)) (h47 : S[47]? = some (iA 5 B)) {ro : Nat → Nat} {rb : Nat → Bool} {fo fw : Nat → Int32} (hrd : ∀ x, x < q → fo x = nI (ro x) ∧ fw x = bz (rb x)) (hro : ∀ x, x < q → ro x < n) (hq : q ≤ 8) (h48 : S[48]? = some (iA 8 fo)) (h49 : S[49]? = some (zA 8 fw)) (hm : 1 ≤ m ∧ m ≤ 5) (hp0 : 0 < pl) (hn0 : ¬ n = 0) (htt : tt ≤ 200) (k : ∀ (S2 : aS), RE (moM flt du lw fr ra rp rs ea tr pl n cs q) S S2 → Q (some (.int (anJ (Dn G cs n (pl - 1) (vT G fr.toInt tt q ro rb) m 0 r0 0) j))) S2)  : Mth mX12_trails (d + 9) 0 [.ref 31, .int (nI m), .int (nI tt), .int (nI j)] S Q := by
  have hn9 := hg.2.1
  have hb : (1 ≤ (nI m).toInt ∧ (nI m).toInt ≤ 5) ∧ (0 ≤ (nI tt).toInt ∧ (nI tt).toInt ≤ 200) ∧ (-1 ≤ (nI j : Int32).toInt ∧ (nI j : Int32).toInt ≤ 4) := by
    rw [nIt (by omega), nIt (by omega), nIt (by omega)]
    omega
  refine Mth_of (by decide) rfl ?_
  refine Ev_iload_n dX12_trails_0 rfl ?_
  refine Ev_i2l dX12_trails_1 ?_
  refine Ev_topl (y := lN m) (nl (by omega)) ?_
  refine Ev_lconst (v := 1) dX12_trails_2 (by decide) ?_
  refine Ev_ldc2 dX12_trails_3 wl_X12_252 ?_
  refine Ev_callS (bc := 0) (b := 0) dX12_trails_6 cs_X12_97 rfl (Nat.le_of_ble_eq_true rfl) (by omega) ?_
  refine c_X12_in (x := (nI m : Int32).toInt) (y := 1) (z := 5) (by rw [lN_toInt (by omega), nIt (by omega)]) rfl rfl (fun _ => ?_) (fun z => absurd hb.1 z)
  refine Ev_if_eq dX12_trails_9 (fun c => absurd c (by decide)) (fun _ => ?_)
  refine Ev_iload_n dX12_trails_12 rfl ?_
  refine Ev_i2l dX12_trails_13 ?_
  refine Ev_topl (y := lN tt) (nl (by omega)) ?_
  refine Ev_lconst (v := 0) dX12_trails_14 (by decide) ?_
  refine Ev_ldc2 dX12_trails_15 wl_X12_268 ?_
  refine Ev_callS (bc := 0) (b := 0) dX12_trails_18 cs_X12_97 rfl (Nat.le_of_ble_eq_true rfl) (by omega) ?_
  refine c_X12_in (x := (nI tt : Int32).toInt) (y := 0) (z := 200) (by rw [lN_toInt (by omega), nIt (by omega)]) rfl rfl (fun _ => ?_) (fun z => absurd hb.2.1 z)
  refine Ev_if_eq dX12_trails_21 (fun c => absurd c (by decide)) (fun _ => ?_)
  refine Ev_iload_n dX12_trails_24 rfl ?_
  refine Ev_i2l dX12_trails_25 ?_
  refine Ev_topl (y := lN j) (nl (by omega)) ?_
  refine Ev_ldc2 dX12_trails_26 wl_X12_254 ?_
  refine Ev_ldc2 dX12_trails_29 wl_X12_256 ?_
  refine Ev_callS (bc := 0) (b := 0) dX12_trails_32 cs_X12_97 rfl (Nat.le_of_ble_eq_true rfl) (by omega) ?_
  refine c_X12_in (x := (nI j : Int32).toInt) (y := (-1)) (z := 4) (by rw [lN_toInt (by omega), nIt (by omega)]) rfl rfl (fun _ => ?_) (fun z => absurd hb.2.2 z)
  refine Ev_if_ne dX12_trails_35 (fun _ => ?_) (fun c => absurd c (by decide))
  refine Ev_aload_n dX12_trails_41 rfl ?_
  refine Ev_get dX12_trails_42 fg_X12_101_12 h31 rfl ?_
  refine Ev_if_ne dX12_trails_45 (fun _ => ?_) (fun c => absurd c (fun z => absurd ((nIinj (b := 0) (by omega) (by omega)).mp z) hn0))
  refine Ev_aload_n dX12_trails_51 rfl ?_
  refine Ev_iconst (v := 0) dX12_trails_52 (by decide) ?_
  refine Ev_put dX12_trails_53 fr_X12_232_12 h31 rfl rfl rfl ?_
  refine Ev_iconst (v := 0) dX12_trails_56 (by decide) ?_
  refine Ev_istore dX12_trails_57 rfl ?_
  refine Ev_iconst (v := 1) dX12_trails_59 (by decide) ?_
  refine Ev_istore dX12_trails_60 rfl ?_
  refine l_trails (m := m) (S0 := S) (y := nI j) hg hcs hG hm.2 hp0 htt hrd hro hq h48 h49 ?_ m 0 _ dp (by omega) ⟨(FrR.st FrR.rf (by decide)), _, _, R, E, B, (gs h31), (gn (by decide) h44), (gn (by decide) h46), (gn (by decide) h47), (fun j hj => absurd hj (Nat.not_lt_zero j)), (fun j hj => absurd hj (Nat.not_lt_zero j)), ⟨fun _ => ⟨rfl, rfl⟩, fun z s r h => by cases h⟩⟩
  intro S2 dv hX
  rw [← Dn_eq vT_of] at hX ⊢
  have hX3 := hX
  obtain ⟨hF2, bm2, bi2, R2, E2, B2, g31, g44, g46, g47, gR, gE, gkp⟩ := hX3
  refine Ev_iload_n dX12_trails_125 rfl ?_
  refine Ev_if_ge dX12_trails_126 (fun _ => ?_) (fun c => absurd (nI_pos' (by omega)) c)
  refine Ev_aload_n dX12_trails_134 rfl ?_
  refine Ev_iload_n dX12_trails_135 rfl ?_
  refine Ev_callV (bc := 0) (b := 0) dX12_trails_136 cv_X12_265 rfl g31 (Nat.le_of_ble_eq_true rfl) (by omega) ?_
  refine c_toldJ g31 g47 gkp hm.2 hj ?_
  refine Ev_iret dX12_trails_139 rfl rfl ?_
  exact k S2 hX.re

