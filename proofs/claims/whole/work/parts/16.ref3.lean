set_option maxHeartbeats 4000000 in
set_option maxRecDepth 100000 in
theorem c_X12_costOf {d : Nat} {S : aS} {Q : Option Value → aS → Prop} {flt pl n du lw fr cl ra rp rs ea dp bm rd tr : Int32} {bi : Int64} (hM : S[31]? = some (mo flt pl n du lw fr cl ra rp rs ea dp bm bi rd tr)) {late : Int32} {z : Int} (hz : late.toInt = z) (hzr : -1000 ≤ z ∧ z ≤ 1000) (k : Q (some (.int (iZ (cst lw.toInt z)))) S) : Mth mX12_costOf d 0 [.ref 31, .int late] S Q := by
  refine Mth_of (by decide) rfl ?_
  refine Ev_iload_n dX12_costOf_0 rfl ?_
  refine Ev_if_gt dX12_costOf_1 (fun c1 => ?_) (fun c1 => ?_)
  · skip
    refine Ev_aload_n dX12_costOf_6 rfl ?_
    refine Ev_get dX12_costOf_7 fg_X12_152_12 hM rfl ?_
    refine Ev_if_ne dX12_costOf_10 (fun c2 => ?_) (fun c2 => ?_)
    · skip
      refine Ev_aload_n dX12_costOf_17 rfl ?_
      refine Ev_get dX12_costOf_18 fg_X12_152_12 hM rfl ?_
      refine Ev_iconst (v := 2) dX12_costOf_21 (by decide) ?_
      refine Ev_icmp_ne dX12_costOf_22 (fun c3 => ?_) (fun c3 => ?_)
      · skip
        refine Ev_iload_n dX12_costOf_31 rfl ?_
        refine Ev_iconst (v := 5) dX12_costOf_32 (by decide) ?_
        refine Ev_icmp_le dX12_costOf_33 (fun c4 => ?_) (fun c4 => ?_)
        · skip
          refine Ev_iconst (v := 0) dX12_costOf_44 (by decide) ?_
          refine Ev_iret dX12_costOf_45 rfl rfl ?_
          have e0 := z32_0; have e2 := z32_2; have e5 := z32_5; have e3 := z32_3
          simp only [xlt, xle, xeq, z32_0, z32_2, z32_5, hz] at c1
          simp only [xlt, xle, xeq, z32_0, z32_2, z32_5, hz] at c2
          simp only [xlt, xle, xeq, z32_0, z32_2, z32_5, hz] at c3
          simp only [xlt, xle, xeq, z32_0, z32_2, z32_5, hz] at c4
          have e : (0 : Int32).toInt = cst lw.toInt z := by
            unfold cst
            first
              | (rw [if_pos (by omega)]; rfl)
              | (rw [if_neg (by omega), if_pos (by omega)]; exact hz)
              | (rw [if_neg (by omega), if_neg (by omega), if_pos (by omega)]; exact xmul hz hz (sq_le (by omega) (by omega)))
              | (rw [if_neg (by omega), if_neg (by omega), if_neg (by omega), if_pos (by omega)]; exact xmul rfl (xsub hz rfl (by omega)) (by omega))
              | (rw [if_neg (by omega), if_neg (by omega), if_neg (by omega), if_neg (by omega)]; rfl)
          rw [toZ e]
          exact k
        · skip
          refine Ev_iconst (v := 3) dX12_costOf_36 (by decide) ?_
          refine Ev_iload_n dX12_costOf_37 rfl ?_
          refine Ev_iconst (v := 5) dX12_costOf_38 (by decide) ?_
          refine Ev_isub dX12_costOf_39 ?_
          refine Ev_imul dX12_costOf_40 ?_
          refine Ev_goto dX12_costOf_41 ?_
          refine Ev_iret dX12_costOf_45 rfl rfl ?_
          have e0 := z32_0; have e2 := z32_2; have e5 := z32_5; have e3 := z32_3
          simp only [xlt, xle, xeq, z32_0, z32_2, z32_5, hz] at c1
          simp only [xlt, xle, xeq, z32_0, z32_2, z32_5, hz] at c2
          simp only [xlt, xle, xeq, z32_0, z32_2, z32_5, hz] at c3
          simp only [xlt, xle, xeq, z32_0, z32_2, z32_5, hz] at c4
          have e : (3 * (late - 5) : Int32).toInt = cst lw.toInt z := by
            unfold cst
            first
              | (rw [if_pos (by omega)]; rfl)
              | (rw [if_neg (by omega), if_pos (by omega)]; exact hz)
              | (rw [if_neg (by omega), if_neg (by omega), if_pos (by omega)]; exact xmul hz hz (sq_le (by omega) (by omega)))
              | (rw [if_neg (by omega), if_neg (by omega), if_neg (by omega), if_pos (by omega)]; exact xmul rfl (xsub hz rfl (by omega)) (by omega))
              | (rw [if_neg (by omega), if_neg (by omega), if_neg (by omega), if_neg (by omega)]; rfl)
          rw [toZ e]
          exact k
      · skip
        refine Ev_iload_n dX12_costOf_25 rfl ?_
        refine Ev_iload_n dX12_costOf_26 rfl ?_
        refine Ev_imul dX12_costOf_27 ?_
        refine Ev_goto dX12_costOf_28 ?_
        refine Ev_iret dX12_costOf_45 rfl rfl ?_
        have e0 := z32_0; have e2 := z32_2; have e5 := z32_5; have e3 := z32_3
        simp only [xlt, xle, xeq, z32_0, z32_2, z32_5, hz] at c1
        simp only [xlt, xle, xeq, z32_0, z32_2, z32_5, hz] at c2
        simp only [xlt, xle, xeq, z32_0, z32_2, z32_5, hz] at c3
        have e : (late * late : Int32).toInt = cst lw.toInt z := by
          unfold cst
          first
            | (rw [if_pos (by omega)]; rfl)
            | (rw [if_neg (by omega), if_pos (by omega)]; exact hz)
            | (rw [if_neg (by omega), if_neg (by omega), if_pos (by omega)]; exact xmul hz hz (sq_le (by omega) (by omega)))
            | (rw [if_neg (by omega), if_neg (by omega), if_neg (by omega), if_pos (by omega)]; exact xmul rfl (xsub hz rfl (by omega)) (by omega))
            | (rw [if_neg (by omega), if_neg (by omega), if_neg (by omega), if_neg (by omega)]; rfl)
        rw [toZ e]
        exact k
    · skip
      refine Ev_iload_n dX12_costOf_13 rfl ?_
      refine Ev_goto dX12_costOf_14 ?_
      refine Ev_iret dX12_costOf_45 rfl rfl ?_
      have e0 := z32_0; have e2 := z32_2; have e5 := z32_5; have e3 := z32_3
      simp only [xlt, xle, xeq, z32_0, z32_2, z32_5, hz] at c1
      simp only [xlt, xle, xeq, z32_0, z32_2, z32_5, hz] at c2
      have e : (late : Int32).toInt = cst lw.toInt z := by
        unfold cst
        first
          | (rw [if_pos (by omega)]; rfl)
          | (rw [if_neg (by omega), if_pos (by omega)]; exact hz)
          | (rw [if_neg (by omega), if_neg (by omega), if_pos (by omega)]; exact xmul hz hz (sq_le (by omega) (by omega)))
          | (rw [if_neg (by omega), if_neg (by omega), if_neg (by omega), if_pos (by omega)]; exact xmul rfl (xsub hz rfl (by omega)) (by omega))
          | (rw [if_neg (by omega), if_neg (by omega), if_neg (by omega), if_neg (by omega)]; rfl)
      rw [toZ e]
      exact k
  · skip
    refine Ev_iconst (v := 0) dX12_costOf_4 (by decide) ?_
    refine Ev_iret dX12_costOf_5 rfl rfl ?_
    have e0 := z32_0; have e2 := z32_2; have e5 := z32_5; have e3 := z32_3
    simp only [xlt, xle, xeq, z32_0, z32_2, z32_5, hz] at c1
    have e : (0 : Int32).toInt = cst lw.toInt z := by
      unfold cst
      first
        | (rw [if_pos (by omega)]; rfl)
        | (rw [if_neg (by omega), if_pos (by omega)]; exact hz)
        | (rw [if_neg (by omega), if_neg (by omega), if_pos (by omega)]; exact xmul hz hz (sq_le (by omega) (by omega)))
        | (rw [if_neg (by omega), if_neg (by omega), if_neg (by omega), if_pos (by omega)]; exact xmul rfl (xsub hz rfl (by omega)) (by omega))
        | (rw [if_neg (by omega), if_neg (by omega), if_neg (by omega), if_neg (by omega)]; rfl)
    rw [toZ e]
    exact k

set_option maxHeartbeats 4000000 in
set_option maxRecDepth 100000 in
theorem c_X12_joyOf {d : Nat} {S : aS} {Q : Option Value → aS → Prop} {flt du lw fr ra rp rs ea dp bm rd tr : Int32} {bi : Int64} {pl n cs : Nat} {G : Nat → Nat → Nat} (hg : GD pl n G) (hcs : cs < 512) (hM : S[31]? = some (mo flt (nI pl) (nI n) du lw fr (nI cs) ra rp rs ea dp bm bi rd tr)) (hG : MN S n G) {m : Nat} {rw_ : Nat → Int32} {r : Nat → Nat} (hm : m ≤ 12) (hr : S[44]? = some (iA 12 rw_)) (hrw : ∀ x, x < m → rw_ x = nI (r x) ∧ r x < n) (hdu : 0 ≤ du.toInt ∧ du.toInt ≤ 99) (k : Q (some (.int (iZ (jy lw.toInt du.toInt (sgN G n (goN r m) : Int) (sumN (fun x => tk G fr.toInt (r x)) m : Int))))) S) : Mth mX12_joyOf (d + 3) 0 [.ref 31, .int (nI m)] S Q := by
  have hn9 := hg.2.1
  have hsg : sgN G n (goN r m) ≤ n * 9 := sumN_le n (fun x hx => by have := hg.2.2 x hx; show (if _ then _ else _) ≤ 9; split <;> omega)
  have hsm : sumN (fun x => tk G fr.toInt (r x)) m ≤ m * 21 := sumN_le m (fun x hx => (tk_le hg _ (hrw x hx).2).1)
  obtain ⟨z, hzd⟩ : ∃ z : Int, z = (sumN (fun x => tk G fr.toInt (r x)) m : Int) - du.toInt := ⟨_, rfl⟩
  have hz : (nI (sumN (fun x => tk G fr.toInt (r x)) m) - du).toInt = z := by rw [hzd]; exact xsub (nIt (by omega)) rfl (by omega)
  have hzr : -1000 ≤ z ∧ z ≤ 1000 := by omega
  refine Mth_of (by decide) rfl ?_
  refine Ev_aload_n dX12_joyOf_0 rfl ?_
  refine Ev_iload_n dX12_joyOf_1 rfl ?_
  refine Ev_callV (bc := 0) (b := 0) dX12_joyOf_2 cv_X12_184 rfl hM (Nat.le_of_ble_eq_true rfl) (by omega) ?_
  refine c_X12_sightsBy hg hcs hM hG hm hr hrw ?_
  refine Ev_aload_n dX12_joyOf_5 rfl ?_
  refine Ev_aload_n dX12_joyOf_6 rfl ?_
  refine Ev_iload_n dX12_joyOf_7 rfl ?_
  refine Ev_callV (bc := 0) (b := 0) dX12_joyOf_8 cv_X12_187 rfl hM (Nat.le_of_ble_eq_true rfl) (by omega) ?_
  refine c_X12_minutesOf hg hcs hM hG hm hr hrw ?_
  refine Ev_aload_n dX12_joyOf_11 rfl ?_
  refine Ev_get dX12_joyOf_12 fg_X12_149_12 hM rfl ?_
  refine Ev_isub dX12_joyOf_15 ?_
  refine Ev_callV (bc := 0) (b := 0) dX12_joyOf_16 cv_X12_190 rfl hM (Nat.le_of_ble_eq_true rfl) (by omega) ?_
  refine c_X12_costOf hM hz hzr ?_
  refine Ev_isub dX12_joyOf_19 ?_
  refine Ev_iret dX12_joyOf_20 rfl rfl ?_
  have hc := cst_le (lw := lw.toInt) (late := z) (by omega)
  have e : ((nI (sgN G n (goN r m))) - (iZ (cst lw.toInt z)) : Int32).toInt = jy lw.toInt du.toInt (sgN G n (goN r m) : Int) (sumN (fun x => tk G fr.toInt (r x)) m : Int) := by
    unfold jy
    rw [← hzd]
    exact xsub (nIt (by omega)) (iZt (by omega)) (by omega)
  rw [toZ e]
  exact k

set_option maxHeartbeats 4000000 in
set_option maxRecDepth 100000 in
theorem l_X12_safeBy {d : Nat} {S : aS} {Q : Option Value → aS → Prop} {flt du lw fr ra rp rs ea dp bm rd tr : Int32} {bi : Int64} {pl n cs : Nat} {G : Nat → Nat → Nat} (hg : GD pl n G) (hcs : cs < 512) (hM : S[31]? = some (mo flt (nI pl) (nI n) du lw fr (nI cs) ra rp rs ea dp bm bi rd tr)) (hG : MN S n G) {m : Nat} {rw_ : Nat → Int32} {r : Nat → Nat} (hm : m ≤ 12) (hr : S[44]? = some (iA 12 rw_)) (hrw : ∀ x, x < m → rw_ x = nI (r x) ∧ r x < n) (k : Q (some (.long (lN (prodN (fun x => tn G fr.toInt (r x)) m)))) S) : ∀ (t i : Nat) , i + t = m → Ev none mX12_safeBy (d + 2) 0 5 [some (.ref 31), some (.int (nI m)), some (.long (lN (prodN (fun x => tn G fr.toInt (r x)) i))), none, some (.int (nI i))] [] S Q := by
  have hn9 := hg.2.1
  intro t
  induction t with
  | zero =>
    intro i  hi
    obtain rfl : i = m := by omega
    refine Ev_iload dX12_safeBy_5 rfl ?_
    refine Ev_iload_n dX12_safeBy_7 rfl ?_
    refine Ev_icmp_ge dX12_safeBy_8 (fun _ => ?_) (fun c => absurd ((nle (by omega) (by omega)).mpr (Nat.le_refl _)) c)
    refine Ev_lload_n dX12_safeBy_32 rfl ?_
    refine Ev_lret dX12_safeBy_33 rfl ?_
    exact k
  | succ t ih =>
    intro i  hi
    have hri := (hrw i (by omega)).2
    have hriG := hg.2.2 (r i) hri
    have htn := tn_le (G := G) fr.toInt (r i)
    refine Ev_iload dX12_safeBy_5 rfl ?_
    refine Ev_iload_n dX12_safeBy_7 rfl ?_
    refine Ev_icmp_ge dX12_safeBy_8 (fun c => absurd c (fun z => absurd ((nle (by omega) (by omega)).mp z) (by omega))) (fun _ => ?_)
    refine Ev_lload_n dX12_safeBy_11 rfl ?_
    refine Ev_aload_n dX12_safeBy_12 rfl ?_
    refine Ev_aload_n dX12_safeBy_13 rfl ?_
    refine Ev_get dX12_safeBy_14 fg_X12_46_12 hM rfl ?_
    refine Ev_iload dX12_safeBy_17 rfl ?_
    refine Ev_ialoadN (j := i) dX12_safeBy_19 hr (by omega) (by decide) ?_
    refine Ev_topi (y := nI (r i)) (hrw _ (by omega)).1 ?_
    refine Ev_callV (bc := 0) (b := 0) dX12_safeBy_20 cv_X12_193 rfl hM (Nat.le_of_ble_eq_true rfl) (by omega) ?_
    refine c_X12_safeOf hg hcs hM hG (by omega) ?_
    refine Ev_i2l dX12_safeBy_23 ?_
    refine Ev_topl (y := lN (tn G fr.toInt (r i))) (nl (by omega)) ?_
    refine Ev_lmul dX12_safeBy_24 ?_
    refine Ev_topl (y := lN ((prodN (fun x => tn G fr.toInt (r x)) i) * (tn G fr.toInt (r i)))) (lmulN _ _) ?_
    refine Ev_lstore_n dX12_safeBy_25 rfl ?_
    refine Ev_iinc (v := nI (i + 1)) dX12_safeBy_26 rfl (nI_1 _) rfl ?_
    refine Ev_goto dX12_safeBy_29 ?_
    exact ih (i + 1) (by omega)

set_option maxHeartbeats 4000000 in
set_option maxRecDepth 100000 in
theorem c_X12_safeBy {d : Nat} {S : aS} {Q : Option Value → aS → Prop} {flt du lw fr ra rp rs ea dp bm rd tr : Int32} {bi : Int64} {pl n cs : Nat} {G : Nat → Nat → Nat} (hg : GD pl n G) (hcs : cs < 512) (hM : S[31]? = some (mo flt (nI pl) (nI n) du lw fr (nI cs) ra rp rs ea dp bm bi rd tr)) (hG : MN S n G) {m : Nat} {rw_ : Nat → Int32} {r : Nat → Nat} (hm : m ≤ 12) (hr : S[44]? = some (iA 12 rw_)) (hrw : ∀ x, x < m → rw_ x = nI (r x) ∧ r x < n) (k : Q (some (.long (lN (prodN (fun x => tn G fr.toInt (r x)) m)))) S) : Mth mX12_safeBy (d + 2) 0 [.ref 31, .int (nI m)] S Q := by
  refine Mth_of (by decide) rfl ?_
  refine Ev_lconst (v := 1) dX12_safeBy_0 (by decide) ?_
  refine Ev_lstore_n dX12_safeBy_1 rfl ?_
  refine Ev_iconst (v := 0) dX12_safeBy_2 (by decide) ?_
  refine Ev_istore dX12_safeBy_3 rfl ?_
  exact l_X12_safeBy hg hcs hM hG hm hr hrw k m 0 (by omega)

set_option maxHeartbeats 4000000 in
set_option maxRecDepth 100000 in
theorem c_X12_ofStretch_bad {d : Nat} {S : aS} {Q : Option Value → aS → Prop} {flt du lw fr ra rp rs ea dp bm rd tr : Int32} {bi : Int64} {pl n cs : Nat} {G : Nat → Nat → Nat} (hg : GD pl n G) (hcs : cs < 512) (hM : S[31]? = some (mo flt (nI pl) (nI n) du lw fr (nI cs) ra rp rs ea dp bm bi rd tr)) (hG : MN S n G) {x : Int32} (hx : ¬ (0 ≤ x.toInt ∧ x.toInt < n)) {w : Int32} (k : Q (some (.int (-1))) S) : Mth mX12_ofStretch (d + 2) 0 [.ref 31, .int x, .int w] S Q := by
  have hn9 := hg.2.1
  have hp7 := hg.1
  refine Mth_of (by decide) rfl ?_
  refine Ev_aload_n dX12_ofStretch_0 rfl ?_
  refine Ev_iload_n dX12_ofStretch_1 rfl ?_
  refine Ev_callV (bc := 0) (b := 0) dX12_ofStretch_2 cv_X12_167 rfl hM (Nat.le_of_ble_eq_true rfl) (by omega) ?_
  refine c_X12_noStretch hp7 hn9 hM (fun _ => ?_) (fun q => absurd q hx)
  refine Ev_if_eq dX12_ofStretch_5 (fun c => absurd c (by decide)) (fun _ => ?_)
  refine Ev_iconst (v := (-1)) dX12_ofStretch_8 (by decide) ?_
  refine Ev_iret dX12_ofStretch_9 rfl rfl ?_
  exact k

set_option maxHeartbeats 4000000 in
set_option maxRecDepth 100000 in
theorem c_X12_close_bad {d : Nat} {S : aS} {Q : Option Value → aS → Prop} {flt du lw fr ra rp rs ea dp bm rd tr : Int32} {bi : Int64} {pl n cs : Nat} {G : Nat → Nat → Nat} (hg : GD pl n G) (hcs : cs < 512) (hM : S[31]? = some (mo flt (nI pl) (nI n) du lw fr (nI cs) ra rp rs ea dp bm bi rd tr)) (hG : MN S n G) {x : Int32} (hx : ¬ (0 ≤ x.toInt ∧ x.toInt < n)) {w : Int32} (k : Q (some (.int (-1))) S) : Mth mX12_close (d + 2) 0 [.ref 31, .int x, .int w] S Q := by
  have hn9 := hg.2.1
  have hp7 := hg.1
  refine Mth_of (by decide) rfl ?_
  refine Ev_aload_n dX12_close_0 rfl ?_
  refine Ev_iload_n dX12_close_1 rfl ?_
  refine Ev_callV (bc := 0) (b := 0) dX12_close_2 cv_X12_167 rfl hM (Nat.le_of_ble_eq_true rfl) (by omega) ?_
  refine c_X12_noStretch hp7 hn9 hM (fun _ => ?_) (fun q => absurd q hx)
  refine Ev_if_eq dX12_close_5 (fun c => absurd c (by decide)) (fun _ => ?_)
  refine Ev_iconst (v := (-1)) dX12_close_8 (by decide) ?_
  refine Ev_iret dX12_close_9 rfl rfl ?_
  exact k

set_option maxHeartbeats 4000000 in
set_option maxRecDepth 100000 in
theorem c_X12_tell_bad {d : Nat} {S : aS} {Q : Option Value → aS → Prop} {flt du lw fr ra rp rs ea dp bm rd tr : Int32} {bi : Int64} {pl n cs : Nat} {G : Nat → Nat → Nat} (hg : GD pl n G) (hcs : cs < 512) (hM : S[31]? = some (mo flt (nI pl) (nI n) du lw fr (nI cs) ra rp rs ea dp bm bi rd tr)) (hG : MN S n G) {x : Int32} (hx : ¬ (0 ≤ x.toInt ∧ x.toInt < n)) (k : Q (some (.int (-1))) S) : Mth mX12_tell (d + 2) 0 [.ref 31, .int x] S Q := by
  have hn9 := hg.2.1
  have hp7 := hg.1
  refine Mth_of (by decide) rfl ?_
  refine Ev_aload_n dX12_tell_0 rfl ?_
  refine Ev_iload_n dX12_tell_1 rfl ?_
  refine Ev_callV (bc := 0) (b := 0) dX12_tell_2 cv_X12_167 rfl hM (Nat.le_of_ble_eq_true rfl) (by omega) ?_
  refine c_X12_noStretch hp7 hn9 hM (fun _ => ?_) (fun q => absurd q hx)
  refine Ev_if_eq dX12_tell_5 (fun c => absurd c (by decide)) (fun _ => ?_)
  refine Ev_iconst (v := (-1)) dX12_tell_8 (by decide) ?_
  refine Ev_iret dX12_tell_9 rfl rfl ?_
  exact k

set_option maxHeartbeats 4000000 in
set_option maxRecDepth 100000 in
theorem c_X12_sing_bad {d : Nat} {S : aS} {Q : Option Value → aS → Prop} {flt du lw fr ra rp rs ea dp bm rd tr : Int32} {bi : Int64} {pl n cs : Nat} {G : Nat → Nat → Nat} (hg : GD pl n G) (hcs : cs < 512) (hM : S[31]? = some (mo flt (nI pl) (nI n) du lw fr (nI cs) ra rp rs ea dp bm bi rd tr)) (hG : MN S n G) {x : Int32} (hx : ¬ (0 ≤ x.toInt ∧ x.toInt < n)) (k : Q (some (.int (-1))) S) : Mth mX12_sing (d + 2) 0 [.ref 31, .int x] S Q := by
  have hn9 := hg.2.1
  have hp7 := hg.1
  refine Mth_of (by decide) rfl ?_
  refine Ev_aload_n dX12_sing_0 rfl ?_
  refine Ev_iload_n dX12_sing_1 rfl ?_
  refine Ev_callV (bc := 0) (b := 0) dX12_sing_2 cv_X12_167 rfl hM (Nat.le_of_ble_eq_true rfl) (by omega) ?_
  refine c_X12_noStretch hp7 hn9 hM (fun _ => ?_) (fun q => absurd q hx)
  refine Ev_if_eq dX12_sing_5 (fun c => absurd c (by decide)) (fun _ => ?_)
  refine Ev_iconst (v := (-1)) dX12_sing_8 (by decide) ?_
  refine Ev_iret dX12_sing_9 rfl rfl ?_
  exact k

set_option maxHeartbeats 4000000 in
set_option maxRecDepth 100000 in
theorem c_X12_reading_bad {d : Nat} {S : aS} {Q : Option Value → aS → Prop} {flt du lw fr ra rp rs ea dp bm rd tr : Int32} {bi : Int64} {pl n cs : Nat} {G : Nat → Nat → Nat} (hg : GD pl n G) (hcs : cs < 512) (hM : S[31]? = some (mo flt (nI pl) (nI n) du lw fr (nI cs) ra rp rs ea dp bm bi rd tr)) (hG : MN S n G) {x : Int32} (hx : ¬ (0 ≤ x.toInt ∧ x.toInt < n)) {w : Int32} (k : Q (some (.int (-1))) S) : Mth mX12_reading (d + 2) 0 [.ref 31, .int x, .int w] S Q := by
  have hn9 := hg.2.1
  have hp7 := hg.1
  refine Mth_of (by decide) rfl ?_
  refine Ev_aload_n dX12_reading_0 rfl ?_
  refine Ev_iload_n dX12_reading_1 rfl ?_
  refine Ev_callV (bc := 0) (b := 0) dX12_reading_2 cv_X12_167 rfl hM (Nat.le_of_ble_eq_true rfl) (by omega) ?_
  refine c_X12_noStretch hp7 hn9 hM (fun _ => ?_) (fun q => absurd q hx)
  refine Ev_if_eq dX12_reading_5 (fun c => absurd c (by decide)) (fun _ => ?_)
  refine Ev_iconst (v := (-1)) dX12_reading_8 (by decide) ?_
  refine Ev_iret dX12_reading_9 rfl rfl ?_
  exact k

set_option maxHeartbeats 4000000 in
set_option maxRecDepth 100000 in
theorem c_X12_ofStretch {d : Nat} {S : aS} {Q : Option Value → aS → Prop} {flt du lw fr ra rp rs ea dp bm rd tr : Int32} {bi : Int64} {pl n cs : Nat} {G : Nat → Nat → Nat} (hg : GD pl n G) (hcs : cs < 512) (hM : S[31]? = some (mo flt (nI pl) (nI n) du lw fr (nI cs) ra rp rs ea dp bm bi rd tr)) (hG : MN S n G) {j : Nat} (hj : j < n) {w : Int32} (k : Q (some (.int (if w = 0 then nI (G 0 j) else if w = 1 then nI (G 1 j) else if w = 2 then nI (G 2 j) else if w = 3 then nI (G 3 j) else if w = 4 then nI (G 4 j) else if w = 5 then nI (G 5 j) else if w = 6 then nI (tk G fr.toInt j) else if w = 7 then (if cs.testBit j then 1 else 0) else -2))) S) : Mth mX12_ofStretch (d + 2) 0 [.ref 31, .int (nI j), .int w] S Q := by
  have hn9 := hg.2.1
  have hp7 := hg.1
  have hjG := hg.2.2 j hj
  obtain ⟨f0, a0, b0⟩ := hG 0 (by decide)
  obtain ⟨f1, a1, b1⟩ := hG 1 (by decide)
  obtain ⟨f2, a2, b2⟩ := hG 2 (by decide)
  obtain ⟨f3, a3, b3⟩ := hG 3 (by decide)
  obtain ⟨f4, a4, b4⟩ := hG 4 (by decide)
  obtain ⟨f5, a5, b5⟩ := hG 5 (by decide)
  refine Mth_of (by decide) rfl ?_
  refine Ev_aload_n dX12_ofStretch_0 rfl ?_
  refine Ev_iload_n dX12_ofStretch_1 rfl ?_
  refine Ev_callV (bc := 0) (b := 0) dX12_ofStretch_2 cv_X12_167 rfl hM (Nat.le_of_ble_eq_true rfl) (by omega) ?_
  refine c_X12_noStretch hp7 hn9 hM (fun q => absurd q (not_not_intro (by rw [nIt (by omega)]; omega))) (fun _ => ?_)
  refine Ev_if_eq dX12_ofStretch_5 (fun _ => ?_) (fun c => absurd (by decide) c)
  refine Ev_iload_n dX12_ofStretch_10 rfl ?_
  by_cases e1 : w = 0
  · skip
    refine Ev_tableIn (off := 45) (tg := 56) 0 dX12_ofStretch_11 (by rw [e1]; decide) (by decide) rfl (by decide) ?_
    refine Ev_aload_n dX12_ofStretch_56 rfl ?_
    refine Ev_get dX12_ofStretch_57 fg_X12_7_12 hM rfl ?_
    refine Ev_iload_n dX12_ofStretch_60 rfl ?_
    refine Ev_ialoadN (j := j) dX12_ofStretch_61 a0 (by omega) (by decide) ?_
    refine Ev_topi (y := nI (G 0 j)) (b0 _ (by omega)) ?_
    refine Ev_iret dX12_ofStretch_62 rfl rfl ?_
    rw [if_pos e1] at k
    exact k
  by_cases e2 : w = 1
  · skip
    refine Ev_tableIn (off := 52) (tg := 63) 1 dX12_ofStretch_11 (by rw [e2]; decide) (by decide) rfl (by decide) ?_
    refine Ev_aload_n dX12_ofStretch_63 rfl ?_
    refine Ev_get dX12_ofStretch_64 fg_X12_13_12 hM rfl ?_
    refine Ev_iload_n dX12_ofStretch_67 rfl ?_
    refine Ev_ialoadN (j := j) dX12_ofStretch_68 a1 (by omega) (by decide) ?_
    refine Ev_topi (y := nI (G 1 j)) (b1 _ (by omega)) ?_
    refine Ev_iret dX12_ofStretch_69 rfl rfl ?_
    rw [if_neg e1, if_pos e2] at k
    exact k
  by_cases e3 : w = 2
  · skip
    refine Ev_tableIn (off := 59) (tg := 70) 2 dX12_ofStretch_11 (by rw [e3]; decide) (by decide) rfl (by decide) ?_
    refine Ev_aload_n dX12_ofStretch_70 rfl ?_
    refine Ev_get dX12_ofStretch_71 fg_X12_16_12 hM rfl ?_
    refine Ev_iload_n dX12_ofStretch_74 rfl ?_
    refine Ev_ialoadN (j := j) dX12_ofStretch_75 a2 (by omega) (by decide) ?_
    refine Ev_topi (y := nI (G 2 j)) (b2 _ (by omega)) ?_
    refine Ev_iret dX12_ofStretch_76 rfl rfl ?_
    rw [if_neg e1, if_neg e2, if_pos e3] at k
    exact k
  by_cases e4 : w = 3
  · skip
    refine Ev_tableIn (off := 66) (tg := 77) 3 dX12_ofStretch_11 (by rw [e4]; decide) (by decide) rfl (by decide) ?_
    refine Ev_aload_n dX12_ofStretch_77 rfl ?_
    refine Ev_get dX12_ofStretch_78 fg_X12_19_12 hM rfl ?_
    refine Ev_iload_n dX12_ofStretch_81 rfl ?_
    refine Ev_ialoadN (j := j) dX12_ofStretch_82 a3 (by omega) (by decide) ?_
    refine Ev_topi (y := nI (G 3 j)) (b3 _ (by omega)) ?_
    refine Ev_iret dX12_ofStretch_83 rfl rfl ?_
    rw [if_neg e1, if_neg e2, if_neg e3, if_pos e4] at k
    exact k
  by_cases e5 : w = 4
  · skip
    refine Ev_tableIn (off := 73) (tg := 84) 4 dX12_ofStretch_11 (by rw [e5]; decide) (by decide) rfl (by decide) ?_
    refine Ev_aload_n dX12_ofStretch_84 rfl ?_
    refine Ev_get dX12_ofStretch_85 fg_X12_22_12 hM rfl ?_
    refine Ev_iload_n dX12_ofStretch_88 rfl ?_
    refine Ev_ialoadN (j := j) dX12_ofStretch_89 a4 (by omega) (by decide) ?_
    refine Ev_topi (y := nI (G 4 j)) (b4 _ (by omega)) ?_
    refine Ev_iret dX12_ofStretch_90 rfl rfl ?_
    rw [if_neg e1, if_neg e2, if_neg e3, if_neg e4, if_pos e5] at k
    exact k
  by_cases e6 : w = 5
  · skip
    refine Ev_tableIn (off := 80) (tg := 91) 5 dX12_ofStretch_11 (by rw [e6]; decide) (by decide) rfl (by decide) ?_
    refine Ev_aload_n dX12_ofStretch_91 rfl ?_
    refine Ev_get dX12_ofStretch_92 fg_X12_25_12 hM rfl ?_
    refine Ev_iload_n dX12_ofStretch_95 rfl ?_
    refine Ev_ialoadN (j := j) dX12_ofStretch_96 a5 (by omega) (by decide) ?_
    refine Ev_topi (y := nI (G 5 j)) (b5 _ (by omega)) ?_
    refine Ev_iret dX12_ofStretch_97 rfl rfl ?_
    rw [if_neg e1, if_neg e2, if_neg e3, if_neg e4, if_neg e5, if_pos e6] at k
    exact k
  by_cases e7 : w = 6
  · skip
    refine Ev_tableIn (off := 87) (tg := 98) 6 dX12_ofStretch_11 (by rw [e7]; decide) (by decide) rfl (by decide) ?_
    refine Ev_aload_n dX12_ofStretch_98 rfl ?_
    refine Ev_iload_n dX12_ofStretch_99 rfl ?_
    refine Ev_callV (bc := 0) (b := 0) dX12_ofStretch_100 cv_X12_170 rfl hM (Nat.le_of_ble_eq_true rfl) (by omega) ?_
    refine c_X12_takesOf hg hcs hM hG (by omega) ?_
    refine Ev_iret dX12_ofStretch_103 rfl rfl ?_
    rw [if_neg e1, if_neg e2, if_neg e3, if_neg e4, if_neg e5, if_neg e6, if_pos e7] at k
    exact k
  by_cases e8 : w = 7
  · skip
    refine Ev_tableIn (off := 93) (tg := 104) 7 dX12_ofStretch_11 (by rw [e8]; decide) (by decide) rfl (by decide) ?_
    refine Ev_aload_n dX12_ofStretch_104 rfl ?_
    refine Ev_get dX12_ofStretch_105 fg_X12_158_12 hM rfl ?_
    refine Ev_iload_n dX12_ofStretch_108 rfl ?_
    refine Ev_callS (bc := 0) (b := 0) dX12_ofStretch_109 cs_X12_173 rfl (Nat.le_of_ble_eq_true rfl) (by omega) ?_
    refine c_X12_isIn (by omega) (by omega) (fun q9 => ?_) (fun q9 => ?_)
    · skip
      refine Ev_if_eq dX12_ofStretch_112 (fun c => absurd c (by decide)) (fun _ => ?_)
      refine Ev_iconst (v := 1) dX12_ofStretch_115 (by decide) ?_
      refine Ev_goto dX12_ofStretch_116 ?_
      refine Ev_iret dX12_ofStretch_120 rfl rfl ?_
      rw [if_neg e1, if_neg e2, if_neg e3, if_neg e4, if_neg e5, if_neg e6, if_neg e7, if_pos e8] at k
      rw [if_pos q9] at k
      exact k
    · skip
      refine Ev_if_eq dX12_ofStretch_112 (fun _ => ?_) (fun c => absurd (by decide) c)
      refine Ev_iconst (v := 0) dX12_ofStretch_119 (by decide) ?_
      refine Ev_iret dX12_ofStretch_120 rfl rfl ?_
      rw [if_neg e1, if_neg e2, if_neg e3, if_neg e4, if_neg e5, if_neg e6, if_neg e7, if_pos e8] at k
      rw [if_neg q9] at k
      exact k
  refine Ev_tableOut (tg := 121) dX12_ofStretch_11 (sw_out8 e1 e2 e3 e4 e5 e6 e7 e8) (by decide) ?_
  refine Ev_bipush (v := (-2)) dX12_ofStretch_121 (by decide) ?_
  refine Ev_iret dX12_ofStretch_123 rfl rfl ?_
  rw [if_neg e1, if_neg e2, if_neg e3, if_neg e4, if_neg e5, if_neg e6, if_neg e7, if_neg e8] at k
  exact k

set_option maxHeartbeats 4000000 in
set_option maxRecDepth 100000 in
theorem c_X12_due {d : Nat} {S : aS} {Q : Option Value → aS → Prop} {flt du lw fr cl ra rp rs ea dp bm rd tr : Int32} {bi : Int64} {pl n : Nat} (hp7 : pl ≤ 7) (hn9 : n ≤ 9) (hM : S[31]? = some (mo flt (nI pl) (nI n) du lw fr cl ra rp rs ea dp bm bi rd tr)) {x : Int32} (kb : ¬ (0 ≤ x.toInt ∧ x.toInt ≤ 99) → Q (some (.int (-2))) S) (ks : 0 ≤ x.toInt ∧ x.toInt ≤ 99 → n = 0 → Q (some (.int (-3))) S) (k : 0 ≤ x.toInt ∧ x.toInt ≤ 99 → n ≠ 0 → Q (some (.int du)) (S.set 31 (mo flt (nI pl) (nI n) x lw fr cl ra rp rs ea dp bm bi rd tr)))  : Mth mX12_due (d + 1) 0 [.ref 31, .int x] S Q := by
  refine Mth_of (by decide) rfl ?_
  refine Ev_iload_n dX12_due_0 rfl ?_
  refine Ev_i2l dX12_due_1 ?_
  refine Ev_lconst (v := 0) dX12_due_2 (by decide) ?_
  refine Ev_ldc2 dX12_due_3 wl_X12_176 ?_
  refine Ev_callS (bc := 0) (b := 0) dX12_due_6 cs_X12_97 rfl (Nat.le_of_ble_eq_true rfl) (by omega) ?_
  refine c_X12_in (x := _) (y := 0) (z := 99) (x64 _) rfl rfl (fun q1 => ?_) (fun q1 => ?_)
  · skip
    refine Ev_if_ne dX12_due_9 (fun _ => ?_) (fun c => absurd c (by decide))
    refine Ev_aload_n dX12_due_15 rfl ?_
    refine Ev_get dX12_due_16 fg_X12_101_12 hM rfl ?_
    refine Ev_if_ne dX12_due_19 (fun c2 => ?_) (fun c2 => ?_)
    · skip
      have c2 : ¬ (n = 0) := fun z => c2 ((nIinj (a := n) (b := 0) (by omega) (by omega)).mpr z)
      refine Ev_aload_n dX12_due_25 rfl ?_
      refine Ev_get dX12_due_26 fg_X12_149_12 hM rfl ?_
      refine Ev_istore_n dX12_due_29 rfl ?_
      refine Ev_aload_n dX12_due_30 rfl ?_
      refine Ev_iload_n dX12_due_31 rfl ?_
      refine Ev_put dX12_due_32 fr_X12_149_12 hM rfl rfl rfl ?_
      refine Ev_iload_n dX12_due_35 rfl ?_
      refine Ev_iret dX12_due_36 rfl rfl ?_
      first | exact k (by omega) (by omega) | exact ks (by omega) (by omega) | exact kb (by omega)
    · skip
      have c2 : n = 0 := (nIinj (a := n) (b := 0) (by omega) (by omega)).mp c2
      refine Ev_bipush (v := (-3)) dX12_due_22 (by decide) ?_
      refine Ev_iret dX12_due_24 rfl rfl ?_
      first | exact k (by omega) (by omega) | exact ks (by omega) (by omega) | exact kb (by omega)
  · skip
    refine Ev_if_ne dX12_due_9 (fun c => absurd (by decide) c) (fun _ => ?_)
    refine Ev_bipush (v := (-2)) dX12_due_12 (by decide) ?_
    refine Ev_iret dX12_due_14 rfl rfl ?_
    first | exact k (by omega) (by omega) | exact ks (by omega) (by omega) | exact kb (by omega)

set_option maxHeartbeats 4000000 in
set_option maxRecDepth 100000 in
theorem c_X12_law {d : Nat} {S : aS} {Q : Option Value → aS → Prop} {flt du lw fr cl ra rp rs ea dp bm rd tr : Int32} {bi : Int64} {pl n : Nat} (hp7 : pl ≤ 7) (hn9 : n ≤ 9) (hM : S[31]? = some (mo flt (nI pl) (nI n) du lw fr cl ra rp rs ea dp bm bi rd tr)) {x : Int32} (kb : ¬ (0 ≤ x.toInt ∧ x.toInt ≤ 2) → Q (some (.int (-2))) S) (ks : 0 ≤ x.toInt ∧ x.toInt ≤ 2 → n = 0 → Q (some (.int (-3))) S) (k : 0 ≤ x.toInt ∧ x.toInt ≤ 2 → n ≠ 0 → Q (some (.int lw)) (S.set 31 (mo flt (nI pl) (nI n) du x fr cl ra rp rs ea dp bm bi rd tr)))  : Mth mX12_law (d + 1) 0 [.ref 31, .int x] S Q := by
  refine Mth_of (by decide) rfl ?_
  refine Ev_iload_n dX12_law_0 rfl ?_
  refine Ev_i2l dX12_law_1 ?_
  refine Ev_lconst (v := 0) dX12_law_2 (by decide) ?_
  refine Ev_ldc2 dX12_law_3 wl_X12_140 ?_
  refine Ev_callS (bc := 0) (b := 0) dX12_law_6 cs_X12_97 rfl (Nat.le_of_ble_eq_true rfl) (by omega) ?_
  refine c_X12_in (x := _) (y := 0) (z := 2) (x64 _) rfl rfl (fun q1 => ?_) (fun q1 => ?_)
  · skip
    refine Ev_if_ne dX12_law_9 (fun _ => ?_) (fun c => absurd c (by decide))
    refine Ev_aload_n dX12_law_15 rfl ?_
    refine Ev_get dX12_law_16 fg_X12_101_12 hM rfl ?_
    refine Ev_if_ne dX12_law_19 (fun c2 => ?_) (fun c2 => ?_)
    · skip
      have c2 : ¬ (n = 0) := fun z => c2 ((nIinj (a := n) (b := 0) (by omega) (by omega)).mpr z)
      refine Ev_aload_n dX12_law_25 rfl ?_
      refine Ev_get dX12_law_26 fg_X12_152_12 hM rfl ?_
      refine Ev_istore_n dX12_law_29 rfl ?_
      refine Ev_aload_n dX12_law_30 rfl ?_
      refine Ev_iload_n dX12_law_31 rfl ?_
      refine Ev_put dX12_law_32 fr_X12_152_12 hM rfl rfl rfl ?_
      refine Ev_iload_n dX12_law_35 rfl ?_
      refine Ev_iret dX12_law_36 rfl rfl ?_
      first | exact k (by omega) (by omega) | exact ks (by omega) (by omega) | exact kb (by omega)
    · skip
      have c2 : n = 0 := (nIinj (a := n) (b := 0) (by omega) (by omega)).mp c2
      refine Ev_bipush (v := (-3)) dX12_law_22 (by decide) ?_
      refine Ev_iret dX12_law_24 rfl rfl ?_
      first | exact k (by omega) (by omega) | exact ks (by omega) (by omega) | exact kb (by omega)
  · skip
    refine Ev_if_ne dX12_law_9 (fun c => absurd (by decide) c) (fun _ => ?_)
    refine Ev_bipush (v := (-2)) dX12_law_12 (by decide) ?_
    refine Ev_iret dX12_law_14 rfl rfl ?_
    first | exact k (by omega) (by omega) | exact ks (by omega) (by omega) | exact kb (by omega)

set_option maxHeartbeats 4000000 in
set_option maxRecDepth 100000 in
theorem c_X12_friend {d : Nat} {S : aS} {Q : Option Value → aS → Prop} {flt du lw fr cl ra rp rs ea dp bm rd tr : Int32} {bi : Int64} {pl n : Nat} (hp7 : pl ≤ 7) (hn9 : n ≤ 9) (hM : S[31]? = some (mo flt (nI pl) (nI n) du lw fr cl ra rp rs ea dp bm bi rd tr)) {x : Int32} (kb : ¬ x = -9 → ¬ (0 ≤ x.toInt ∧ x.toInt < pl) → Q (some (.int (-1))) S) (ks : (x = -9 ∨ (0 ≤ x.toInt ∧ x.toInt < pl)) → n = 0 → Q (some (.int (-3))) S) (k : (x = -9 ∨ (0 ≤ x.toInt ∧ x.toInt < pl)) → n ≠ 0 → Q (some (.int fr)) (S.set 31 (mo flt (nI pl) (nI n) du lw x cl ra rp rs ea dp bm bi rd tr))) : Mth mX12_friend (d + 2) 0 [.ref 31, .int x] S Q := by
  refine Mth_of (by decide) rfl ?_
  refine Ev_iload_n dX12_friend_0 rfl ?_
  refine Ev_bipush (v := (-9)) dX12_friend_1 (by decide) ?_
  refine Ev_icmp_eq dX12_friend_3 (fun c1 => ?_) (fun c1 => ?_)
  · skip
    refine Ev_aload_n dX12_friend_16 rfl ?_
    refine Ev_get dX12_friend_17 fg_X12_101_12 hM rfl ?_
    refine Ev_if_ne dX12_friend_20 (fun c2 => ?_) (fun c2 => ?_)
    · skip
      have c2 : ¬ (n = 0) := fun z => c2 ((nIinj (a := n) (b := 0) (by omega) (by omega)).mpr z)
      refine Ev_aload_n dX12_friend_26 rfl ?_
      refine Ev_get dX12_friend_27 fg_X12_155_12 hM rfl ?_
      refine Ev_istore_n dX12_friend_30 rfl ?_
      refine Ev_aload_n dX12_friend_31 rfl ?_
      refine Ev_iload_n dX12_friend_32 rfl ?_
      refine Ev_put dX12_friend_33 fr_X12_155_12 hM rfl rfl rfl ?_
      refine Ev_iload_n dX12_friend_36 rfl ?_
      refine Ev_iret dX12_friend_37 rfl rfl ?_
      first | exact k (Or.inl c1) (by omega) | exact ks (Or.inl c1) (by omega) | exact k (Or.inr (by omega)) (by omega) | exact ks (Or.inr (by omega)) (by omega) | exact kb c1 (by omega)
    · skip
      have c2 : n = 0 := (nIinj (a := n) (b := 0) (by omega) (by omega)).mp c2
      refine Ev_bipush (v := (-3)) dX12_friend_23 (by decide) ?_
      refine Ev_iret dX12_friend_25 rfl rfl ?_
      first | exact k (Or.inl c1) (by omega) | exact ks (Or.inl c1) (by omega) | exact k (Or.inr (by omega)) (by omega) | exact ks (Or.inr (by omega)) (by omega) | exact kb c1 (by omega)
  · skip
    refine Ev_aload_n dX12_friend_6 rfl ?_
    refine Ev_iload_n dX12_friend_7 rfl ?_
    refine Ev_callV (bc := 0) (b := 0) dX12_friend_8 cv_X12_178 rfl hM (Nat.le_of_ble_eq_true rfl) (by omega) ?_
    refine c_X12_noPlace hp7 hn9 hM (fun q3 => ?_) (fun q3 => ?_)
    · skip
      refine Ev_if_eq dX12_friend_11 (fun c => absurd c (by decide)) (fun _ => ?_)
      refine Ev_iconst (v := (-1)) dX12_friend_14 (by decide) ?_
      refine Ev_iret dX12_friend_15 rfl rfl ?_
      first | exact k (Or.inl c1) (by omega) | exact ks (Or.inl c1) (by omega) | exact k (Or.inr (by omega)) (by omega) | exact ks (Or.inr (by omega)) (by omega) | exact kb c1 (by omega)
    · skip
      refine Ev_if_eq dX12_friend_11 (fun _ => ?_) (fun c => absurd (by decide) c)
      refine Ev_aload_n dX12_friend_16 rfl ?_
      refine Ev_get dX12_friend_17 fg_X12_101_12 hM rfl ?_
      refine Ev_if_ne dX12_friend_20 (fun c4 => ?_) (fun c4 => ?_)
      · skip
        have c4 : ¬ (n = 0) := fun z => c4 ((nIinj (a := n) (b := 0) (by omega) (by omega)).mpr z)
        refine Ev_aload_n dX12_friend_26 rfl ?_
        refine Ev_get dX12_friend_27 fg_X12_155_12 hM rfl ?_
        refine Ev_istore_n dX12_friend_30 rfl ?_
        refine Ev_aload_n dX12_friend_31 rfl ?_
        refine Ev_iload_n dX12_friend_32 rfl ?_
        refine Ev_put dX12_friend_33 fr_X12_155_12 hM rfl rfl rfl ?_
        refine Ev_iload_n dX12_friend_36 rfl ?_
        refine Ev_iret dX12_friend_37 rfl rfl ?_
        first | exact k (Or.inl c1) (by omega) | exact ks (Or.inl c1) (by omega) | exact k (Or.inr (by omega)) (by omega) | exact ks (Or.inr (by omega)) (by omega) | exact kb c1 (by omega)
      · skip
        have c4 : n = 0 := (nIinj (a := n) (b := 0) (by omega) (by omega)).mp c4
        refine Ev_bipush (v := (-3)) dX12_friend_23 (by decide) ?_
        refine Ev_iret dX12_friend_25 rfl rfl ?_
        first | exact k (Or.inl c1) (by omega) | exact ks (Or.inl c1) (by omega) | exact k (Or.inr (by omega)) (by omega) | exact ks (Or.inr (by omega)) (by omega) | exact kb c1 (by omega)

set_option maxHeartbeats 4000000 in
set_option maxRecDepth 100000 in
theorem c_X12_close0 {d : Nat} {S : aS} {Q : Option Value → aS → Prop} {flt du lw fr ra rp rs ea dp bm rd tr : Int32} {bi : Int64} {pl n cs : Nat} {G : Nat → Nat → Nat} (hg : GD pl n G) (hcs : cs < 512) (hM : S[31]? = some (mo flt (nI pl) (nI n) du lw fr (nI cs) ra rp rs ea dp bm bi rd tr)) (hG : MN S n G) {j : Nat} (hj : j < n) (k : Q (some (.int (if cs.testBit j = false then 0 else 1))) (S.set 31 (mo flt (nI pl) (nI n) du lw fr (nI (setb cs j false)) ra rp rs ea dp bm bi rd tr))) : Mth mX12_close (d + 2) 0 [.ref 31, .int (nI j), .int 0] S Q := by
  have hn9 := hg.2.1
  have hp7 := hg.1
  refine Mth_of (by decide) rfl ?_
  refine Ev_aload_n dX12_close_0 rfl ?_
  refine Ev_iload_n dX12_close_1 rfl ?_
  refine Ev_callV (bc := 0) (b := 0) dX12_close_2 cv_X12_167 rfl hM (Nat.le_of_ble_eq_true rfl) (by omega) ?_
  refine c_X12_noStretch hp7 hn9 hM (fun q => absurd q (not_not_intro (by rw [nIt (by omega)]; omega))) (fun _ => ?_)
  refine Ev_if_eq dX12_close_5 (fun _ => ?_) (fun c => absurd (by decide) c)
  refine Ev_aload_n dX12_close_10 rfl ?_
  refine Ev_get dX12_close_11 fg_X12_158_12 hM rfl ?_
  refine Ev_iload_n dX12_close_14 rfl ?_
  refine Ev_callS (bc := 0) (b := 0) dX12_close_15 cs_X12_173 rfl (Nat.le_of_ble_eq_true rfl) (by omega) ?_
  refine c_X12_isIn (by omega) (by omega) (fun q1 => ?_) (fun q1 => ?_)
  · skip
    refine Ev_istore_n dX12_close_18 rfl ?_
    refine Ev_aload_n dX12_close_19 rfl ?_
    refine Ev_iload_n dX12_close_20 rfl ?_
    refine Ev_if_eq dX12_close_21 (fun _ => ?_) (fun c => absurd (by decide) c)
    refine Ev_aload_n dX12_close_35 rfl ?_
    refine Ev_get dX12_close_36 fg_X12_158_12 hM rfl ?_
    refine Ev_iconst (v := 1) dX12_close_39 (by decide) ?_
    refine Ev_iload_n dX12_close_40 rfl ?_
    refine Ev_ishl dX12_close_41 ?_
    refine Ev_topi (y := nI (2 ^ j)) (oneShl (by omega)) ?_
    refine Ev_iconst (v := (-1)) dX12_close_42 (by decide) ?_
    refine Ev_ixor dX12_close_43 ?_
    refine Ev_topi (y := nI (2 ^ j) ^^^ (-1)) rfl ?_
    refine Ev_iand dX12_close_44 ?_
    refine Ev_topi (y := nI (cs &&& (511 ^^^ 2 ^ j))) (clrN cs hcs j (by omega)) ?_
    refine Ev_put dX12_close_45 fr_X12_158_12 hM rfl rfl rfl ?_
    refine Ev_iload_n dX12_close_48 rfl ?_
    refine Ev_iload_n dX12_close_49 rfl ?_
    refine Ev_icmp_ne dX12_close_50 (fun _ => ?_) (fun c => absurd c (by decide))
    refine Ev_iconst (v := 1) dX12_close_57 (by decide) ?_
    refine Ev_iret dX12_close_58 rfl rfl ?_
    have hq : cs.testBit j = true := by simpa using q1
    rw [hq] at k
    exact k
  · skip
    refine Ev_istore_n dX12_close_18 rfl ?_
    refine Ev_aload_n dX12_close_19 rfl ?_
    refine Ev_iload_n dX12_close_20 rfl ?_
    refine Ev_if_eq dX12_close_21 (fun _ => ?_) (fun c => absurd (by decide) c)
    refine Ev_aload_n dX12_close_35 rfl ?_
    refine Ev_get dX12_close_36 fg_X12_158_12 hM rfl ?_
    refine Ev_iconst (v := 1) dX12_close_39 (by decide) ?_
    refine Ev_iload_n dX12_close_40 rfl ?_
    refine Ev_ishl dX12_close_41 ?_
    refine Ev_topi (y := nI (2 ^ j)) (oneShl (by omega)) ?_
    refine Ev_iconst (v := (-1)) dX12_close_42 (by decide) ?_
    refine Ev_ixor dX12_close_43 ?_
    refine Ev_topi (y := nI (2 ^ j) ^^^ (-1)) rfl ?_
    refine Ev_iand dX12_close_44 ?_
    refine Ev_topi (y := nI (cs &&& (511 ^^^ 2 ^ j))) (clrN cs hcs j (by omega)) ?_
    refine Ev_put dX12_close_45 fr_X12_158_12 hM rfl rfl rfl ?_
    refine Ev_iload_n dX12_close_48 rfl ?_
    refine Ev_iload_n dX12_close_49 rfl ?_
    refine Ev_icmp_ne dX12_close_50 (fun c => absurd (by decide) c) (fun _ => ?_)
    refine Ev_iconst (v := 0) dX12_close_53 (by decide) ?_
    refine Ev_goto dX12_close_54 ?_
    refine Ev_iret dX12_close_58 rfl rfl ?_
    have hq : cs.testBit j = false := by simpa using q1
    rw [hq] at k
    exact k

set_option maxHeartbeats 4000000 in
set_option maxRecDepth 100000 in
theorem c_X12_close1 {d : Nat} {S : aS} {Q : Option Value → aS → Prop} {flt du lw fr ra rp rs ea dp bm rd tr : Int32} {bi : Int64} {pl n cs : Nat} {G : Nat → Nat → Nat} (hg : GD pl n G) (hcs : cs < 512) (hM : S[31]? = some (mo flt (nI pl) (nI n) du lw fr (nI cs) ra rp rs ea dp bm bi rd tr)) (hG : MN S n G) {j : Nat} (hj : j < n) (k : Q (some (.int (if cs.testBit j = true then 0 else 1))) (S.set 31 (mo flt (nI pl) (nI n) du lw fr (nI (setb cs j true)) ra rp rs ea dp bm bi rd tr))) : Mth mX12_close (d + 2) 0 [.ref 31, .int (nI j), .int 1] S Q := by
  have hn9 := hg.2.1
  have hp7 := hg.1
  refine Mth_of (by decide) rfl ?_
  refine Ev_aload_n dX12_close_0 rfl ?_
  refine Ev_iload_n dX12_close_1 rfl ?_
  refine Ev_callV (bc := 0) (b := 0) dX12_close_2 cv_X12_167 rfl hM (Nat.le_of_ble_eq_true rfl) (by omega) ?_
  refine c_X12_noStretch hp7 hn9 hM (fun q => absurd q (not_not_intro (by rw [nIt (by omega)]; omega))) (fun _ => ?_)
  refine Ev_if_eq dX12_close_5 (fun _ => ?_) (fun c => absurd (by decide) c)
  refine Ev_aload_n dX12_close_10 rfl ?_
  refine Ev_get dX12_close_11 fg_X12_158_12 hM rfl ?_
  refine Ev_iload_n dX12_close_14 rfl ?_
  refine Ev_callS (bc := 0) (b := 0) dX12_close_15 cs_X12_173 rfl (Nat.le_of_ble_eq_true rfl) (by omega) ?_
  refine c_X12_isIn (by omega) (by omega) (fun q1 => ?_) (fun q1 => ?_)
  · skip
    refine Ev_istore_n dX12_close_18 rfl ?_
    refine Ev_aload_n dX12_close_19 rfl ?_
    refine Ev_iload_n dX12_close_20 rfl ?_
    refine Ev_if_eq dX12_close_21 (fun c => absurd c (by decide)) (fun _ => ?_)
    refine Ev_aload_n dX12_close_24 rfl ?_
    refine Ev_get dX12_close_25 fg_X12_158_12 hM rfl ?_
    refine Ev_iconst (v := 1) dX12_close_28 (by decide) ?_
    refine Ev_iload_n dX12_close_29 rfl ?_
    refine Ev_ishl dX12_close_30 ?_
    refine Ev_topi (y := nI (2 ^ j)) (oneShl (by omega)) ?_
    refine Ev_ior dX12_close_31 ?_
    refine Ev_topi (y := nI (cs ||| (2 ^ j))) (orN _ _) ?_
    refine Ev_goto dX12_close_32 ?_
    refine Ev_put dX12_close_45 fr_X12_158_12 hM rfl rfl rfl ?_
    refine Ev_iload_n dX12_close_48 rfl ?_
    refine Ev_iload_n dX12_close_49 rfl ?_
    refine Ev_icmp_ne dX12_close_50 (fun c => absurd (by decide) c) (fun _ => ?_)
    refine Ev_iconst (v := 0) dX12_close_53 (by decide) ?_
    refine Ev_goto dX12_close_54 ?_
    refine Ev_iret dX12_close_58 rfl rfl ?_
    have hq : cs.testBit j = true := by simpa using q1
    rw [hq] at k
    exact k
  · skip
    refine Ev_istore_n dX12_close_18 rfl ?_
    refine Ev_aload_n dX12_close_19 rfl ?_
    refine Ev_iload_n dX12_close_20 rfl ?_
    refine Ev_if_eq dX12_close_21 (fun c => absurd c (by decide)) (fun _ => ?_)
    refine Ev_aload_n dX12_close_24 rfl ?_
    refine Ev_get dX12_close_25 fg_X12_158_12 hM rfl ?_
    refine Ev_iconst (v := 1) dX12_close_28 (by decide) ?_
    refine Ev_iload_n dX12_close_29 rfl ?_
    refine Ev_ishl dX12_close_30 ?_
    refine Ev_topi (y := nI (2 ^ j)) (oneShl (by omega)) ?_
    refine Ev_ior dX12_close_31 ?_
    refine Ev_topi (y := nI (cs ||| (2 ^ j))) (orN _ _) ?_
    refine Ev_goto dX12_close_32 ?_
    refine Ev_put dX12_close_45 fr_X12_158_12 hM rfl rfl rfl ?_
    refine Ev_iload_n dX12_close_48 rfl ?_
    refine Ev_iload_n dX12_close_49 rfl ?_
    refine Ev_icmp_ne dX12_close_50 (fun _ => ?_) (fun c => absurd c (by decide))
    refine Ev_iconst (v := 1) dX12_close_57 (by decide) ?_
    refine Ev_iret dX12_close_58 rfl rfl ?_
    have hq : cs.testBit j = false := by simpa using q1
    rw [hq] at k
    exact k

set_option maxHeartbeats 4000000 in
set_option maxRecDepth 100000 in
theorem c_X12_tell0 {d : Nat} {S : aS} {Q : Option Value → aS → Prop} {flt du lw fr ra rp rs ea dp bm rd tr : Int32} {bi : Int64} {pl n cs : Nat} {G : Nat → Nat → Nat} (hg : GD pl n G) (hcs : cs < 512) (hM : S[31]? = some (mo flt (nI pl) (nI n) du lw fr (nI cs) ra rp rs ea dp bm bi rd tr)) (hG : MN S n G) {j : Nat} (hj : j < n) (hk : G 0 j = 0) (k : Q (some (.int (nI (G 3 j)))) (S.set 31 (mo flt (nI pl) (nI n) du lw fr (nI cs) ra rp rs ea dp bm bi rd (31 * tr + 1)))) : Mth mX12_tell (d + 2) 0 [.ref 31, .int (nI j)] S Q := by
  have hn9 := hg.2.1
  have hp7 := hg.1
  have hjG := hg.2.2 j hj
  obtain ⟨f0, a0, b0⟩ := hG 0 (by decide)
  obtain ⟨f3, a3, b3⟩ := hG 3 (by decide)
  refine Mth_of (by decide) rfl ?_
  refine Ev_aload_n dX12_tell_0 rfl ?_
  refine Ev_iload_n dX12_tell_1 rfl ?_
  refine Ev_callV (bc := 0) (b := 0) dX12_tell_2 cv_X12_167 rfl hM (Nat.le_of_ble_eq_true rfl) (by omega) ?_
  refine c_X12_noStretch hp7 hn9 hM (fun q => absurd q (not_not_intro (by rw [nIt (by omega)]; omega))) (fun _ => ?_)
  refine Ev_if_eq dX12_tell_5 (fun _ => ?_) (fun c => absurd (by decide) c)
  refine Ev_aload_n dX12_tell_10 rfl ?_
  refine Ev_get dX12_tell_11 fg_X12_7_12 hM rfl ?_
  refine Ev_iload_n dX12_tell_14 rfl ?_
  refine Ev_ialoadN (j := j) dX12_tell_15 a0 (by omega) (by decide) ?_
  refine Ev_topi (y := 0) (by rw [b0 _ (by omega), hk]; rfl) ?_
  refine Ev_istore_n dX12_tell_16 rfl ?_
  refine Ev_iload_n dX12_tell_17 rfl ?_
  refine Ev_iconst (v := 2) dX12_tell_18 (by decide) ?_
  refine Ev_icmp_ne dX12_tell_19 (fun _ => ?_) (fun c => absurd c (by decide))
  refine Ev_iload_n dX12_tell_27 rfl ?_
  refine Ev_if_le dX12_tell_28 (fun _ => ?_) (fun c => absurd (by decide) c)
  refine Ev_aload_n dX12_tell_36 rfl ?_
  refine Ev_iconst (v := 1) dX12_tell_37 (by decide) ?_
  refine Ev_callV (bc := 0) (b := 0) dX12_tell_38 cv_X12_290 rfl hM (Nat.le_of_ble_eq_true rfl) (by omega) ?_
  refine c_X12_traced hM ?_
  refine Ev_iload_n dX12_tell_41 rfl ?_
  refine Ev_iconst (v := 2) dX12_tell_42 (by decide) ?_
  refine Ev_icmp_ne dX12_tell_43 (fun _ => ?_) (fun c => absurd c (by decide))
  refine Ev_aload_n dX12_tell_51 rfl ?_
  refine Ev_get dX12_tell_52 fg_X12_19_12 (gs hM) rfl ?_
  refine Ev_iload_n dX12_tell_55 rfl ?_
  refine Ev_ialoadN (j := j) dX12_tell_56 (gn (by decide) a3) (by omega) (by decide) ?_
  refine Ev_topi (y := nI (G 3 j)) (b3 _ (by omega)) ?_
  refine Ev_istore_n dX12_tell_57 rfl ?_
  refine Ev_iload_n dX12_tell_58 rfl ?_
  refine Ev_if_ne dX12_tell_59 (fun c => absurd (by decide) c) (fun _ => ?_)
  refine Ev_iload_n dX12_tell_62 rfl ?_
  refine Ev_goto dX12_tell_63 ?_
  refine Ev_iret dX12_tell_84 rfl rfl ?_
  exact k

set_option maxHeartbeats 4000000 in
set_option maxRecDepth 100000 in
theorem c_X12_tell1 {d : Nat} {S : aS} {Q : Option Value → aS → Prop} {flt du lw fr ra rp rs ea dp bm rd tr : Int32} {bi : Int64} {pl n cs : Nat} {G : Nat → Nat → Nat} (hg : GD pl n G) (hcs : cs < 512) (hM : S[31]? = some (mo flt (nI pl) (nI n) du lw fr (nI cs) ra rp rs ea dp bm bi rd tr)) (hG : MN S n G) {j : Nat} (hj : j < n) (hk : G 0 j = 1) (k : Q (some (.int (nI (G 3 j + 100)))) (S.set 31 (mo flt (nI pl) (nI n) du lw fr (nI cs) ra rp rs ea dp bm bi rd (31 * (31 * tr + 2) + 1)))) : Mth mX12_tell (d + 2) 0 [.ref 31, .int (nI j)] S Q := by
  have hn9 := hg.2.1
  have hp7 := hg.1
  have hjG := hg.2.2 j hj
  obtain ⟨f0, a0, b0⟩ := hG 0 (by decide)
  obtain ⟨f3, a3, b3⟩ := hG 3 (by decide)
  refine Mth_of (by decide) rfl ?_
  refine Ev_aload_n dX12_tell_0 rfl ?_
  refine Ev_iload_n dX12_tell_1 rfl ?_
  refine Ev_callV (bc := 0) (b := 0) dX12_tell_2 cv_X12_167 rfl hM (Nat.le_of_ble_eq_true rfl) (by omega) ?_
  refine c_X12_noStretch hp7 hn9 hM (fun q => absurd q (not_not_intro (by rw [nIt (by omega)]; omega))) (fun _ => ?_)
  refine Ev_if_eq dX12_tell_5 (fun _ => ?_) (fun c => absurd (by decide) c)
  refine Ev_aload_n dX12_tell_10 rfl ?_
  refine Ev_get dX12_tell_11 fg_X12_7_12 hM rfl ?_
  refine Ev_iload_n dX12_tell_14 rfl ?_
  refine Ev_ialoadN (j := j) dX12_tell_15 a0 (by omega) (by decide) ?_
  refine Ev_topi (y := 1) (by rw [b0 _ (by omega), hk]; rfl) ?_
  refine Ev_istore_n dX12_tell_16 rfl ?_
  refine Ev_iload_n dX12_tell_17 rfl ?_
  refine Ev_iconst (v := 2) dX12_tell_18 (by decide) ?_
  refine Ev_icmp_ne dX12_tell_19 (fun _ => ?_) (fun c => absurd c (by decide))
  refine Ev_iload_n dX12_tell_27 rfl ?_
  refine Ev_if_le dX12_tell_28 (fun c => absurd c (by decide)) (fun _ => ?_)
  refine Ev_aload_n dX12_tell_31 rfl ?_
  refine Ev_iconst (v := 2) dX12_tell_32 (by decide) ?_
  refine Ev_callV (bc := 0) (b := 0) dX12_tell_33 cv_X12_290 rfl hM (Nat.le_of_ble_eq_true rfl) (by omega) ?_
  refine c_X12_traced hM ?_
  refine Ev_aload_n dX12_tell_36 rfl ?_
  refine Ev_iconst (v := 1) dX12_tell_37 (by decide) ?_
  refine Ev_callV (bc := 0) (b := 0) dX12_tell_38 cv_X12_290 rfl (gs hM) (Nat.le_of_ble_eq_true rfl) (by omega) ?_
  refine c_X12_traced (gs hM) ?_
  refine Ev_st gss ?_
  refine Ev_iload_n dX12_tell_41 rfl ?_
  refine Ev_iconst (v := 2) dX12_tell_42 (by decide) ?_
  refine Ev_icmp_ne dX12_tell_43 (fun _ => ?_) (fun c => absurd c (by decide))
  refine Ev_aload_n dX12_tell_51 rfl ?_
  refine Ev_get dX12_tell_52 fg_X12_19_12 (gs hM) rfl ?_
  refine Ev_iload_n dX12_tell_55 rfl ?_
  refine Ev_ialoadN (j := j) dX12_tell_56 (gn (by decide) a3) (by omega) (by decide) ?_
  refine Ev_topi (y := nI (G 3 j)) (b3 _ (by omega)) ?_
  refine Ev_istore_n dX12_tell_57 rfl ?_
  refine Ev_iload_n dX12_tell_58 rfl ?_
  refine Ev_if_ne dX12_tell_59 (fun _ => ?_) (fun c => absurd c (by decide))
  refine Ev_iload_n dX12_tell_66 rfl ?_
  refine Ev_iconst (v := 1) dX12_tell_67 (by decide) ?_
  refine Ev_icmp_ne dX12_tell_68 (fun c => absurd (by decide) c) (fun _ => ?_)
  refine Ev_iload_n dX12_tell_71 rfl ?_
  refine Ev_bipush (v := 100) dX12_tell_72 (by decide) ?_
  refine Ev_iadd dX12_tell_74 ?_
  refine Ev_topi (y := nI ((G 3 j) + 100)) (nI_add _ _) ?_
  refine Ev_goto dX12_tell_75 ?_
  refine Ev_iret dX12_tell_84 rfl rfl ?_
  exact k

set_option maxHeartbeats 4000000 in
set_option maxRecDepth 100000 in
theorem c_X12_tell2 {d : Nat} {S : aS} {Q : Option Value → aS → Prop} {flt du lw fr ra rp rs ea dp bm rd tr : Int32} {bi : Int64} {pl n cs : Nat} {G : Nat → Nat → Nat} (hg : GD pl n G) (hcs : cs < 512) (hM : S[31]? = some (mo flt (nI pl) (nI n) du lw fr (nI cs) ra rp rs ea dp bm bi rd tr)) (hG : MN S n G) {j : Nat} (hj : j < n) (hk : G 0 j = 2) (k : Q (some (.int (nI (2 * G 3 j + 100)))) (S.set 31 (mo flt (nI pl) (nI n) du lw fr (nI cs) ra rp rs ea dp bm bi rd (31 * (31 * (31 * (31 * tr + 3) + 2) + 1) + 1)))) : Mth mX12_tell (d + 2) 0 [.ref 31, .int (nI j)] S Q := by
  have hn9 := hg.2.1
  have hp7 := hg.1
  have hjG := hg.2.2 j hj
  obtain ⟨f0, a0, b0⟩ := hG 0 (by decide)
  obtain ⟨f3, a3, b3⟩ := hG 3 (by decide)
  refine Mth_of (by decide) rfl ?_
  refine Ev_aload_n dX12_tell_0 rfl ?_
  refine Ev_iload_n dX12_tell_1 rfl ?_
  refine Ev_callV (bc := 0) (b := 0) dX12_tell_2 cv_X12_167 rfl hM (Nat.le_of_ble_eq_true rfl) (by omega) ?_
  refine c_X12_noStretch hp7 hn9 hM (fun q => absurd q (not_not_intro (by rw [nIt (by omega)]; omega))) (fun _ => ?_)
  refine Ev_if_eq dX12_tell_5 (fun _ => ?_) (fun c => absurd (by decide) c)
  refine Ev_aload_n dX12_tell_10 rfl ?_
  refine Ev_get dX12_tell_11 fg_X12_7_12 hM rfl ?_
  refine Ev_iload_n dX12_tell_14 rfl ?_
  refine Ev_ialoadN (j := j) dX12_tell_15 a0 (by omega) (by decide) ?_
  refine Ev_topi (y := 2) (by rw [b0 _ (by omega), hk]; rfl) ?_
  refine Ev_istore_n dX12_tell_16 rfl ?_
  refine Ev_iload_n dX12_tell_17 rfl ?_
  refine Ev_iconst (v := 2) dX12_tell_18 (by decide) ?_
  refine Ev_icmp_ne dX12_tell_19 (fun c => absurd (by decide) c) (fun _ => ?_)
  refine Ev_aload_n dX12_tell_22 rfl ?_
  refine Ev_iconst (v := 3) dX12_tell_23 (by decide) ?_
  refine Ev_callV (bc := 0) (b := 0) dX12_tell_24 cv_X12_290 rfl hM (Nat.le_of_ble_eq_true rfl) (by omega) ?_
  refine c_X12_traced hM ?_
  refine Ev_iload_n dX12_tell_27 rfl ?_
  refine Ev_if_le dX12_tell_28 (fun c => absurd c (by decide)) (fun _ => ?_)
  refine Ev_aload_n dX12_tell_31 rfl ?_
  refine Ev_iconst (v := 2) dX12_tell_32 (by decide) ?_
  refine Ev_callV (bc := 0) (b := 0) dX12_tell_33 cv_X12_290 rfl (gs hM) (Nat.le_of_ble_eq_true rfl) (by omega) ?_
  refine c_X12_traced (gs hM) ?_
  refine Ev_st gss ?_
  refine Ev_aload_n dX12_tell_36 rfl ?_
  refine Ev_iconst (v := 1) dX12_tell_37 (by decide) ?_
  refine Ev_callV (bc := 0) (b := 0) dX12_tell_38 cv_X12_290 rfl (gs hM) (Nat.le_of_ble_eq_true rfl) (by omega) ?_
  refine c_X12_traced (gs hM) ?_
  refine Ev_st gss ?_
  refine Ev_iload_n dX12_tell_41 rfl ?_
  refine Ev_iconst (v := 2) dX12_tell_42 (by decide) ?_
  refine Ev_icmp_ne dX12_tell_43 (fun c => absurd (by decide) c) (fun _ => ?_)
  refine Ev_aload_n dX12_tell_46 rfl ?_
  refine Ev_iconst (v := 1) dX12_tell_47 (by decide) ?_
  refine Ev_callV (bc := 0) (b := 0) dX12_tell_48 cv_X12_290 rfl (gs hM) (Nat.le_of_ble_eq_true rfl) (by omega) ?_
  refine c_X12_traced (gs hM) ?_
  refine Ev_st gss ?_
  refine Ev_aload_n dX12_tell_51 rfl ?_
  refine Ev_get dX12_tell_52 fg_X12_19_12 (gs hM) rfl ?_
  refine Ev_iload_n dX12_tell_55 rfl ?_
  refine Ev_ialoadN (j := j) dX12_tell_56 (gn (by decide) a3) (by omega) (by decide) ?_
  refine Ev_topi (y := nI (G 3 j)) (b3 _ (by omega)) ?_
  refine Ev_istore_n dX12_tell_57 rfl ?_
  refine Ev_iload_n dX12_tell_58 rfl ?_
  refine Ev_if_ne dX12_tell_59 (fun _ => ?_) (fun c => absurd c (by decide))
  refine Ev_iload_n dX12_tell_66 rfl ?_
  refine Ev_iconst (v := 1) dX12_tell_67 (by decide) ?_
  refine Ev_icmp_ne dX12_tell_68 (fun _ => ?_) (fun c => absurd c (by decide))
  refine Ev_iconst (v := 2) dX12_tell_78 (by decide) ?_
  refine Ev_iload_n dX12_tell_79 rfl ?_
  refine Ev_imul dX12_tell_80 ?_
  refine Ev_topi (y := nI (2 * (G 3 j))) (nmul _ _) ?_
  refine Ev_bipush (v := 100) dX12_tell_81 (by decide) ?_
  refine Ev_iadd dX12_tell_83 ?_
  refine Ev_topi (y := nI ((2 * (G 3 j)) + 100)) (nI_add _ _) ?_
  refine Ev_iret dX12_tell_84 rfl rfl ?_
  exact k

set_option maxHeartbeats 4000000 in
set_option maxRecDepth 100000 in
theorem c_X12_sing0 {d : Nat} {S : aS} {Q : Option Value → aS → Prop} {flt du lw fr ra rp rs ea dp bm rd tr : Int32} {bi : Int64} {pl n cs : Nat} {G : Nat → Nat → Nat} (hg : GD pl n G) (hcs : cs < 512) (hM : S[31]? = some (mo flt (nI pl) (nI n) du lw fr (nI cs) ra rp rs ea dp bm bi rd tr)) (hG : MN S n G) {j : Nat} (hj : j < n) (hk : G 0 j = 0) (k : Q (some (.int (nI j))) (S.set 31 (mo flt (nI pl) (nI n) du lw fr (nI cs) ra rp rs ea dp bm bi rd (31 * tr + 4)))) : Mth mX12_sing (d + 2) 0 [.ref 31, .int (nI j)] S Q := by
  have hn9 := hg.2.1
  have hp7 := hg.1
  have hjG := hg.2.2 j hj
  obtain ⟨f0, a0, b0⟩ := hG 0 (by decide)
  refine Mth_of (by decide) rfl ?_
  refine Ev_aload_n dX12_sing_0 rfl ?_
  refine Ev_iload_n dX12_sing_1 rfl ?_
  refine Ev_callV (bc := 0) (b := 0) dX12_sing_2 cv_X12_167 rfl hM (Nat.le_of_ble_eq_true rfl) (by omega) ?_
  refine c_X12_noStretch hp7 hn9 hM (fun q => absurd q (not_not_intro (by rw [nIt (by omega)]; omega))) (fun _ => ?_)
  refine Ev_if_eq dX12_sing_5 (fun _ => ?_) (fun c => absurd (by decide) c)
  refine Ev_aload_n dX12_sing_10 rfl ?_
  refine Ev_aload_n dX12_sing_11 rfl ?_
  refine Ev_get dX12_sing_12 fg_X12_7_12 hM rfl ?_
  refine Ev_iload_n dX12_sing_15 rfl ?_
  refine Ev_ialoadN (j := j) dX12_sing_16 a0 (by omega) (by decide) ?_
  refine Ev_topi (y := 0) (by rw [b0 _ (by omega), hk]; rfl) ?_
  refine Ev_iconst (v := 2) dX12_sing_17 (by decide) ?_
  refine Ev_icmp_ne dX12_sing_18 (fun _ => ?_) (fun c => absurd c (by decide))
  refine Ev_iconst (v := 4) dX12_sing_25 (by decide) ?_
  refine Ev_callV (bc := 0) (b := 0) dX12_sing_26 cv_X12_290 rfl hM (Nat.le_of_ble_eq_true rfl) (by omega) ?_
  refine c_X12_traced hM ?_
  refine Ev_aload_n dX12_sing_29 rfl ?_
  refine Ev_get dX12_sing_30 fg_X12_7_12 (gs hM) rfl ?_
  refine Ev_iload_n dX12_sing_33 rfl ?_
  refine Ev_ialoadN (j := j) dX12_sing_34 (gn (by decide) a0) (by omega) (by decide) ?_
  refine Ev_topi (y := 0) (by rw [b0 _ (by omega), hk]; rfl) ?_
  refine Ev_iconst (v := 2) dX12_sing_35 (by decide) ?_
  refine Ev_icmp_ne dX12_sing_36 (fun _ => ?_) (fun c => absurd c (by decide))
  refine Ev_iload_n dX12_sing_44 rfl ?_
  refine Ev_iret dX12_sing_45 rfl rfl ?_
  exact k

set_option maxHeartbeats 4000000 in
set_option maxRecDepth 100000 in
theorem c_X12_sing1 {d : Nat} {S : aS} {Q : Option Value → aS → Prop} {flt du lw fr ra rp rs ea dp bm rd tr : Int32} {bi : Int64} {pl n cs : Nat} {G : Nat → Nat → Nat} (hg : GD pl n G) (hcs : cs < 512) (hM : S[31]? = some (mo flt (nI pl) (nI n) du lw fr (nI cs) ra rp rs ea dp bm bi rd tr)) (hG : MN S n G) {j : Nat} (hj : j < n) (hk : G 0 j = 1) (k : Q (some (.int (nI j))) (S.set 31 (mo flt (nI pl) (nI n) du lw fr (nI cs) ra rp rs ea dp bm bi rd (31 * tr + 4)))) : Mth mX12_sing (d + 2) 0 [.ref 31, .int (nI j)] S Q := by
  have hn9 := hg.2.1
  have hp7 := hg.1
  have hjG := hg.2.2 j hj
  obtain ⟨f0, a0, b0⟩ := hG 0 (by decide)
  refine Mth_of (by decide) rfl ?_
  refine Ev_aload_n dX12_sing_0 rfl ?_
  refine Ev_iload_n dX12_sing_1 rfl ?_
  refine Ev_callV (bc := 0) (b := 0) dX12_sing_2 cv_X12_167 rfl hM (Nat.le_of_ble_eq_true rfl) (by omega) ?_
  refine c_X12_noStretch hp7 hn9 hM (fun q => absurd q (not_not_intro (by rw [nIt (by omega)]; omega))) (fun _ => ?_)
  refine Ev_if_eq dX12_sing_5 (fun _ => ?_) (fun c => absurd (by decide) c)
  refine Ev_aload_n dX12_sing_10 rfl ?_
  refine Ev_aload_n dX12_sing_11 rfl ?_
  refine Ev_get dX12_sing_12 fg_X12_7_12 hM rfl ?_
  refine Ev_iload_n dX12_sing_15 rfl ?_
  refine Ev_ialoadN (j := j) dX12_sing_16 a0 (by omega) (by decide) ?_
  refine Ev_topi (y := 1) (by rw [b0 _ (by omega), hk]; rfl) ?_
  refine Ev_iconst (v := 2) dX12_sing_17 (by decide) ?_
  refine Ev_icmp_ne dX12_sing_18 (fun _ => ?_) (fun c => absurd c (by decide))
  refine Ev_iconst (v := 4) dX12_sing_25 (by decide) ?_
  refine Ev_callV (bc := 0) (b := 0) dX12_sing_26 cv_X12_290 rfl hM (Nat.le_of_ble_eq_true rfl) (by omega) ?_
  refine c_X12_traced hM ?_
  refine Ev_aload_n dX12_sing_29 rfl ?_
  refine Ev_get dX12_sing_30 fg_X12_7_12 (gs hM) rfl ?_
  refine Ev_iload_n dX12_sing_33 rfl ?_
  refine Ev_ialoadN (j := j) dX12_sing_34 (gn (by decide) a0) (by omega) (by decide) ?_
  refine Ev_topi (y := 1) (by rw [b0 _ (by omega), hk]; rfl) ?_
  refine Ev_iconst (v := 2) dX12_sing_35 (by decide) ?_
  refine Ev_icmp_ne dX12_sing_36 (fun _ => ?_) (fun c => absurd c (by decide))
  refine Ev_iload_n dX12_sing_44 rfl ?_
  refine Ev_iret dX12_sing_45 rfl rfl ?_
  exact k

set_option maxHeartbeats 4000000 in
set_option maxRecDepth 100000 in
theorem c_X12_sing2 {d : Nat} {S : aS} {Q : Option Value → aS → Prop} {flt du lw fr ra rp rs ea dp bm rd tr : Int32} {bi : Int64} {pl n cs : Nat} {G : Nat → Nat → Nat} (hg : GD pl n G) (hcs : cs < 512) (hM : S[31]? = some (mo flt (nI pl) (nI n) du lw fr (nI cs) ra rp rs ea dp bm bi rd tr)) (hG : MN S n G) {j : Nat} (hj : j < n) (hk : G 0 j = 2) (k : Q (some (.int (40))) (S.set 31 (mo flt (nI pl) (nI n) du lw fr (nI cs) ra rp rs ea dp bm bi rd (31 * tr + 5)))) : Mth mX12_sing (d + 2) 0 [.ref 31, .int (nI j)] S Q := by
  have hn9 := hg.2.1
  have hp7 := hg.1
  have hjG := hg.2.2 j hj
  obtain ⟨f0, a0, b0⟩ := hG 0 (by decide)
  refine Mth_of (by decide) rfl ?_
  refine Ev_aload_n dX12_sing_0 rfl ?_
  refine Ev_iload_n dX12_sing_1 rfl ?_
  refine Ev_callV (bc := 0) (b := 0) dX12_sing_2 cv_X12_167 rfl hM (Nat.le_of_ble_eq_true rfl) (by omega) ?_
  refine c_X12_noStretch hp7 hn9 hM (fun q => absurd q (not_not_intro (by rw [nIt (by omega)]; omega))) (fun _ => ?_)
  refine Ev_if_eq dX12_sing_5 (fun _ => ?_) (fun c => absurd (by decide) c)
  refine Ev_aload_n dX12_sing_10 rfl ?_
  refine Ev_aload_n dX12_sing_11 rfl ?_
  refine Ev_get dX12_sing_12 fg_X12_7_12 hM rfl ?_
  refine Ev_iload_n dX12_sing_15 rfl ?_
  refine Ev_ialoadN (j := j) dX12_sing_16 a0 (by omega) (by decide) ?_
  refine Ev_topi (y := 2) (by rw [b0 _ (by omega), hk]; rfl) ?_
  refine Ev_iconst (v := 2) dX12_sing_17 (by decide) ?_
  refine Ev_icmp_ne dX12_sing_18 (fun c => absurd (by decide) c) (fun _ => ?_)
  refine Ev_iconst (v := 5) dX12_sing_21 (by decide) ?_
  refine Ev_goto dX12_sing_22 ?_
  refine Ev_callV (bc := 0) (b := 0) dX12_sing_26 cv_X12_290 rfl hM (Nat.le_of_ble_eq_true rfl) (by omega) ?_
  refine c_X12_traced hM ?_
  refine Ev_aload_n dX12_sing_29 rfl ?_
  refine Ev_get dX12_sing_30 fg_X12_7_12 (gs hM) rfl ?_
  refine Ev_iload_n dX12_sing_33 rfl ?_
  refine Ev_ialoadN (j := j) dX12_sing_34 (gn (by decide) a0) (by omega) (by decide) ?_
  refine Ev_topi (y := 2) (by rw [b0 _ (by omega), hk]; rfl) ?_
  refine Ev_iconst (v := 2) dX12_sing_35 (by decide) ?_
  refine Ev_icmp_ne dX12_sing_36 (fun c => absurd (by decide) c) (fun _ => ?_)
  refine Ev_bipush (v := 40) dX12_sing_39 (by decide) ?_
  refine Ev_goto dX12_sing_41 ?_
  refine Ev_iret dX12_sing_45 rfl rfl ?_
  exact k

set_option maxHeartbeats 4000000 in
set_option maxRecDepth 100000 in
theorem c_X12_as_bad {d : Nat} {S : aS} {Q : Option Value → aS → Prop} {flt du lw fr ra rp rs ea dp bm rd tr : Int32} {bi : Int64} {pl n cs : Nat} {G : Nat → Nat → Nat} (hg : GD pl n G) (hcs : cs < 512) (hM : S[31]? = some (mo flt (nI pl) (nI n) du lw fr (nI cs) ra rp rs ea dp bm bi rd tr)) (hG : MN S n G) {x : Int32} (hx : ¬ (0 ≤ x.toInt ∧ x.toInt < n)) {w : Int32} (k : Q (some (.int (-1))) (S.set 31 (mo 0 (nI pl) (nI n) du lw fr (nI cs) ra rp rs ea dp bm bi rd tr))) : Mth mX12_as (d + 2) 0 [.ref 31, .int x, .int w] S Q := by
  have hn9 := hg.2.1
  have hp7 := hg.1
  refine Mth_of (by decide) rfl ?_
  refine Ev_aload_n dX12_as_0 rfl ?_
  refine Ev_iload_n dX12_as_1 rfl ?_
  refine Ev_callV (bc := 0) (b := 0) dX12_as_2 cv_X12_167 rfl hM (Nat.le_of_ble_eq_true rfl) (by omega) ?_
  refine c_X12_noStretch hp7 hn9 hM (fun _ => ?_) (fun q => absurd q hx)
  refine Ev_if_eq dX12_as_5 (fun c => absurd c (by decide)) (fun _ => ?_)
  refine Ev_aload_n dX12_as_8 rfl ?_
  refine Ev_iconst (v := (-1)) dX12_as_9 (by decide) ?_
  refine Ev_callV (bc := 0) (b := 0) dX12_as_10 cv_X12_137 rfl hM (Nat.le_of_ble_eq_true rfl) (by omega) ?_
  refine c_X12_refused hM ?_
  refine Ev_iret dX12_as_13 rfl rfl ?_
  exact k

set_option maxHeartbeats 4000000 in
set_option maxRecDepth 100000 in
theorem c_X12_as {d : Nat} {S : aS} {Q : Option Value → aS → Prop} {flt du lw fr ra rp rs ea dp bm rd tr : Int32} {bi : Int64} {pl n cs : Nat} {G : Nat → Nat → Nat} (hg : GD pl n G) (hcs : cs < 512) (hM : S[31]? = some (mo flt (nI pl) (nI n) du lw fr (nI cs) ra rp rs ea dp bm bi rd tr)) (hG : MN S n G) {j : Nat} (hj : j < n) {w : Int32} (kb : ¬ (0 ≤ w.toInt ∧ w.toInt ≤ 2) → Q (some (.int (-2))) (S.set 31 (mo 0 (nI pl) (nI n) du lw fr (nI cs) ra rp rs ea dp bm bi rd tr))) (k1 : 0 ≤ w.toInt ∧ w.toInt ≤ 2 → w.toInt ≤ G 0 j → Q (some (.int 1)) (S.set 31 (mo 0 (nI pl) (nI n) du lw fr (nI cs) ra rp rs ea dp bm bi rd tr))) (k0 : 0 ≤ w.toInt ∧ w.toInt ≤ 2 → ¬ w.toInt ≤ G 0 j → Q (some (.int (-12))) (S.set 31 (mo 2 (nI pl) (nI n) du lw fr (nI cs) ra rp rs ea dp bm bi rd tr))) : Mth mX12_as (d + 2) 0 [.ref 31, .int (nI j), .int w] S Q := by
  have hn9 := hg.2.1
  have hp7 := hg.1
  have hjG := hg.2.2 j hj
  obtain ⟨f0, a0, b0⟩ := hG 0 (by decide)
  refine Mth_of (by decide) rfl ?_
  refine Ev_aload_n dX12_as_0 rfl ?_
  refine Ev_iload_n dX12_as_1 rfl ?_
  refine Ev_callV (bc := 0) (b := 0) dX12_as_2 cv_X12_167 rfl hM (Nat.le_of_ble_eq_true rfl) (by omega) ?_
  refine c_X12_noStretch hp7 hn9 hM (fun q => absurd q (not_not_intro (by rw [nIt (by omega)]; omega))) (fun _ => ?_)
  refine Ev_if_eq dX12_as_5 (fun _ => ?_) (fun c => absurd (by decide) c)
  refine Ev_iload_n dX12_as_14 rfl ?_
  refine Ev_i2l dX12_as_15 ?_
  refine Ev_lconst (v := 0) dX12_as_16 (by decide) ?_
  refine Ev_ldc2 dX12_as_17 wl_X12_140 ?_
  refine Ev_callS (bc := 0) (b := 0) dX12_as_20 cs_X12_97 rfl (Nat.le_of_ble_eq_true rfl) (by omega) ?_
  refine c_X12_in (x := _) (y := 0) (z := 2) (x64 _) rfl rfl (fun q1 => ?_) (fun q1 => ?_)
  · skip
    refine Ev_if_ne dX12_as_23 (fun _ => ?_) (fun c => absurd c (by decide))
    refine Ev_aload_n dX12_as_33 rfl ?_
    refine Ev_get dX12_as_34 fg_X12_7_12 hM rfl ?_
    refine Ev_iload_n dX12_as_37 rfl ?_
    refine Ev_ialoadN (j := j) dX12_as_38 a0 (by omega) (by decide) ?_
    refine Ev_topi (y := nI (G 0 j)) (b0 _ (by omega)) ?_
    refine Ev_iload_n dX12_as_39 rfl ?_
    refine Ev_icmp_lt dX12_as_40 (fun c2 => ?_) (fun c2 => ?_)
    · skip
      have e9 : (nI (G 0 j)).toInt = (G 0 j : Int) := nIt (by omega)
      (try simp only [xlt, xle, e9] at c2)
      refine Ev_aload_n dX12_as_51 rfl ?_
      refine Ev_iconst (v := 2) dX12_as_52 (by decide) ?_
      refine Ev_callV (bc := 0) (b := 0) dX12_as_53 cv_X12_125 rfl hM (Nat.le_of_ble_eq_true rfl) (by omega) ?_
      refine c_X12_failed hM ?_
      refine Ev_topi (y := (-12)) (by decide) ?_
      refine Ev_iret dX12_as_56 rfl rfl ?_
      first | exact kb (by omega) | exact k1 (by omega) (by omega) | exact k0 (by omega) (by omega)
    · skip
      have e9 : (nI (G 0 j)).toInt = (G 0 j : Int) := nIt (by omega)
      (try simp only [xlt, xle, e9] at c2)
      refine Ev_aload_n dX12_as_43 rfl ?_
      refine Ev_iconst (v := 1) dX12_as_44 (by decide) ?_
      refine Ev_callV (bc := 0) (b := 0) dX12_as_45 cv_X12_137 rfl hM (Nat.le_of_ble_eq_true rfl) (by omega) ?_
      refine c_X12_refused hM ?_
      refine Ev_goto dX12_as_48 ?_
      refine Ev_iret dX12_as_56 rfl rfl ?_
      first | exact kb (by omega) | exact k1 (by omega) (by omega) | exact k0 (by omega) (by omega)
  · skip
    refine Ev_if_ne dX12_as_23 (fun c => absurd (by decide) c) (fun _ => ?_)
    refine Ev_aload_n dX12_as_26 rfl ?_
    refine Ev_bipush (v := (-2)) dX12_as_27 (by decide) ?_
    refine Ev_callV (bc := 0) (b := 0) dX12_as_29 cv_X12_137 rfl hM (Nat.le_of_ble_eq_true rfl) (by omega) ?_
    refine c_X12_refused hM ?_
    refine Ev_iret dX12_as_32 rfl rfl ?_
    first | exact kb (by omega) | exact k1 (by omega) (by omega) | exact k0 (by omega) (by omega)

