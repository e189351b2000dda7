/-! ===== the reference: what it asks of a row, what it keeps ===== -/
set_option maxHeartbeats 4000000 in
set_option maxRecDepth 100000 in
theorem l_X12_keep {d : Nat} {S : aS} {Q : Option Value → aS → Prop} {flt du lw fr ra rp rs ea dp  tr : Int32} {pl n cs q : Nat} {m : Nat} {w : Int64} (h31 : S[31]? = some (mo flt (nI pl) (nI n) du lw fr (nI cs) ra rp rs ea dp (nI m) w (nI q) tr)) {R B : Nat → Int32} (h44 : S[44]? = some (iA 12 R)) (h47 : S[47]? = some (iA 5 B)) (hm : m ≤ 5) (k : Q none (S.set 47 (iA 5 (mixI R B m))))  : ∀ (t i : Nat) , i + t = m → Ev none mX12_keepRow d 0 13 [some (.ref 31), some (.int (nI m)), some (.long w), none, some (.int (nI i))] [] (S.set 47 (iA 5 (mixI R B i))) Q := by
  intro t
  induction t with
  | zero =>
    intro i  hi
    obtain rfl : i = m := by omega
    refine Ev_iload dX12_keepRow_13 rfl ?_
    refine Ev_iload_n dX12_keepRow_15 rfl ?_
    refine Ev_icmp_ge dX12_keepRow_16 (fun _ => ?_) (fun c => absurd ((nle (by omega) (by omega)).mpr (Nat.le_refl _)) c)
    refine Ev_vret dX12_keepRow_39 rfl ?_
    exact k
  | succ t ih =>
    intro i  hi
    refine Ev_iload dX12_keepRow_13 rfl ?_
    refine Ev_iload_n dX12_keepRow_15 rfl ?_
    refine Ev_icmp_ge dX12_keepRow_16 (fun c => absurd c (fun z => absurd ((nle (by omega) (by omega)).mp z) (by omega))) (fun _ => ?_)
    refine Ev_aload_n dX12_keepRow_19 rfl ?_
    refine Ev_get dX12_keepRow_20 fg_X12_55_12 (gn (by decide) h31) rfl ?_
    refine Ev_iload dX12_keepRow_23 rfl ?_
    refine Ev_aload_n dX12_keepRow_25 rfl ?_
    refine Ev_get dX12_keepRow_26 fg_X12_46_12 (gn (by decide) h31) rfl ?_
    refine Ev_iload dX12_keepRow_29 rfl ?_
    refine Ev_ialoadN (j := i) dX12_keepRow_31 (gn (by decide) h44) (by omega) (by decide) ?_
    refine Ev_iastoreN (j := i) dX12_keepRow_32 (gs h47) (by omega) (by decide) ?_
    refine Ev_iinc (v := nI (i + 1)) dX12_keepRow_33 rfl (nI_1 _) rfl ?_
    refine Ev_goto dX12_keepRow_36 ?_
    exact Ev_st gss (mixI_s R B i ▸ ih (i + 1) (by omega))

set_option maxHeartbeats 4000000 in
set_option maxRecDepth 100000 in
theorem c_X12_keepRow {d : Nat} {S : aS} {Q : Option Value → aS → Prop} {flt du lw fr ra rp rs ea dp bm tr : Int32} {bi : Int64} {pl n cs q : Nat} (h31 : S[31]? = some (mo flt (nI pl) (nI n) du lw fr (nI cs) ra rp rs ea dp bm bi (nI q) tr)) {m : Nat} {w : Int64} {R B : Nat → Int32} (h44 : S[44]? = some (iA 12 R)) (h47 : S[47]? = some (iA 5 B)) (hm : m ≤ 5) (k : Q none ((S.set 31 (mo flt (nI pl) (nI n) du lw fr (nI cs) ra rp rs ea dp (nI m) w (nI q) tr)).set 47 (iA 5 (mixI R B m))))  : Mth mX12_keepRow d 0 [.ref 31, .int (nI m), .long w] S Q := by
  refine Mth_of (by decide) rfl ?_
  refine Ev_aload_n dX12_keepRow_0 rfl ?_
  refine Ev_iload_n dX12_keepRow_1 rfl ?_
  refine Ev_put dX12_keepRow_2 fr_X12_232_12 h31 rfl rfl rfl ?_
  refine Ev_aload_n dX12_keepRow_5 rfl ?_
  refine Ev_lload_n dX12_keepRow_6 rfl ?_
  refine Ev_put dX12_keepRow_7 fr_X12_235_12 (gs h31) rfl rfl rfl ?_
  refine Ev_st gss ?_
  refine Ev_iconst (v := 0) dX12_keepRow_10 (by decide) ?_
  refine Ev_istore dX12_keepRow_11 rfl ?_
  have h0 := l_X12_keep (d := d) (Q := Q) (gs h31) (gn (by decide) h44) (gn (by decide) h47) hm k m 0 (by omega)
  rw [mixI_0, gid (gn (by decide) h47)] at h0
  exact h0

set_option maxHeartbeats 4000000 in
set_option maxRecDepth 100000 in
theorem c_X12_beginRows {d : Nat} {S : aS} {Q : Option Value → aS → Prop} {flt du lw fr ra rp rs ea dp bm tr : Int32} {bi : Int64} {pl n cs q : Nat} (h31 : S[31]? = some (mo flt (nI pl) (nI n) du lw fr (nI cs) ra rp rs ea dp bm bi (nI q) tr)) {R E : Nat → Int32} (h44 : S[44]? = some (iA 12 R)) (h46 : S[46]? = some (iA 6 E)) (k : Q none (((S.set 31 (mo flt (nI pl) (nI n) du lw fr (nI cs) ra rp rs ea 0 bm bi (nI q) tr)).set 44 (iA 12 (upd R 0 (-1)))).set 46 (iA 6 (upd E 0 0))))  : Mth mX12_beginRows d 0 [.ref 31] S Q := by
  refine Mth_of (by decide) rfl ?_
  refine Ev_aload_n dX12_beginRows_0 rfl ?_
  refine Ev_iconst (v := 0) dX12_beginRows_1 (by decide) ?_
  refine Ev_put dX12_beginRows_2 fr_X12_229_12 h31 rfl rfl rfl ?_
  refine Ev_aload_n dX12_beginRows_5 rfl ?_
  refine Ev_get dX12_beginRows_6 fg_X12_46_12 (gs h31) rfl ?_
  refine Ev_iconst (v := 0) dX12_beginRows_9 (by decide) ?_
  refine Ev_iconst (v := (-1)) dX12_beginRows_10 (by decide) ?_
  refine Ev_iastoreN (j := 0) dX12_beginRows_11 (gn (by decide) h44) (by omega) (by decide) ?_
  refine Ev_aload_n dX12_beginRows_12 rfl ?_
  refine Ev_get dX12_beginRows_13 fg_X12_52_12 (gn (by decide) (gs h31)) rfl ?_
  refine Ev_iconst (v := 0) dX12_beginRows_16 (by decide) ?_
  refine Ev_iconst (v := 0) dX12_beginRows_17 (by decide) ?_
  refine Ev_iastoreN (j := 0) dX12_beginRows_18 (gn (by decide) (gn (by decide) h46)) (by omega) (by decide) ?_
  refine Ev_vret dX12_beginRows_19 rfl ?_
  exact k

set_option maxHeartbeats 4000000 in
set_option maxRecDepth 100000 in
theorem l_X12_parts {d : Nat} {S : aS} {Q : Option Value → aS → Prop} {flt du lw fr ra rp rs ea dp bm rd tr : Int32} {bi : Int64} {pl n cs : Nat} {G : Nat → Nat → Nat} (hg : GD pl n G) (hcs : cs < 512) (hM : S[31]? = some (mo flt (nI pl) (nI n) du lw fr (nI cs) ra rp rs ea dp bm bi rd tr)) (hG : MN S n G) {m : Nat} {rw_ : Nat → Int32} {r : Nat → Nat} (hm : m ≤ 12) (hr : S[44]? = some (iA 12 rw_)) (hrw : ∀ x, x < m → rw_ x = nI (r x) ∧ r x < n) (hm5 : m ≤ 5) (k : Q (some (.long (lN (prodN (fun x => tn G fr.toInt (r x)) m * 10 ^ (5 - m))))) S) : ∀ (t i : Nat) (hmi : m ≤ i), i + t = 5 → Ev none mX12_partsOf (d + 3) 0 9 [some (.ref 31), some (.int (nI m)), some (.long (lN (prodN (fun x => tn G fr.toInt (r x)) m * 10 ^ (i - m)))), none, some (.int (nI i))] [] S Q := by
  intro t
  induction t with
  | zero =>
    intro i hmi hi
    obtain rfl : i = 5 := by omega
    refine Ev_iload dX12_partsOf_9 rfl ?_
    refine Ev_iconst (v := 5) dX12_partsOf_11 (by decide) ?_
    refine Ev_icmp_ge dX12_partsOf_12 (fun _ => ?_) (fun c => absurd ((nle (a := 5) (by omega) (by omega)).mpr (by omega)) c)
    refine Ev_lload_n dX12_partsOf_27 rfl ?_
    refine Ev_lret dX12_partsOf_28 rfl ?_
    exact k
  | succ t ih =>
    intro i hmi hi
    refine Ev_iload dX12_partsOf_9 rfl ?_
    refine Ev_iconst (v := 5) dX12_partsOf_11 (by decide) ?_
    refine Ev_icmp_ge dX12_partsOf_12 (fun c => absurd c (fun z => absurd ((nle (a := 5) (by omega) (by omega)).mp z) (by omega))) (fun _ => ?_)
    refine Ev_lload_n dX12_partsOf_15 rfl ?_
    refine Ev_ldc2 dX12_partsOf_16 wl_X12_214 ?_
    refine Ev_lmul dX12_partsOf_19 ?_
    refine Ev_topl (y := lN (prodN (fun x => tn G fr.toInt (r x)) m * 10 ^ (i + 1 - m))) (by rw [show (10 : Int64) = lN 10 from rfl, lmulN, Nat.mul_assoc, ← Nat.pow_succ, show (i - m).succ = i + 1 - m by omega]) ?_
    refine Ev_lstore_n dX12_partsOf_20 rfl ?_
    refine Ev_iinc (v := nI (i + 1)) dX12_partsOf_21 rfl (nI_1 _) rfl ?_
    refine Ev_goto dX12_partsOf_24 ?_
    exact ih (i + 1) (by omega) (by omega)

set_option maxHeartbeats 4000000 in
set_option maxRecDepth 100000 in
theorem c_X12_partsOf {d : Nat} {S : aS} {Q : Option Value → aS → Prop} {flt du lw fr ra rp rs ea dp bm rd tr : Int32} {bi : Int64} {pl n cs : Nat} {G : Nat → Nat → Nat} (hg : GD pl n G) (hcs : cs < 512) (hM : S[31]? = some (mo flt (nI pl) (nI n) du lw fr (nI cs) ra rp rs ea dp bm bi rd tr)) (hG : MN S n G) {m : Nat} {rw_ : Nat → Int32} {r : Nat → Nat} (hm : m ≤ 12) (hr : S[44]? = some (iA 12 rw_)) (hrw : ∀ x, x < m → rw_ x = nI (r x) ∧ r x < n) (hm5 : m ≤ 5) (k : Q (some (.long (lN (prodN (fun x => tn G fr.toInt (r x)) m * 10 ^ (5 - m))))) S) : Mth mX12_partsOf (d + 3) 0 [.ref 31, .int (nI m)] S Q := by
  refine Mth_of (by decide) rfl ?_
  refine Ev_aload_n dX12_partsOf_0 rfl ?_
  refine Ev_iload_n dX12_partsOf_1 rfl ?_
  refine Ev_callV (bc := 0) (b := 0) dX12_partsOf_2 cv_X12_216 rfl hM (Nat.le_of_ble_eq_true rfl) (by omega) ?_
  refine c_X12_safeBy hg hcs hM hG hm hr hrw ?_
  refine Ev_lstore_n dX12_partsOf_5 rfl ?_
  refine Ev_iload_n dX12_partsOf_6 rfl ?_
  refine Ev_istore dX12_partsOf_7 rfl ?_
  have h0 := l_X12_parts (d := d) hg hcs hM hG hm hr hrw hm5 k (5 - m) m (Nat.le_refl _) (by omega)
  rw [Nat.sub_self, Nat.pow_zero, Nat.mul_one] at h0
  exact h0

theorem bz_n1 (b : Bool) : narrow .boolean (.int (bz b)) = .int (bz b) := bz_nr b
set_option maxHeartbeats 4000000 in
set_option maxRecDepth 100000 in
theorem l_X12_areSo {d : Nat} {S : aS} {Q : Option Value → aS → Prop} {flt du lw fr ra rp rs ea dp bm tr : Int32} {bi : Int64} {q pl n cs : Nat} {G : Nat → Nat → Nat} (hg : GD pl n G) (hcs : cs < 512) (hM : S[31]? = some (mo flt (nI pl) (nI n) du lw fr (nI cs) ra rp rs ea dp bm bi (nI q) tr)) (hG : MN S n G) {m : Nat} {rw_ : Nat → Int32} {r : Nat → Nat} (hm : m ≤ 12) (hr : S[44]? = some (iA 12 rw_)) (hrw : ∀ x, x < m → rw_ x = nI (r x) ∧ r x < n) {ro : Nat → Nat} {rb : Nat → Bool} {fo fw : Nat → Int32} (h48 : S[48]? = some (iA 8 fo)) (h49 : S[49]? = some (zA 8 fw)) (hrd : ∀ x, x < q → fo x = nI (ro x) ∧ fw x = bz (rb x)) (hro : ∀ x, x < q → ro x < n) (hq : q ≤ 8) (k : Q (some (.int (bz (trB G ro rb (goN r m) q)))) S) : ∀ (t i : Nat), i + t = q → Ev none mX12_areSo (d + 1) 0 11 [some (.ref 31), some (.int (nI m)), some (.int (nI (goN r m))), some (.int (bz (trB G ro rb (goN r m) i))), some (.int (nI i)), none] [] S Q := by
  have hn9 := hg.2.1
  obtain ⟨f0, a0, b0⟩ := hG 0 (by decide)
  have hgo : goN r m < 2 ^ n := goN_lt m (fun x hx => (hrw x hx).2)
  have h512 := p9 hn9
  intro t
  induction t with
  | zero =>
    intro i hi
    have hi : q = i := by omega
    refine Ev_iload dX12_areSo_11 rfl ?_
    refine Ev_aload_n dX12_areSo_13 rfl ?_
    refine Ev_get dX12_areSo_14 fg_X12_161_12 hM rfl ?_
    refine Ev_icmp_ge dX12_areSo_17 (fun _ => ?_) (fun c => absurd ((nle (by omega) (by omega)).mpr (by omega)) c)
    refine Ev_iload_n dX12_areSo_84 rfl ?_
    refine Ev_iret dX12_areSo_85 rfl (bz_n1 _) ?_
    exact hi ▸ k
  | succ t ih =>
    intro i hi
    have hri := hro i (by omega)
    have hriG := hg.2.2 (ro i) hri
    refine Ev_iload dX12_areSo_11 rfl ?_
    refine Ev_aload_n dX12_areSo_13 rfl ?_
    refine Ev_get dX12_areSo_14 fg_X12_161_12 hM rfl ?_
    refine Ev_icmp_ge dX12_areSo_17 (fun c => absurd c (fun z => absurd ((nle (by omega) (by omega)).mp z) (by omega))) (fun _ => ?_)
    refine Ev_iload_n dX12_areSo_20 rfl ?_
    refine Ev_aload_n dX12_areSo_21 rfl ?_
    refine Ev_get dX12_areSo_22 fg_X12_58_12 hM rfl ?_
    refine Ev_iload dX12_areSo_25 rfl ?_
    refine Ev_ialoadN (j := i) dX12_areSo_27 h48 (by omega) (by decide) ?_
    refine Ev_topi (y := nI (ro i)) (hrd _ (by omega)).1 ?_
    refine Ev_callS (bc := 0) (b := 0) dX12_areSo_28 cs_X12_173 rfl (Nat.le_of_ble_eq_true rfl) (by omega) ?_
    refine c_X12_isIn (by omega) (by omega) (fun q1 => ?_) (fun q1 => ?_)
    · skip
      refine Ev_if_eq dX12_areSo_31 (fun c => absurd c (by decide)) (fun _ => ?_)
      refine Ev_aload_n dX12_areSo_34 rfl ?_
      refine Ev_get dX12_areSo_35 fg_X12_7_12 hM rfl ?_
      refine Ev_aload_n dX12_areSo_38 rfl ?_
      refine Ev_get dX12_areSo_39 fg_X12_58_12 hM rfl ?_
      refine Ev_iload dX12_areSo_42 rfl ?_
      refine Ev_ialoadN (j := i) dX12_areSo_44 h48 (by omega) (by decide) ?_
      refine Ev_topi (y := nI (ro i)) (hrd _ (by omega)).1 ?_
      refine Ev_ialoadN (j := ro i) dX12_areSo_45 a0 (by omega) (by decide) ?_
      refine Ev_topi (y := nI (G 0 (ro i))) (b0 _ (by omega)) ?_
      refine Ev_if_le dX12_areSo_46 (fun c2 => ?_) (fun c2 => ?_)
      · skip
        have c2 : (G 0 (ro i)) ≤ 0 := (nle (a := G 0 (ro i)) (b := 0) (by omega) (by omega)).mp c2
        refine Ev_iconst (v := 0) dX12_areSo_53 (by decide) ?_
        refine Ev_istore dX12_areSo_54 rfl ?_
        refine Ev_iload_n dX12_areSo_56 rfl ?_
        refine Ev_if_eq dX12_areSo_57 (fun c3 => ?_) (fun c3 => ?_)
        · skip
          have a9 : trB G ro rb (goN r m) i = false := by cases hb : trB G ro rb (goN r m) i with | false => rfl | true => rw [hb] at c3; exact absurd c3 (by decide)
          refine Ev_iconst (v := 0) dX12_areSo_76 (by decide) ?_
          refine Ev_istore_n dX12_areSo_77 rfl ?_
          refine Ev_iinc (v := nI (i + 1)) dX12_areSo_78 rfl (nI_1 _) rfl ?_
          refine Ev_goto dX12_areSo_81 ?_
          refine Ev_loc (la2 := [some (.ref 31), some (.int (nI m)), some (.int (nI (goN r m))), some (.int 0), some (.int (nI (i + 1))), none]) ⟨rfl, ⟨rfl, ⟨rfl, ⟨rfl, ⟨rfl, trivial⟩⟩⟩⟩⟩ ?_
          have k9 : decide (0 < G 0 (ro i)) = false := decide_eq_false (by omega)
          have e : trB G ro rb (goN r m) (i + 1) = false := by show (trB G ro rb (goN r m) i && (((goN r m).testBit (ro i) && decide (0 < G 0 (ro i))) == rb i)) = false; rw [a9]; rfl
          have hh := ih (i + 1) (by omega)
          rw [e] at hh
          exact hh
        · skip
          have a9 : trB G ro rb (goN r m) i = true := by cases hb : trB G ro rb (goN r m) i with | true => rfl | false => rw [hb] at c3; exact absurd rfl c3
          refine Ev_iload dX12_areSo_60 rfl ?_
          refine Ev_aload_n dX12_areSo_62 rfl ?_
          refine Ev_get dX12_areSo_63 fg_X12_61_12 hM rfl ?_
          refine Ev_iload dX12_areSo_66 rfl ?_
          refine Ev_zaloadN (j := i) dX12_areSo_68 h49 (by omega) (by decide) ?_
          refine Ev_topi (y := bz (rb i)) (hrd _ (by omega)).2 ?_
          refine Ev_icmp_ne dX12_areSo_69 (fun c4 => ?_) (fun c4 => ?_)
          · skip
            have d9 : rb i = true := by cases hb : rb i with | true => rfl | false => rw [hb] at c4; exact absurd rfl c4
            refine Ev_iconst (v := 0) dX12_areSo_76 (by decide) ?_
            refine Ev_istore_n dX12_areSo_77 rfl ?_
            refine Ev_iinc (v := nI (i + 1)) dX12_areSo_78 rfl (nI_1 _) rfl ?_
            refine Ev_goto dX12_areSo_81 ?_
            refine Ev_loc (la2 := [some (.ref 31), some (.int (nI m)), some (.int (nI (goN r m))), some (.int 0), some (.int (nI (i + 1))), none]) ⟨rfl, ⟨rfl, ⟨rfl, ⟨rfl, ⟨rfl, trivial⟩⟩⟩⟩⟩ ?_
            have k9 : decide (0 < G 0 (ro i)) = false := decide_eq_false (by omega)
            have e : trB G ro rb (goN r m) (i + 1) = false := by show (trB G ro rb (goN r m) i && (((goN r m).testBit (ro i) && decide (0 < G 0 (ro i))) == rb i)) = false; rw [q1, k9, a9, d9]; rfl
            have hh := ih (i + 1) (by omega)
            rw [e] at hh
            exact hh
          · skip
            have d9 : rb i = false := by cases hb : rb i with | false => rfl | true => rw [hb] at c4; exact absurd c4 (by decide)
            refine Ev_iconst (v := 1) dX12_areSo_72 (by decide) ?_
            refine Ev_goto dX12_areSo_73 ?_
            refine Ev_istore_n dX12_areSo_77 rfl ?_
            refine Ev_iinc (v := nI (i + 1)) dX12_areSo_78 rfl (nI_1 _) rfl ?_
            refine Ev_goto dX12_areSo_81 ?_
            refine Ev_loc (la2 := [some (.ref 31), some (.int (nI m)), some (.int (nI (goN r m))), some (.int 1), some (.int (nI (i + 1))), none]) ⟨rfl, ⟨rfl, ⟨rfl, ⟨rfl, ⟨rfl, trivial⟩⟩⟩⟩⟩ ?_
            have k9 : decide (0 < G 0 (ro i)) = false := decide_eq_false (by omega)
            have e : trB G ro rb (goN r m) (i + 1) = true := by show (trB G ro rb (goN r m) i && (((goN r m).testBit (ro i) && decide (0 < G 0 (ro i))) == rb i)) = true; rw [q1, k9, a9, d9]; rfl
            have hh := ih (i + 1) (by omega)
            rw [e] at hh
            exact hh
      · skip
        have c2 : ¬ ((G 0 (ro i)) ≤ 0) := fun z => c2 ((nle (a := G 0 (ro i)) (b := 0) (by omega) (by omega)).mpr z)
        refine Ev_iconst (v := 1) dX12_areSo_49 (by decide) ?_
        refine Ev_goto dX12_areSo_50 ?_
        refine Ev_istore dX12_areSo_54 rfl ?_
        refine Ev_iload_n dX12_areSo_56 rfl ?_
        refine Ev_if_eq dX12_areSo_57 (fun c5 => ?_) (fun c5 => ?_)
        · skip
          have a9 : trB G ro rb (goN r m) i = false := by cases hb : trB G ro rb (goN r m) i with | false => rfl | true => rw [hb] at c5; exact absurd c5 (by decide)
          refine Ev_iconst (v := 0) dX12_areSo_76 (by decide) ?_
          refine Ev_istore_n dX12_areSo_77 rfl ?_
          refine Ev_iinc (v := nI (i + 1)) dX12_areSo_78 rfl (nI_1 _) rfl ?_
          refine Ev_goto dX12_areSo_81 ?_
          refine Ev_loc (la2 := [some (.ref 31), some (.int (nI m)), some (.int (nI (goN r m))), some (.int 0), some (.int (nI (i + 1))), none]) ⟨rfl, ⟨rfl, ⟨rfl, ⟨rfl, ⟨rfl, trivial⟩⟩⟩⟩⟩ ?_
          have k9 : decide (0 < G 0 (ro i)) = true := decide_eq_true (by omega)
          have e : trB G ro rb (goN r m) (i + 1) = false := by show (trB G ro rb (goN r m) i && (((goN r m).testBit (ro i) && decide (0 < G 0 (ro i))) == rb i)) = false; rw [a9]; rfl
          have hh := ih (i + 1) (by omega)
          rw [e] at hh
          exact hh
        · skip
          have a9 : trB G ro rb (goN r m) i = true := by cases hb : trB G ro rb (goN r m) i with | true => rfl | false => rw [hb] at c5; exact absurd rfl c5
          refine Ev_iload dX12_areSo_60 rfl ?_
          refine Ev_aload_n dX12_areSo_62 rfl ?_
          refine Ev_get dX12_areSo_63 fg_X12_61_12 hM rfl ?_
          refine Ev_iload dX12_areSo_66 rfl ?_
          refine Ev_zaloadN (j := i) dX12_areSo_68 h49 (by omega) (by decide) ?_
          refine Ev_topi (y := bz (rb i)) (hrd _ (by omega)).2 ?_
          refine Ev_icmp_ne dX12_areSo_69 (fun c6 => ?_) (fun c6 => ?_)
          · skip
            have d9 : rb i = false := by cases hb : rb i with | false => rfl | true => rw [hb] at c6; exact absurd rfl c6
            refine Ev_iconst (v := 0) dX12_areSo_76 (by decide) ?_
            refine Ev_istore_n dX12_areSo_77 rfl ?_
            refine Ev_iinc (v := nI (i + 1)) dX12_areSo_78 rfl (nI_1 _) rfl ?_
            refine Ev_goto dX12_areSo_81 ?_
            refine Ev_loc (la2 := [some (.ref 31), some (.int (nI m)), some (.int (nI (goN r m))), some (.int 0), some (.int (nI (i + 1))), none]) ⟨rfl, ⟨rfl, ⟨rfl, ⟨rfl, ⟨rfl, trivial⟩⟩⟩⟩⟩ ?_
            have k9 : decide (0 < G 0 (ro i)) = true := decide_eq_true (by omega)
            have e : trB G ro rb (goN r m) (i + 1) = false := by show (trB G ro rb (goN r m) i && (((goN r m).testBit (ro i) && decide (0 < G 0 (ro i))) == rb i)) = false; rw [q1, k9, a9, d9]; rfl
            have hh := ih (i + 1) (by omega)
            rw [e] at hh
            exact hh
          · skip
            have d9 : rb i = true := by cases hb : rb i with | true => rfl | false => rw [hb] at c6; exact absurd c6 (by decide)
            refine Ev_iconst (v := 1) dX12_areSo_72 (by decide) ?_
            refine Ev_goto dX12_areSo_73 ?_
            refine Ev_istore_n dX12_areSo_77 rfl ?_
            refine Ev_iinc (v := nI (i + 1)) dX12_areSo_78 rfl (nI_1 _) rfl ?_
            refine Ev_goto dX12_areSo_81 ?_
            refine Ev_loc (la2 := [some (.ref 31), some (.int (nI m)), some (.int (nI (goN r m))), some (.int 1), some (.int (nI (i + 1))), none]) ⟨rfl, ⟨rfl, ⟨rfl, ⟨rfl, ⟨rfl, trivial⟩⟩⟩⟩⟩ ?_
            have k9 : decide (0 < G 0 (ro i)) = true := decide_eq_true (by omega)
            have e : trB G ro rb (goN r m) (i + 1) = true := by show (trB G ro rb (goN r m) i && (((goN r m).testBit (ro i) && decide (0 < G 0 (ro i))) == rb i)) = true; rw [q1, k9, a9, d9]; rfl
            have hh := ih (i + 1) (by omega)
            rw [e] at hh
            exact hh
    · skip
      refine Ev_if_eq dX12_areSo_31 (fun _ => ?_) (fun c => absurd (by decide) c)
      refine Ev_iconst (v := 0) dX12_areSo_53 (by decide) ?_
      refine Ev_istore dX12_areSo_54 rfl ?_
      refine Ev_iload_n dX12_areSo_56 rfl ?_
      refine Ev_if_eq dX12_areSo_57 (fun c7 => ?_) (fun c7 => ?_)
      · skip
        have a9 : trB G ro rb (goN r m) i = false := by cases hb : trB G ro rb (goN r m) i with | false => rfl | true => rw [hb] at c7; exact absurd c7 (by decide)
        refine Ev_iconst (v := 0) dX12_areSo_76 (by decide) ?_
        refine Ev_istore_n dX12_areSo_77 rfl ?_
        refine Ev_iinc (v := nI (i + 1)) dX12_areSo_78 rfl (nI_1 _) rfl ?_
        refine Ev_goto dX12_areSo_81 ?_
        refine Ev_loc (la2 := [some (.ref 31), some (.int (nI m)), some (.int (nI (goN r m))), some (.int 0), some (.int (nI (i + 1))), none]) ⟨rfl, ⟨rfl, ⟨rfl, ⟨rfl, ⟨rfl, trivial⟩⟩⟩⟩⟩ ?_
        have b9 : (goN r m).testBit (ro i) = false := by cases hb : (goN r m).testBit (ro i) with | false => rfl | true => exact absurd hb q1
        have e : trB G ro rb (goN r m) (i + 1) = false := by show (trB G ro rb (goN r m) i && (((goN r m).testBit (ro i) && decide (0 < G 0 (ro i))) == rb i)) = false; rw [a9]; rfl
        have hh := ih (i + 1) (by omega)
        rw [e] at hh
        exact hh
      · skip
        have a9 : trB G ro rb (goN r m) i = true := by cases hb : trB G ro rb (goN r m) i with | true => rfl | false => rw [hb] at c7; exact absurd rfl c7
        refine Ev_iload dX12_areSo_60 rfl ?_
        refine Ev_aload_n dX12_areSo_62 rfl ?_
        refine Ev_get dX12_areSo_63 fg_X12_61_12 hM rfl ?_
        refine Ev_iload dX12_areSo_66 rfl ?_
        refine Ev_zaloadN (j := i) dX12_areSo_68 h49 (by omega) (by decide) ?_
        refine Ev_topi (y := bz (rb i)) (hrd _ (by omega)).2 ?_
        refine Ev_icmp_ne dX12_areSo_69 (fun c8 => ?_) (fun c8 => ?_)
        · skip
          have d9 : rb i = true := by cases hb : rb i with | true => rfl | false => rw [hb] at c8; exact absurd rfl c8
          refine Ev_iconst (v := 0) dX12_areSo_76 (by decide) ?_
          refine Ev_istore_n dX12_areSo_77 rfl ?_
          refine Ev_iinc (v := nI (i + 1)) dX12_areSo_78 rfl (nI_1 _) rfl ?_
          refine Ev_goto dX12_areSo_81 ?_
          refine Ev_loc (la2 := [some (.ref 31), some (.int (nI m)), some (.int (nI (goN r m))), some (.int 0), some (.int (nI (i + 1))), none]) ⟨rfl, ⟨rfl, ⟨rfl, ⟨rfl, ⟨rfl, trivial⟩⟩⟩⟩⟩ ?_
          have b9 : (goN r m).testBit (ro i) = false := by cases hb : (goN r m).testBit (ro i) with | false => rfl | true => exact absurd hb q1
          have e : trB G ro rb (goN r m) (i + 1) = false := by show (trB G ro rb (goN r m) i && (((goN r m).testBit (ro i) && decide (0 < G 0 (ro i))) == rb i)) = false; rw [b9, a9, d9]; rfl
          have hh := ih (i + 1) (by omega)
          rw [e] at hh
          exact hh
        · skip
          have d9 : rb i = false := by cases hb : rb i with | false => rfl | true => rw [hb] at c8; exact absurd c8 (by decide)
          refine Ev_iconst (v := 1) dX12_areSo_72 (by decide) ?_
          refine Ev_goto dX12_areSo_73 ?_
          refine Ev_istore_n dX12_areSo_77 rfl ?_
          refine Ev_iinc (v := nI (i + 1)) dX12_areSo_78 rfl (nI_1 _) rfl ?_
          refine Ev_goto dX12_areSo_81 ?_
          refine Ev_loc (la2 := [some (.ref 31), some (.int (nI m)), some (.int (nI (goN r m))), some (.int 1), some (.int (nI (i + 1))), none]) ⟨rfl, ⟨rfl, ⟨rfl, ⟨rfl, ⟨rfl, trivial⟩⟩⟩⟩⟩ ?_
          have b9 : (goN r m).testBit (ro i) = false := by cases hb : (goN r m).testBit (ro i) with | false => rfl | true => exact absurd hb q1
          have e : trB G ro rb (goN r m) (i + 1) = true := by show (trB G ro rb (goN r m) i && (((goN r m).testBit (ro i) && decide (0 < G 0 (ro i))) == rb i)) = true; rw [b9, a9, d9]; rfl
          have hh := ih (i + 1) (by omega)
          rw [e] at hh
          exact hh

set_option maxHeartbeats 4000000 in
set_option maxRecDepth 100000 in
theorem c_X12_areSo {d : Nat} {S : aS} {Q : Option Value → aS → Prop} {flt du lw fr ra rp rs ea dp bm tr : Int32} {bi : Int64} {q pl n cs : Nat} {G : Nat → Nat → Nat} (hg : GD pl n G) (hcs : cs < 512) (hM : S[31]? = some (mo flt (nI pl) (nI n) du lw fr (nI cs) ra rp rs ea dp bm bi (nI q) tr)) (hG : MN S n G) {m : Nat} {rw_ : Nat → Int32} {r : Nat → Nat} (hm : m ≤ 12) (hr : S[44]? = some (iA 12 rw_)) (hrw : ∀ x, x < m → rw_ x = nI (r x) ∧ r x < n) {ro : Nat → Nat} {rb : Nat → Bool} {fo fw : Nat → Int32} (h48 : S[48]? = some (iA 8 fo)) (h49 : S[49]? = some (zA 8 fw)) (hrd : ∀ x, x < q → fo x = nI (ro x) ∧ fw x = bz (rb x)) (hro : ∀ x, x < q → ro x < n) (hq : q ≤ 8) (k : Q (some (.int (bz (trB G ro rb (goN r m) q)))) S) : Mth mX12_areSo (d + 1) 0 [.ref 31, .int (nI m)] S Q := by
  obtain ⟨f0, a0, b0⟩ := hG 0 (by decide)
  refine Mth_of (by decide) rfl ?_
  refine Ev_aload_n dX12_areSo_0 rfl ?_
  refine Ev_iload_n dX12_areSo_1 rfl ?_
  refine Ev_callV (bc := 0) (b := 0) dX12_areSo_2 cv_X12_181 rfl hM (Nat.le_of_ble_eq_true rfl) (by omega) ?_
  refine c_X12_goneBy hg hcs hM hG hm hr hrw ?_
  refine Ev_istore_n dX12_areSo_5 rfl ?_
  refine Ev_iconst (v := 1) dX12_areSo_6 (by decide) ?_
  refine Ev_istore_n dX12_areSo_7 rfl ?_
  refine Ev_iconst (v := 0) dX12_areSo_8 (by decide) ?_
  refine Ev_istore dX12_areSo_9 rfl ?_
  exact l_X12_areSo hg hcs hM hG hm hr hrw h48 h49 hrd hro hq k q 0 (by omega)

set_option maxHeartbeats 4000000 in
set_option maxRecDepth 100000 in
theorem c_told_0 {d : Nat} {S : aS} {Q : Option Value → aS → Prop} {flt du lw fr ra rp rs ea dp tr : Int32} {bi : Int64} {pl n cs q : Nat} (h31 : S[31]? = some (mo flt (nI pl) (nI n) du lw fr (nI cs) ra rp rs ea dp 0 bi (nI q) tr)) {y : Int32} (k : Q (some (.int (-9))) S) : Mth mX12_toldBest d 0 [.ref 31, .int y] S Q := by
  refine Mth_of (by decide) rfl ?_
  refine Ev_aload_n dX12_toldBest_0 rfl ?_
  refine Ev_get dX12_toldBest_1 fg_X12_232_12 h31 rfl ?_
  refine Ev_if_ne dX12_toldBest_4 (fun c => absurd (by decide) c) (fun _ => ?_)
  refine Ev_bipush (v := (-9)) dX12_toldBest_7 (by decide) ?_
  refine Ev_goto dX12_toldBest_9 ?_
  refine Ev_iret dX12_toldBest_43 rfl rfl ?_
  exact k

set_option maxHeartbeats 4000000 in
set_option maxRecDepth 100000 in
theorem c_told_m {d : Nat} {S : aS} {Q : Option Value → aS → Prop} {flt du lw fr ra rp rs ea dp tr : Int32} {bi : Int64} {pl n cs q : Nat} {s : Nat} (h31 : S[31]? = some (mo flt (nI pl) (nI n) du lw fr (nI cs) ra rp rs ea dp (nI s) bi (nI q) tr)) (hs : 1 ≤ s ∧ s ≤ 5) (k : Q (some (.int bi.toInt32)) S) : Mth mX12_toldBest d 0 [.ref 31, .int (-1)] S Q := by
  refine Mth_of (by decide) rfl ?_
  refine Ev_aload_n dX12_toldBest_0 rfl ?_
  refine Ev_get dX12_toldBest_1 fg_X12_232_12 h31 rfl ?_
  refine Ev_if_ne dX12_toldBest_4 (fun _ => ?_) (fun c => absurd c (fun z => absurd ((nIinj (b := 0) (by omega) (by omega)).mp z) (by omega)))
  refine Ev_iload_n dX12_toldBest_12 rfl ?_
  refine Ev_if_ge dX12_toldBest_13 (fun c => absurd c (by decide)) (fun _ => ?_)
  refine Ev_aload_n dX12_toldBest_16 rfl ?_
  refine Ev_get dX12_toldBest_17 fg_X12_235_12 h31 rfl ?_
  refine Ev_l2i dX12_toldBest_20 ?_
  refine Ev_goto dX12_toldBest_21 ?_
  refine Ev_iret dX12_toldBest_43 rfl rfl ?_
  exact k

set_option maxHeartbeats 4000000 in
set_option maxRecDepth 100000 in
theorem c_told_j {d : Nat} {S : aS} {Q : Option Value → aS → Prop} {flt du lw fr ra rp rs ea dp tr : Int32} {bi : Int64} {pl n cs q : Nat} {s j : Nat} {B : Nat → Int32} (h31 : S[31]? = some (mo flt (nI pl) (nI n) du lw fr (nI cs) ra rp rs ea dp (nI s) bi (nI q) tr)) (h47 : S[47]? = some (iA 5 B)) (hs : 1 ≤ s ∧ s ≤ 5) (hj : j ≤ 4) (ky : j < s → Q (some (.int (B j))) S) (kn : ¬ j < s → Q (some (.int (-9))) S) : Mth mX12_toldBest d 0 [.ref 31, .int (nI j)] S Q := by
  refine Mth_of (by decide) rfl ?_
  refine Ev_aload_n dX12_toldBest_0 rfl ?_
  refine Ev_get dX12_toldBest_1 fg_X12_232_12 h31 rfl ?_
  refine Ev_if_ne dX12_toldBest_4 (fun _ => ?_) (fun c => absurd c (fun z => absurd ((nIinj (b := 0) (by omega) (by omega)).mp z) (by omega)))
  refine Ev_iload_n dX12_toldBest_12 rfl ?_
  refine Ev_if_ge dX12_toldBest_13 (fun _ => ?_) (fun c => absurd (nI_pos' (by omega)) c)
  refine Ev_iload_n dX12_toldBest_24 rfl ?_
  refine Ev_aload_n dX12_toldBest_25 rfl ?_
  refine Ev_get dX12_toldBest_26 fg_X12_232_12 h31 rfl ?_
  refine Ev_icmp_ge dX12_toldBest_29 (fun c1 => ?_) (fun c1 => ?_)
  · skip
    have c1 : s ≤ j := (nle (a := s) (b := j) (by omega) (by omega)).mp c1
    refine Ev_bipush (v := (-9)) dX12_toldBest_41 (by decide) ?_
    refine Ev_iret dX12_toldBest_43 rfl rfl ?_
    exact kn (by omega)
  · skip
    have c1 : ¬ (s ≤ j) := fun z => c1 ((nle (a := s) (b := j) (by omega) (by omega)).mpr z)
    refine Ev_aload_n dX12_toldBest_32 rfl ?_
    refine Ev_get dX12_toldBest_33 fg_X12_55_12 h31 rfl ?_
    refine Ev_iload_n dX12_toldBest_36 rfl ?_
    refine Ev_ialoadN (j := j) dX12_toldBest_37 h47 (by omega) (by decide) ?_
    refine Ev_goto dX12_toldBest_38 ?_
    refine Ev_iret dX12_toldBest_43 rfl rfl ?_
    exact ky (by omega)

theorem l2iZ {x : Int64} {z : Int} (h : x.toInt = z) (hz : -2147483648 ≤ z ∧ z ≤ 2147483647) : x.toInt32 = iZ z := by
  refine toZ ?_
  rw [Int64.toInt_toInt32, h]
  exact Int.bmod_eq_of_le (by omega) (by omega)
theorem c_toldM {d : Nat} {S : aS} {Q : Option Value → aS → Prop} {flt du lw fr ra rp rs ea dp bm tr : Int32} {bi : Int64} {pl n cs q : Nat} (h31 : S[31]? = some (mo flt (nI pl) (nI n) du lw fr (nI cs) ra rp rs ea dp bm bi (nI q) tr)) {b : Bool} {o : Int} {x : Nat} {acc : rV} {B : Nat → Int32} (hkp : kpR b o x acc bm bi B) (hx : x ≤ 5) (ho : 0 ≤ o ∧ o ≤ 100000) (k : Q (some (.int (anZ o acc))) S) : Mth mX12_toldBest d 0 [.ref 31, .int (-1)] S Q := by
  obtain ⟨c, bb⟩ := acc
  obtain ⟨k2, k3⟩ := hkp
  cases bb with
  | none =>
    obtain ⟨-, e2⟩ := k2 rfl
    subst e2
    exact c_told_0 h31 k
  | some v =>
    obtain ⟨z, s, r⟩ := v
    obtain ⟨f1, f2, f3, f4, f5, f6, f7, f8⟩ := k3 z s r rfl
    subst f2
    refine c_told_m h31 ⟨f4, by omega⟩ ?_
    rw [l2iZ f3 (by omega), Int.add_comm]
    exact k
theorem c_toldJ {d : Nat} {S : aS} {Q : Option Value → aS → Prop} {flt du lw fr ra rp rs ea dp bm tr : Int32} {bi : Int64} {pl n cs q : Nat} (h31 : S[31]? = some (mo flt (nI pl) (nI n) du lw fr (nI cs) ra rp rs ea dp bm bi (nI q) tr)) {b : Bool} {o : Int} {x : Nat} {acc : rV} {B : Nat → Int32} {j : Nat} (h47 : S[47]? = some (iA 5 B)) (hkp : kpR b o x acc bm bi B) (hx : x ≤ 5) (hj : j ≤ 4) (k : Q (some (.int (anJ acc j))) S) : Mth mX12_toldBest d 0 [.ref 31, .int (nI j)] S Q := by
  obtain ⟨c, bb⟩ := acc
  obtain ⟨k2, k3⟩ := hkp
  cases bb with
  | none =>
    obtain ⟨-, e2⟩ := k2 rfl
    subst e2
    exact c_told_0 h31 k
  | some v =>
    obtain ⟨z, s, r⟩ := v
    obtain ⟨f1, f2, f3, f4, f5, f6, f7, f8⟩ := k3 z s r rfl
    subst f2
    have k : Q (some (.int (if j < s then nI (r j) else -9))) S := k
    refine c_told_j h31 h47 ⟨f4, by omega⟩ hj (fun h => ?_) (fun h => ?_)
    · rw [if_pos h] at k
      rw [f8 j h]
      exact k
    · rw [if_neg h] at k
      exact k

