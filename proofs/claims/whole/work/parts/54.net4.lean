/-! ===== a new net, on the reference's side ===== -/
theorem cd_eq {c c2 : Nat → Int32} {m : Nat} (h : ∀ y, y < m → c y = c2 y) : cd c m = cd c2 m := by
  funext p
  unfold cd
  split
  · next hp => exact h p hp
  · rfl
theorem okc_eq {c c2 : Nat → Int32} {m p : Nat} (h : cd c m = cd c2 m) : okc c m p = okc c2 m p := by unfold okc; rw [h]
theorem tG_eq {c c2 : Nat → Int32} {m : Nat} (h : cd c m = cd c2 m) : tG c m = tG c2 m := by funext f j; unfold tG; rw [h]
theorem tP_eq {c c2 : Nat → Int32} {m : Nat} (h : cd c m = cd c2 m) : tP c m = tP c2 m := by unfold tP; rw [h]
theorem FFa_eq {c c2 : Nat → Int32} {m p : Nat} (h : cd c m = cd c2 m) (hf : FFa c m p) : FFa c2 m p := by
  obtain ⟨h1, h2, h3⟩ := hf
  exact ⟨fun y hy => okc_eq h ▸ h1 y hy, fun z => h2 (by rw [okc_eq h]; exact z), h3⟩
theorem WHa_eq {c c2 : Nat → Int32} {m : Nat} (h : cd c m = cd c2 m) (hf : WHa c m) : WHa c2 m := by
  obtain ⟨h1, h3⟩ := hf
  exact ⟨fun y hy => okc_eq h ▸ h1 y hy, h3⟩
theorem dgI {x : Int32} {lo hi : Int} (h0 : 0 ≤ lo) (h1 : hi ≤ 9) : (lo ≤ (x - 48).toInt ∧ (x - 48).toInt ≤ hi) ↔ (48 + lo ≤ x.toInt ∧ x.toInt ≤ 48 + hi) := by
  constructor
  · intro h
    have e2 : ((x - 48) + 48).toInt = (x - 48).toInt + 48 := xadd rfl rfl (by omega)
    rw [Int32.sub_add_cancel] at e2
    omega
  · intro h
    have e := xsub (a := x) (b := 48) (x := x.toInt) (y := 48) rfl rfl (by omega)
    omega
theorem dgX {x y : Int32} : x - 48 = y - 48 ↔ x = y := by
  constructor
  · intro h
    have e := congrArg (fun v => v + 48) h
    simp only [Int32.sub_add_cancel] at e
    exact e
  · intro h; rw [h]
theorem nI_z (p : Nat) : nI p + 0 = nI p := nI_add p 0

set_option maxHeartbeats 4000000 in
set_option maxRecDepth 100000 in
theorem c_X12_codeAt {d : Nat} {S : aS} {Q : Option Value → aS → Prop} {flt pl0 n0 du lw fr cl rp rs ea dp bm rd tr : Int32} {bi : Int64} {p : Nat} (h31 : S[31]? = some (mo flt pl0 n0 du lw fr cl (nI p) rp rs ea dp bm bi rd tr)) {o m : Nat} {fc : Nat → Int32} (h54 : S[54]? = some (iA 240 fc)) (hom : o + m ≤ 240) (hp : p < 1000) (k : Q (some (.int (cd (fun y => fc (o + y)) m p))) S) : Mth mX12_codeAt d 0 [.ref 31, .int (nI o), .int (nI m)] S Q := by
  refine Mth_of (by decide) rfl ?_
  refine Ev_aload_n dX12_codeAt_0 rfl ?_
  refine Ev_get dX12_codeAt_1 fg_X12_104_12 h31 rfl ?_
  refine Ev_iload_n dX12_codeAt_4 rfl ?_
  refine Ev_icmp_ge dX12_codeAt_5 (fun c1 => ?_) (fun c1 => ?_)
  · skip
    have c1 : m ≤ p := (nle (a := m) (b := p) (by omega) (by omega)).mp c1
    refine Ev_bipush (v := (-9)) dX12_codeAt_22 (by decide) ?_
    refine Ev_iret dX12_codeAt_24 rfl rfl ?_
    rw [cd_out (by omega)] at k
    exact k
  · skip
    have c1 : ¬ (m ≤ p) := fun z => c1 ((nle (a := m) (b := p) (by omega) (by omega)).mpr z)
    refine Ev_aload_n dX12_codeAt_8 rfl ?_
    refine Ev_get dX12_codeAt_9 fg_X12_78_12 h31 rfl ?_
    refine Ev_iload_n dX12_codeAt_12 rfl ?_
    refine Ev_aload_n dX12_codeAt_13 rfl ?_
    refine Ev_get dX12_codeAt_14 fg_X12_104_12 h31 rfl ?_
    refine Ev_iadd dX12_codeAt_17 ?_
    refine Ev_topi (y := nI (o + p)) (nI_add _ _) ?_
    refine Ev_ialoadN (j := o + p) dX12_codeAt_18 h54 (by omega) (by decide) ?_
    refine Ev_goto dX12_codeAt_19 ?_
    refine Ev_iret dX12_codeAt_24 rfl rfl ?_
    rw [cd_in (by omega)] at k
    exact k

set_option maxHeartbeats 4000000 in
set_option maxRecDepth 100000 in
theorem c_X12_figure {d : Nat} {S : aS} {Q : Option Value → aS → Prop} {flt pl0 n0 du lw fr cl rp rs ea dp bm rd tr : Int32} {bi : Int64} {p : Nat} (h31 : S[31]? = some (mo flt pl0 n0 du lw fr cl (nI p) rp rs ea dp bm bi rd tr)) {o m : Nat} {fc : Nat → Int32} (h54 : S[54]? = some (iA 240 fc)) (hom : o + m ≤ 240) (hp : p < 1000) {lo hi but : Int32} (ky : lo.toInt ≤ (cd (fun y => fc (o + y)) m p - 48).toInt ∧ (cd (fun y => fc (o + y)) m p - 48).toInt ≤ hi.toInt → ¬ (cd (fun y => fc (o + y)) m p - 48) = but → Q (some (.int (cd (fun y => fc (o + y)) m p - 48))) (S.set 31 (mo flt pl0 n0 du lw fr cl (nI (p + 1)) rp rs ea dp bm bi rd tr))) (kn : ¬ ((lo.toInt ≤ (cd (fun y => fc (o + y)) m p - 48).toInt ∧ (cd (fun y => fc (o + y)) m p - 48).toInt ≤ hi.toInt) ∧ ¬ (cd (fun y => fc (o + y)) m p - 48) = but) → Q (some (.int (-9))) S)  : Mth mX12_figure (d + 1) 0 [.ref 31, .int (nI o), .int (nI m), .int lo, .int hi, .int but] S Q := by
  refine Mth_of (by decide) rfl ?_
  refine Ev_aload_n dX12_figure_0 rfl ?_
  refine Ev_iload_n dX12_figure_1 rfl ?_
  refine Ev_iload_n dX12_figure_2 rfl ?_
  refine Ev_callV (bc := 0) (b := 0) dX12_figure_3 cv_X12_107 rfl h31 (Nat.le_of_ble_eq_true rfl) (by omega) ?_
  refine c_X12_codeAt (p := p) h31 h54 hom (by omega) ?_
  refine Ev_bipush (v := 48) dX12_figure_6 (by decide) ?_
  refine Ev_isub dX12_figure_8 ?_
  refine Ev_istore dX12_figure_9 rfl ?_
  refine Ev_iload dX12_figure_11 rfl ?_
  refine Ev_i2l dX12_figure_13 ?_
  refine Ev_iload_n dX12_figure_14 rfl ?_
  refine Ev_i2l dX12_figure_15 ?_
  refine Ev_iload dX12_figure_16 rfl ?_
  refine Ev_i2l dX12_figure_18 ?_
  refine Ev_callS (bc := 0) (b := 0) dX12_figure_19 cs_X12_97 rfl (Nat.le_of_ble_eq_true rfl) (by omega) ?_
  refine c_X12_in (x64 _) (x64 _) (x64 _) (fun q1 => ?_) (fun q1 => ?_)
  · skip
    refine Ev_if_eq dX12_figure_22 (fun c => absurd c (by decide)) (fun _ => ?_)
    refine Ev_iload dX12_figure_25 rfl ?_
    refine Ev_iload dX12_figure_27 rfl ?_
    refine Ev_icmp_eq dX12_figure_29 (fun c2 => ?_) (fun c2 => ?_)
    · skip
      refine Ev_iconst (v := 0) dX12_figure_36 (by decide) ?_
      refine Ev_istore dX12_figure_37 rfl ?_
      refine Ev_aload_n dX12_figure_39 rfl ?_
      refine Ev_dup dX12_figure_40 rfl ?_
      refine Ev_get dX12_figure_41 fg_X12_104_12 h31 rfl ?_
      refine Ev_iload dX12_figure_44 rfl ?_
      refine Ev_if_eq dX12_figure_46 (fun _ => ?_) (fun c => absurd (by decide) c)
      refine Ev_iconst (v := 0) dX12_figure_53 (by decide) ?_
      refine Ev_iadd dX12_figure_54 ?_
      refine Ev_topi (y := nI p) (nI_z p) ?_
      refine Ev_put dX12_figure_55 fr_X12_104_12 h31 rfl rfl rfl ?_
      refine Ev_iload dX12_figure_58 rfl ?_
      refine Ev_if_eq dX12_figure_60 (fun _ => ?_) (fun c => absurd (by decide) c)
      refine Ev_bipush (v := (-9)) dX12_figure_68 (by decide) ?_
      refine Ev_iret dX12_figure_70 rfl rfl ?_
      rw [gid h31]
      exact kn (fun z => z.2 c2)
    · skip
      refine Ev_iconst (v := 1) dX12_figure_32 (by decide) ?_
      refine Ev_goto dX12_figure_33 ?_
      refine Ev_istore dX12_figure_37 rfl ?_
      refine Ev_aload_n dX12_figure_39 rfl ?_
      refine Ev_dup dX12_figure_40 rfl ?_
      refine Ev_get dX12_figure_41 fg_X12_104_12 h31 rfl ?_
      refine Ev_iload dX12_figure_44 rfl ?_
      refine Ev_if_eq dX12_figure_46 (fun c => absurd c (by decide)) (fun _ => ?_)
      refine Ev_iconst (v := 1) dX12_figure_49 (by decide) ?_
      refine Ev_goto dX12_figure_50 ?_
      refine Ev_iadd dX12_figure_54 ?_
      refine Ev_topi (y := nI (p + 1)) (nI_1 p) ?_
      refine Ev_put dX12_figure_55 fr_X12_104_12 h31 rfl rfl rfl ?_
      refine Ev_iload dX12_figure_58 rfl ?_
      refine Ev_if_eq dX12_figure_60 (fun c => absurd c (by decide)) (fun _ => ?_)
      refine Ev_iload dX12_figure_63 rfl ?_
      refine Ev_goto dX12_figure_65 ?_
      refine Ev_iret dX12_figure_70 rfl rfl ?_
      exact ky q1 c2
  · skip
    refine Ev_if_eq dX12_figure_22 (fun _ => ?_) (fun c => absurd (by decide) c)
    refine Ev_iconst (v := 0) dX12_figure_36 (by decide) ?_
    refine Ev_istore dX12_figure_37 rfl ?_
    refine Ev_aload_n dX12_figure_39 rfl ?_
    refine Ev_dup dX12_figure_40 rfl ?_
    refine Ev_get dX12_figure_41 fg_X12_104_12 h31 rfl ?_
    refine Ev_iload dX12_figure_44 rfl ?_
    refine Ev_if_eq dX12_figure_46 (fun _ => ?_) (fun c => absurd (by decide) c)
    refine Ev_iconst (v := 0) dX12_figure_53 (by decide) ?_
    refine Ev_iadd dX12_figure_54 ?_
    refine Ev_topi (y := nI p) (nI_z p) ?_
    refine Ev_put dX12_figure_55 fr_X12_104_12 h31 rfl rfl rfl ?_
    refine Ev_iload dX12_figure_58 rfl ?_
    refine Ev_if_eq dX12_figure_60 (fun _ => ?_) (fun c => absurd (by decide) c)
    refine Ev_bipush (v := (-9)) dX12_figure_68 (by decide) ?_
    refine Ev_iret dX12_figure_70 rfl rfl ?_
    rw [gid h31]
    exact kn (fun z => q1 z.1)

theorem fig_n {d : Nat} {S : aS} {Q : Option Value → aS → Prop} {flt pl0 n0 du lw fr cl rp rs ea dp bm rd tr : Int32} {bi : Int64} {p : Nat} (h31 : S[31]? = some (mo flt pl0 n0 du lw fr cl (nI p) rp rs ea dp bm bi rd tr)) {o m : Nat} {fc : Nat → Int32} (h54 : S[54]? = some (iA 240 fc)) (hom : o + m ≤ 240) (hp : p < 1000) {lo hi : Nat} (hlo9 : lo ≤ 9) (hhi : hi ≤ 9) (ky : 48 + (lo : Int) ≤ (cd (fun y => fc (o + y)) m p).toInt ∧ (cd (fun y => fc (o + y)) m p).toInt ≤ 48 + (hi : Int) → Q (some (.int (nI ((cd (fun y => fc (o + y)) m p).toInt - 48).toNat))) (S.set 31 (mo flt pl0 n0 du lw fr cl (nI (p + 1)) rp rs ea dp bm bi rd tr))) (kn : ¬ (48 + (lo : Int) ≤ (cd (fun y => fc (o + y)) m p).toInt ∧ (cd (fun y => fc (o + y)) m p).toInt ≤ 48 + (hi : Int)) → Q (some (.int (-9))) S) : Mth mX12_figure (d + 1) 0 [.ref 31, .int (nI o), .int (nI m), .int (nI lo), .int (nI hi), .int (-9)] S Q := by
  have e1 := dgI (x := cd (fun y => fc (o + y)) m p) (lo := (lo : Int)) (hi := (hi : Int)) (by omega) (by omega)
  refine c_X12_figure h31 h54 hom hp (fun h1 h2 => ?_) (fun h => ?_)
  · rw [nIt (by omega), nIt (by omega), e1] at h1
    rw [dig (by omega)]
    exact ky h1
  · rw [nIt (by omega), nIt (by omega)] at h
    refine kn (fun z => h ⟨e1.mpr z, fun y => ?_⟩)
    have h3 := e1.mpr z
    rw [y, z32_m9] at h3
    omega

theorem fig_b {d : Nat} {S : aS} {Q : Option Value → aS → Prop} {flt pl0 n0 du lw fr cl rp rs ea dp bm rd tr : Int32} {bi : Int64} {p : Nat} (h31 : S[31]? = some (mo flt pl0 n0 du lw fr cl (nI p) rp rs ea dp bm bi rd tr)) {o m : Nat} {fc : Nat → Int32} (h54 : S[54]? = some (iA 240 fc)) (hom : o + m ≤ 240) (hp : p < 1000) {lo hi : Nat} (hlo9 : lo ≤ 9) (hhi : hi ≤ 9) {b0 bv : Int32} (hb : bv = b0 - 48) (ky : 48 + (lo : Int) ≤ (cd (fun y => fc (o + y)) m p).toInt ∧ (cd (fun y => fc (o + y)) m p).toInt ≤ 48 + (hi : Int) → ¬ cd (fun y => fc (o + y)) m p = b0 → Q (some (.int (nI ((cd (fun y => fc (o + y)) m p).toInt - 48).toNat))) (S.set 31 (mo flt pl0 n0 du lw fr cl (nI (p + 1)) rp rs ea dp bm bi rd tr))) (kn : ¬ ((48 + (lo : Int) ≤ (cd (fun y => fc (o + y)) m p).toInt ∧ (cd (fun y => fc (o + y)) m p).toInt ≤ 48 + (hi : Int)) ∧ ¬ cd (fun y => fc (o + y)) m p = b0) → Q (some (.int (-9))) S) : Mth mX12_figure (d + 1) 0 [.ref 31, .int (nI o), .int (nI m), .int (nI lo), .int (nI hi), .int bv] S Q := by
  have e1 := dgI (x := cd (fun y => fc (o + y)) m p) (lo := (lo : Int)) (hi := (hi : Int)) (by omega) (by omega)
  subst hb
  refine c_X12_figure h31 h54 hom hp (fun h1 h2 => ?_) (fun h => ?_)
  · rw [nIt (by omega), nIt (by omega), e1] at h1
    rw [dgX] at h2
    rw [dig (by omega)]
    exact ky h1 h2
  · rw [nIt (by omega), nIt (by omega), e1, dgX] at h
    exact kn h

def FrN (S S2 : aS) : Prop := ∀ a, a ≠ 31 → ¬ (37 < a ∧ a < 44) → S2[a]? = S[a]?
theorem FrN.rf {S : aS} : FrN S S := fun _ _ _ => rfl
theorem FrN.st {a : Nat} {S0 S : aS} {c : aE} (h : FrN S0 S) (ha : a = 31 ∨ (37 < a ∧ a < 44)) : FrN S0 (S.set a c) := by
  intro b h1 h2
  rw [List.getElem?_set_ne (by omega)]
  exact h b h1 h2
theorem FrN.tr {S0 S S2 : aS} (h : FrN S0 S) (h2 : FrN S S2) : FrN S0 S2 := fun b a1 a2 => (h2 b a1 a2).trans (h b a1 a2)
theorem FrN.at {a : Nat} {S0 S : aS} {c : aE} (h : FrN S0 S) (h0 : S0[a]? = some c) (h1 : a ≠ 31 ∧ ¬ (37 < a ∧ a < 44)) : S[a]? = some c := (h a h1.1 h1.2).trans h0
theorem six {P : Nat → Prop} (h0 : P 0) (h1 : P 1) (h2 : P 2) (h3 : P 3) (h4 : P 4) (h5 : P 5) : ∀ f, f < 6 → P f := by
  intro f hf
  rcases (show f = 0 ∨ f = 1 ∨ f = 2 ∨ f = 3 ∨ f = 4 ∨ f = 5 by omega) with rfl | rfl | rfl | rfl | rfl | rfl
  · exact h0
  · exact h1
  · exact h2
  · exact h3
  · exact h4
  · exact h5

set_option maxHeartbeats 4000000 in
set_option maxRecDepth 100000 in
theorem c_rs_a {d : Nat} {S : aS} {Q : Option Value → aS → Prop} {flt pl0 n0 du lw fr cl ea dp bm rd tr : Int32} {bi : Int64} {pl j : Nat} (h31 : S[31]? = some (mo flt pl0 n0 du lw fr cl (nI (2 + 7 * j)) (nI pl) (nI j) ea dp bm bi rd tr)) {o m : Nat} {fc : Nat → Int32} (h54 : S[54]? = some (iA 240 fc)) (hom : o + m ≤ 240) (hj : j ≤ 8) (hm60 : m ≤ 60) (ho : ∀ y, y < 2 + 7 * j → okc (fun y => fc (o + y)) m y) (hpl : pl = tP (fun y => fc (o + y)) m) (h0 : ¬ cd (fun y => fc (o + y)) m (2 + 7 * j) = 59) (k : Q (some (.int 0)) S) : Mth mX12_readsStretch (d + 2) 0 [.ref 31, .int (nI o), .int (nI m)] S Q := by
  refine Mth_of (by decide) rfl ?_
  refine Ev_aload_n dX12_readsStretch_0 rfl ?_
  refine Ev_get dX12_readsStretch_1 fg_X12_111_12 h31 rfl ?_
  refine Ev_bipush (v := 9) dX12_readsStretch_4 (by decide) ?_
  refine Ev_icmp_eq dX12_readsStretch_6 (fun c => absurd c (fun z => absurd ((nIinj (b := 9) (by omega) (by omega)).mp z) (by omega))) (fun _ => ?_)
  refine Ev_aload_n dX12_readsStretch_9 rfl ?_
  refine Ev_iload_n dX12_readsStretch_10 rfl ?_
  refine Ev_iload_n dX12_readsStretch_11 rfl ?_
  refine Ev_callV (bc := 0) (b := 0) dX12_readsStretch_12 cv_X12_107 rfl h31 (Nat.le_of_ble_eq_true rfl) (by omega) ?_
  refine c_X12_codeAt (p := 2 + 7 * j) h31 h54 hom (by omega) ?_
  refine Ev_bipush (v := 59) dX12_readsStretch_15 (by decide) ?_
  refine Ev_icmp_eq dX12_readsStretch_17 (fun c => absurd c h0) (fun _ => ?_)
  refine Ev_iconst (v := 0) dX12_readsStretch_20 (by decide) ?_
  refine Ev_iret dX12_readsStretch_21 rfl (by decide) ?_
  exact k

set_option maxHeartbeats 4000000 in
set_option maxRecDepth 100000 in
theorem c_rs_b {d : Nat} {S : aS} {Q : Option Value → aS → Prop} {flt pl0 n0 du lw fr cl ea dp bm rd tr : Int32} {bi : Int64} {pl j : Nat} (h31 : S[31]? = some (mo flt pl0 n0 du lw fr cl (nI (2 + 7 * j)) (nI pl) (nI j) ea dp bm bi rd tr)) {o m : Nat} {fc : Nat → Int32} (h54 : S[54]? = some (iA 240 fc)) (hom : o + m ≤ 240) (hj : j ≤ 8) (hm60 : m ≤ 60) (ho : ∀ y, y < 2 + 7 * j → okc (fun y => fc (o + y)) m y) (hpl : pl = tP (fun y => fc (o + y)) m) (hc0 : cd (fun y => fc (o + y)) m (2 + 7 * j) = 59) (h1 : ¬ (cd (fun y => fc (o + y)) m (2 + 7 * j + 1) = 115 ∨ cd (fun y => fc (o + y)) m (2 + 7 * j + 1) = 109 ∨ cd (fun y => fc (o + y)) m (2 + 7 * j + 1) = 112)) (k : Q (some (.int 0)) (S.set 31 (mo flt pl0 n0 du lw fr cl (nI (2 + 7 * j + 1)) (nI pl) (nI j) ea dp bm bi rd tr))) : Mth mX12_readsStretch (d + 2) 0 [.ref 31, .int (nI o), .int (nI m)] S Q := by
  refine Mth_of (by decide) rfl ?_
  refine Ev_aload_n dX12_readsStretch_0 rfl ?_
  refine Ev_get dX12_readsStretch_1 fg_X12_111_12 h31 rfl ?_
  refine Ev_bipush (v := 9) dX12_readsStretch_4 (by decide) ?_
  refine Ev_icmp_eq dX12_readsStretch_6 (fun c => absurd c (fun z => absurd ((nIinj (b := 9) (by omega) (by omega)).mp z) (by omega))) (fun _ => ?_)
  refine Ev_aload_n dX12_readsStretch_9 rfl ?_
  refine Ev_iload_n dX12_readsStretch_10 rfl ?_
  refine Ev_iload_n dX12_readsStretch_11 rfl ?_
  refine Ev_callV (bc := 0) (b := 0) dX12_readsStretch_12 cv_X12_107 rfl h31 (Nat.le_of_ble_eq_true rfl) (by omega) ?_
  refine c_X12_codeAt (p := 2 + 7 * j) h31 h54 hom (by omega) ?_
  rw [hc0]
  refine Ev_bipush (v := 59) dX12_readsStretch_15 (by decide) ?_
  refine Ev_icmp_eq dX12_readsStretch_17 (fun _ => ?_) (fun c => absurd (by decide) c)
  refine Ev_aload_n dX12_readsStretch_22 rfl ?_
  refine Ev_dup dX12_readsStretch_23 rfl ?_
  refine Ev_get dX12_readsStretch_24 fg_X12_104_12 h31 rfl ?_
  refine Ev_iconst (v := 1) dX12_readsStretch_27 (by decide) ?_
  refine Ev_iadd dX12_readsStretch_28 ?_
  refine Ev_topi (y := nI (2 + 7 * j + 1)) (nI_1 _) ?_
  refine Ev_put dX12_readsStretch_29 fr_X12_104_12 h31 rfl rfl rfl ?_
  refine Ev_aload_n dX12_readsStretch_32 rfl ?_
  refine Ev_iload_n dX12_readsStretch_33 rfl ?_
  refine Ev_iload_n dX12_readsStretch_34 rfl ?_
  refine Ev_callV (bc := 0) (b := 0) dX12_readsStretch_35 cv_X12_107 rfl (gs h31) (Nat.le_of_ble_eq_true rfl) (by omega) ?_
  refine c_X12_codeAt (p := 2 + 7 * j + 1) (gs h31) (gn (by decide) h54) hom (by omega) ?_
  refine Ev_istore_n dX12_readsStretch_38 rfl ?_
  refine Ev_iload_n dX12_readsStretch_39 rfl ?_
  refine Ev_bipush (v := 115) dX12_readsStretch_40 (by decide) ?_
  refine Ev_icmp_eq dX12_readsStretch_42 (fun c => absurd c (fun z => h1 (Or.inl z))) (fun _ => ?_)
  refine Ev_iload_n dX12_readsStretch_45 rfl ?_
  refine Ev_bipush (v := 109) dX12_readsStretch_46 (by decide) ?_
  refine Ev_icmp_eq dX12_readsStretch_48 (fun c => absurd c (fun z => h1 (Or.inr (Or.inl z)))) (fun _ => ?_)
  refine Ev_iload_n dX12_readsStretch_51 rfl ?_
  refine Ev_bipush (v := 112) dX12_readsStretch_52 (by decide) ?_
  refine Ev_icmp_eq dX12_readsStretch_54 (fun c => absurd c (fun z => h1 (Or.inr (Or.inr z)))) (fun _ => ?_)
  refine Ev_iconst (v := 0) dX12_readsStretch_57 (by decide) ?_
  refine Ev_iret dX12_readsStretch_58 rfl (by decide) ?_
  exact k

theorem below2 {c : Nat → Int32} {m j : Nat} (ho : ∀ y, y < 2 + 7 * j → okc c m y) (h0 : okc c m (2 + 7 * j)) (h1 : okc c m (2 + 7 * j + 1)) : ∀ y, y < 2 + 7 * j + 2 → okc c m y := by
  intro y hy
  by_cases e : y < 2 + 7 * j
  · exact ho y e
  rcases (show y = 2 + 7 * j ∨ y = 2 + 7 * j + 1 by omega) with rfl | rfl
  · exact h0
  · exact h1

theorem below3 {c : Nat → Int32} {m j : Nat} (ho : ∀ y, y < 2 + 7 * j → okc c m y) (h0 : okc c m (2 + 7 * j)) (h1 : okc c m (2 + 7 * j + 1)) (h2 : okc c m (2 + 7 * j + 2)) : ∀ y, y < 2 + 7 * j + 3 → okc c m y := by
  intro y hy
  by_cases e : y < 2 + 7 * j
  · exact ho y e
  rcases (show y = 2 + 7 * j ∨ y = 2 + 7 * j + 1 ∨ y = 2 + 7 * j + 2 by omega) with rfl | rfl | rfl
  · exact h0
  · exact h1
  · exact h2

theorem below4 {c : Nat → Int32} {m j : Nat} (ho : ∀ y, y < 2 + 7 * j → okc c m y) (h0 : okc c m (2 + 7 * j)) (h1 : okc c m (2 + 7 * j + 1)) (h2 : okc c m (2 + 7 * j + 2)) (h3 : okc c m (2 + 7 * j + 3)) : ∀ y, y < 2 + 7 * j + 4 → okc c m y := by
  intro y hy
  by_cases e : y < 2 + 7 * j
  · exact ho y e
  rcases (show y = 2 + 7 * j ∨ y = 2 + 7 * j + 1 ∨ y = 2 + 7 * j + 2 ∨ y = 2 + 7 * j + 3 by omega) with rfl | rfl | rfl | rfl
  · exact h0
  · exact h1
  · exact h2
  · exact h3

theorem below5 {c : Nat → Int32} {m j : Nat} (ho : ∀ y, y < 2 + 7 * j → okc c m y) (h0 : okc c m (2 + 7 * j)) (h1 : okc c m (2 + 7 * j + 1)) (h2 : okc c m (2 + 7 * j + 2)) (h3 : okc c m (2 + 7 * j + 3)) (h4 : okc c m (2 + 7 * j + 4)) : ∀ y, y < 2 + 7 * j + 5 → okc c m y := by
  intro y hy
  by_cases e : y < 2 + 7 * j
  · exact ho y e
  rcases (show y = 2 + 7 * j ∨ y = 2 + 7 * j + 1 ∨ y = 2 + 7 * j + 2 ∨ y = 2 + 7 * j + 3 ∨ y = 2 + 7 * j + 4 by omega) with rfl | rfl | rfl | rfl | rfl
  · exact h0
  · exact h1
  · exact h2
  · exact h3
  · exact h4

theorem below6 {c : Nat → Int32} {m j : Nat} (ho : ∀ y, y < 2 + 7 * j → okc c m y) (h0 : okc c m (2 + 7 * j)) (h1 : okc c m (2 + 7 * j + 1)) (h2 : okc c m (2 + 7 * j + 2)) (h3 : okc c m (2 + 7 * j + 3)) (h4 : okc c m (2 + 7 * j + 4)) (h5 : okc c m (2 + 7 * j + 5)) : ∀ y, y < 2 + 7 * j + 6 → okc c m y := by
  intro y hy
  by_cases e : y < 2 + 7 * j
  · exact ho y e
  rcases (show y = 2 + 7 * j ∨ y = 2 + 7 * j + 1 ∨ y = 2 + 7 * j + 2 ∨ y = 2 + 7 * j + 3 ∨ y = 2 + 7 * j + 4 ∨ y = 2 + 7 * j + 5 by omega) with rfl | rfl | rfl | rfl | rfl | rfl
  · exact h0
  · exact h1
  · exact h2
  · exact h3
  · exact h4
  · exact h5

theorem below7 {c : Nat → Int32} {m j : Nat} (ho : ∀ y, y < 2 + 7 * j → okc c m y) (h0 : okc c m (2 + 7 * j)) (h1 : okc c m (2 + 7 * j + 1)) (h2 : okc c m (2 + 7 * j + 2)) (h3 : okc c m (2 + 7 * j + 3)) (h4 : okc c m (2 + 7 * j + 4)) (h5 : okc c m (2 + 7 * j + 5)) (h6 : okc c m (2 + 7 * j + 6)) : ∀ y, y < 2 + 7 * (j + 1) → okc c m y := by
  intro y hy
  by_cases e : y < 2 + 7 * j
  · exact ho y e
  rcases (show y = 2 + 7 * j ∨ y = 2 + 7 * j + 1 ∨ y = 2 + 7 * j + 2 ∨ y = 2 + 7 * j + 3 ∨ y = 2 + 7 * j + 4 ∨ y = 2 + 7 * j + 5 ∨ y = 2 + 7 * j + 6 by omega) with rfl | rfl | rfl | rfl | rfl | rfl | rfl
  · exact h0
  · exact h1
  · exact h2
  · exact h3
  · exact h4
  · exact h5
  · exact h6

set_option maxHeartbeats 4000000 in
set_option maxRecDepth 100000 in
theorem c_rs_k0 {d : Nat} {S : aS} {Q : Option Value → aS → Prop} {flt pl0 n0 du lw fr cl ea dp bm rd tr : Int32} {bi : Int64} {pl j : Nat} (h31 : S[31]? = some (mo flt pl0 n0 du lw fr cl (nI (2 + 7 * j)) (nI pl) (nI j) ea dp bm bi rd tr)) {o m : Nat} {fc : Nat → Int32} (h54 : S[54]? = some (iA 240 fc)) (hom : o + m ≤ 240) (hj : j ≤ 8) (hm60 : m ≤ 60) (ho : ∀ y, y < 2 + 7 * j → okc (fun y => fc (o + y)) m y) (ho1 : okc (fun y => fc (o + y)) m 1) (hpl : pl = tP (fun y => fc (o + y)) m) {g : Nat → Nat → Int32} (hA : ∀ f, f < 6 → S[38 + f]? = some (iA 9 (g f))) (hc0 : cd (fun y => fc (o + y)) m (2 + 7 * j) = 59) (hc1 : cd (fun y => fc (o + y)) m (2 + 7 * j + 1) = 115) (kf : ∀ p, 2 + 7 * j ≤ p → p < 2 + 7 * j + 7 → (∀ y, y < p → okc (fun y => fc (o + y)) m y) → ¬ okc (fun y => fc (o + y)) m p → Q (some (.int 0)) (S.set 31 (mo flt pl0 n0 du lw fr cl (nI p) (nI pl) (nI j) ea dp bm bi rd tr))) (ks : ∀ S2, FrN S S2 → S2[31]? = some (mo flt pl0 n0 du lw fr cl (nI (2 + 7 * (j + 1))) (nI pl) (nI (j + 1)) ea dp bm bi rd tr) → (∀ f, f < 6 → S2[38 + f]? = some (iA 9 (upd (g f) j (nI (tG (fun y => fc (o + y)) m f j))))) → (∀ y, y < 2 + 7 * (j + 1) → okc (fun y => fc (o + y)) m y) → Q (some (.int 1)) S2)  : Mth mX12_readsStretch (d + 2) 0 [.ref 31, .int (nI o), .int (nI m)] S Q := by
  have o0 : okc (fun y => fc (o + y)) m (2 + 7 * j) := okc_0.mpr hc0
  have o1 : okc (fun y => fc (o + y)) m (2 + 7 * j + 1) := okc_1.mpr (Or.inl hc1)
  have hb1 := tP_b (ho1 : okc (fun y => fc (o + y)) m 1)
  have hk0 : tG (fun y => fc (o + y)) m 0 j = 0 := (by show (if cd (fun y => fc (o + y)) m (2 + 7 * j + 1) = 115 then 0 else if cd (fun y => fc (o + y)) m (2 + 7 * j + 1) = 109 then 1 else 2) = 0; rw [if_pos hc1])
  refine Mth_of (by decide) rfl ?_
  refine Ev_aload_n dX12_readsStretch_0 rfl ?_
  refine Ev_get dX12_readsStretch_1 fg_X12_111_12 h31 rfl ?_
  refine Ev_bipush (v := 9) dX12_readsStretch_4 (by decide) ?_
  refine Ev_icmp_eq dX12_readsStretch_6 (fun c => absurd c (fun z => absurd ((nIinj (b := 9) (by omega) (by omega)).mp z) (by omega))) (fun _ => ?_)
  refine Ev_aload_n dX12_readsStretch_9 rfl ?_
  refine Ev_iload_n dX12_readsStretch_10 rfl ?_
  refine Ev_iload_n dX12_readsStretch_11 rfl ?_
  refine Ev_callV (bc := 0) (b := 0) dX12_readsStretch_12 cv_X12_107 rfl h31 (Nat.le_of_ble_eq_true rfl) (by omega) ?_
  refine c_X12_codeAt (p := 2 + 7 * j) h31 h54 hom (by omega) ?_
  rw [hc0]
  refine Ev_bipush (v := 59) dX12_readsStretch_15 (by decide) ?_
  refine Ev_icmp_eq dX12_readsStretch_17 (fun _ => ?_) (fun c => absurd (by decide) c)
  refine Ev_aload_n dX12_readsStretch_22 rfl ?_
  refine Ev_dup dX12_readsStretch_23 rfl ?_
  refine Ev_get dX12_readsStretch_24 fg_X12_104_12 h31 rfl ?_
  refine Ev_iconst (v := 1) dX12_readsStretch_27 (by decide) ?_
  refine Ev_iadd dX12_readsStretch_28 ?_
  refine Ev_topi (y := nI (2 + 7 * j + 1)) (nI_1 _) ?_
  refine Ev_put dX12_readsStretch_29 fr_X12_104_12 h31 rfl rfl rfl ?_
  refine Ev_aload_n dX12_readsStretch_32 rfl ?_
  refine Ev_iload_n dX12_readsStretch_33 rfl ?_
  refine Ev_iload_n dX12_readsStretch_34 rfl ?_
  refine Ev_callV (bc := 0) (b := 0) dX12_readsStretch_35 cv_X12_107 rfl (gs h31) (Nat.le_of_ble_eq_true rfl) (by omega) ?_
  refine c_X12_codeAt (p := 2 + 7 * j + 1) (gs h31) (gn (by decide) h54) hom (by omega) ?_
  rw [hc1]
  refine Ev_istore_n dX12_readsStretch_38 rfl ?_
  refine Ev_iload_n dX12_readsStretch_39 rfl ?_
  refine Ev_bipush (v := 115) dX12_readsStretch_40 (by decide) ?_
  refine Ev_icmp_eq dX12_readsStretch_42 (fun _ => ?_) (fun c => absurd (by decide) c)
  refine Ev_aload_n dX12_readsStretch_59 rfl ?_
  refine Ev_dup dX12_readsStretch_60 rfl ?_
  refine Ev_get dX12_readsStretch_61 fg_X12_104_12 (gs h31) rfl ?_
  refine Ev_iconst (v := 1) dX12_readsStretch_64 (by decide) ?_
  refine Ev_iadd dX12_readsStretch_65 ?_
  refine Ev_topi (y := nI (2 + 7 * j + 2)) (nI_1 _) ?_
  refine Ev_put dX12_readsStretch_66 fr_X12_104_12 (gs h31) rfl rfl rfl ?_
  refine Ev_st gss ?_
  refine Ev_aload_n dX12_readsStretch_69 rfl ?_
  refine Ev_iload_n dX12_readsStretch_70 rfl ?_
  refine Ev_iload_n dX12_readsStretch_71 rfl ?_
  refine Ev_iconst (v := 0) dX12_readsStretch_72 (by decide) ?_
  refine Ev_aload_n dX12_readsStretch_73 rfl ?_
  refine Ev_get dX12_readsStretch_74 fg_X12_114_12 (gs h31) rfl ?_
  refine Ev_iconst (v := 1) dX12_readsStretch_77 (by decide) ?_
  refine Ev_isub dX12_readsStretch_78 ?_
  refine Ev_topi (y := nI (pl - 1)) (nsub (b := 1) (by omega)) ?_
  refine Ev_bipush (v := (-9)) dX12_readsStretch_79 (by decide) ?_
  refine Ev_callV (bc := 0) (b := 0) dX12_readsStretch_81 cv_X12_117 rfl (gs h31) (Nat.le_of_ble_eq_true rfl) (by omega) ?_
  refine fig_n (p := 2 + 7 * j + 2) (lo := 0) (hi := pl - 1) (gs h31) (gn (by decide) h54) hom (by omega) (by omega) (by omega) (fun z2 => ?_) (fun z2 => ?_)
  · skip
    have o2 : okc (fun y => fc (o + y)) m (2 + 7 * j + 2) := okc_2.mpr (by omega)
    have b2 : tG (fun y => fc (o + y)) m 1 j ≤ 9 := by show ((cd (fun y => fc (o + y)) m (2 + 7 * j + 2)).toInt - 48).toNat ≤ 9; omega
    refine Ev_st gss ?_
    refine Ev_istore dX12_readsStretch_84 rfl ?_
    refine Ev_iload dX12_readsStretch_86 rfl ?_
    refine Ev_if_ge dX12_readsStretch_88 (fun _ => ?_) (fun c => absurd (nI_pos' (by omega)) c)
    refine Ev_aload_n dX12_readsStretch_96 rfl ?_
    refine Ev_iload_n dX12_readsStretch_97 rfl ?_
    refine Ev_iload_n dX12_readsStretch_98 rfl ?_
    refine Ev_iconst (v := 0) dX12_readsStretch_99 (by decide) ?_
    refine Ev_aload_n dX12_readsStretch_100 rfl ?_
    refine Ev_get dX12_readsStretch_101 fg_X12_114_12 (gs h31) rfl ?_
    refine Ev_iconst (v := 1) dX12_readsStretch_104 (by decide) ?_
    refine Ev_isub dX12_readsStretch_105 ?_
    refine Ev_topi (y := nI (pl - 1)) (nsub (b := 1) (by omega)) ?_
    refine Ev_iload dX12_readsStretch_106 rfl ?_
    refine Ev_callV (bc := 0) (b := 0) dX12_readsStretch_108 cv_X12_117 rfl (gs h31) (Nat.le_of_ble_eq_true rfl) (by omega) ?_
    refine fig_b (p := 2 + 7 * j + 3) (lo := 0) (hi := pl - 1) (gs h31) (gn (by decide) h54) hom (by omega) (by omega) (by omega) (b0 := cd (fun y => fc (o + y)) m (2 + 7 * j + 2)) (dig (by omega)).symm (fun z3 y3 => ?_) (fun z3 => ?_)
    · skip
      have o3 : okc (fun y => fc (o + y)) m (2 + 7 * j + 3) := okc_3.mpr ⟨by omega, y3⟩
      have b3 : tG (fun y => fc (o + y)) m 2 j ≤ 9 := by show ((cd (fun y => fc (o + y)) m (2 + 7 * j + 3)).toInt - 48).toNat ≤ 9; omega
      refine Ev_st gss ?_
      refine Ev_istore dX12_readsStretch_111 rfl ?_
      refine Ev_iload dX12_readsStretch_113 rfl ?_
      refine Ev_if_ge dX12_readsStretch_115 (fun _ => ?_) (fun c => absurd (nI_pos' (by omega)) c)
      refine Ev_aload_n dX12_readsStretch_123 rfl ?_
      refine Ev_iload_n dX12_readsStretch_124 rfl ?_
      refine Ev_iload_n dX12_readsStretch_125 rfl ?_
      refine Ev_iconst (v := 1) dX12_readsStretch_126 (by decide) ?_
      refine Ev_bipush (v := 9) dX12_readsStretch_127 (by decide) ?_
      refine Ev_bipush (v := (-9)) dX12_readsStretch_129 (by decide) ?_
      refine Ev_callV (bc := 0) (b := 0) dX12_readsStretch_131 cv_X12_117 rfl (gs h31) (Nat.le_of_ble_eq_true rfl) (by omega) ?_
      refine fig_n (p := 2 + 7 * j + 4) (lo := 1) (hi := 9) (gs h31) (gn (by decide) h54) hom (by omega) (by omega) (by omega) (fun z4 => ?_) (fun z4 => ?_)
      · skip
        have o4 : okc (fun y => fc (o + y)) m (2 + 7 * j + 4) := okc_4.mpr (by omega)
        have b4 : tG (fun y => fc (o + y)) m 3 j ≤ 9 := by show ((cd (fun y => fc (o + y)) m (2 + 7 * j + 4)).toInt - 48).toNat ≤ 9; omega
        refine Ev_st gss ?_
        refine Ev_istore dX12_readsStretch_134 rfl ?_
        refine Ev_iload dX12_readsStretch_136 rfl ?_
        refine Ev_if_ge dX12_readsStretch_138 (fun _ => ?_) (fun c => absurd (nI_pos' (by omega)) c)
        refine Ev_aload_n dX12_readsStretch_146 rfl ?_
        refine Ev_iload_n dX12_readsStretch_147 rfl ?_
        refine Ev_iload_n dX12_readsStretch_148 rfl ?_
        refine Ev_iconst (v := 0) dX12_readsStretch_149 (by decide) ?_
        refine Ev_bipush (v := 9) dX12_readsStretch_150 (by decide) ?_
        refine Ev_bipush (v := (-9)) dX12_readsStretch_152 (by decide) ?_
        refine Ev_callV (bc := 0) (b := 0) dX12_readsStretch_154 cv_X12_117 rfl (gs h31) (Nat.le_of_ble_eq_true rfl) (by omega) ?_
        refine fig_n (p := 2 + 7 * j + 5) (lo := 0) (hi := 9) (gs h31) (gn (by decide) h54) hom (by omega) (by omega) (by omega) (fun z5 => ?_) (fun z5 => ?_)
        · skip
          have o5 : okc (fun y => fc (o + y)) m (2 + 7 * j + 5) := okc_5.mpr (by omega)
          have b5 : tG (fun y => fc (o + y)) m 4 j ≤ 9 := by show ((cd (fun y => fc (o + y)) m (2 + 7 * j + 5)).toInt - 48).toNat ≤ 9; omega
          refine Ev_st gss ?_
          refine Ev_istore dX12_readsStretch_157 rfl ?_
          refine Ev_iload dX12_readsStretch_159 rfl ?_
          refine Ev_if_ge dX12_readsStretch_161 (fun _ => ?_) (fun c => absurd (nI_pos' (by omega)) c)
          refine Ev_aload_n dX12_readsStretch_169 rfl ?_
          refine Ev_iload_n dX12_readsStretch_170 rfl ?_
          refine Ev_iload_n dX12_readsStretch_171 rfl ?_
          refine Ev_iconst (v := 0) dX12_readsStretch_172 (by decide) ?_
          refine Ev_bipush (v := 9) dX12_readsStretch_173 (by decide) ?_
          refine Ev_bipush (v := (-9)) dX12_readsStretch_175 (by decide) ?_
          refine Ev_callV (bc := 0) (b := 0) dX12_readsStretch_177 cv_X12_117 rfl (gs h31) (Nat.le_of_ble_eq_true rfl) (by omega) ?_
          refine fig_n (p := 2 + 7 * j + 6) (lo := 0) (hi := 9) (gs h31) (gn (by decide) h54) hom (by omega) (by omega) (by omega) (fun z6 => ?_) (fun z6 => ?_)
          · skip
            have o6 : okc (fun y => fc (o + y)) m (2 + 7 * j + 6) := okc_6.mpr (by omega)
            have b6 : tG (fun y => fc (o + y)) m 5 j ≤ 9 := by show ((cd (fun y => fc (o + y)) m (2 + 7 * j + 6)).toInt - 48).toNat ≤ 9; omega
            refine Ev_st gss ?_
            refine Ev_istore dX12_readsStretch_180 rfl ?_
            refine Ev_iload dX12_readsStretch_182 rfl ?_
            refine Ev_if_ge dX12_readsStretch_184 (fun _ => ?_) (fun c => absurd (nI_pos' (by omega)) c)
            refine Ev_aload_n dX12_readsStretch_189 rfl ?_
            refine Ev_get dX12_readsStretch_190 fg_X12_28_12 (gs h31) rfl ?_
            refine Ev_aload_n dX12_readsStretch_193 rfl ?_
            refine Ev_get dX12_readsStretch_194 fg_X12_111_12 (gs h31) rfl ?_
            refine Ev_iload_n dX12_readsStretch_197 rfl ?_
            refine Ev_bipush (v := 115) dX12_readsStretch_198 (by decide) ?_
            refine Ev_icmp_ne dX12_readsStretch_200 (fun c => absurd (by decide) c) (fun _ => ?_)
            refine Ev_iconst (v := 0) dX12_readsStretch_203 (by decide) ?_
            refine Ev_goto dX12_readsStretch_204 ?_
            refine Ev_iastoreN (j := j) dX12_readsStretch_218 (gn (by decide) (hA 0 (by decide))) (by omega) (by decide) ?_
            refine Ev_aload_n dX12_readsStretch_219 rfl ?_
            refine Ev_get dX12_readsStretch_220 fg_X12_31_12 (gn (by decide) (gs h31)) rfl ?_
            refine Ev_aload_n dX12_readsStretch_223 rfl ?_
            refine Ev_get dX12_readsStretch_224 fg_X12_111_12 (gn (by decide) (gs h31)) rfl ?_
            refine Ev_iload dX12_readsStretch_227 rfl ?_
            refine Ev_iastoreN (j := j) dX12_readsStretch_229 (gn (by decide) (gn (by decide) (hA 1 (by decide)))) (by omega) (by decide) ?_
            refine Ev_aload_n dX12_readsStretch_230 rfl ?_
            refine Ev_get dX12_readsStretch_231 fg_X12_34_12 (gn (by decide) (gn (by decide) (gs h31))) rfl ?_
            refine Ev_aload_n dX12_readsStretch_234 rfl ?_
            refine Ev_get dX12_readsStretch_235 fg_X12_111_12 (gn (by decide) (gn (by decide) (gs h31))) rfl ?_
            refine Ev_iload dX12_readsStretch_238 rfl ?_
            refine Ev_iastoreN (j := j) dX12_readsStretch_240 (gn (by decide) (gn (by decide) (gn (by decide) (hA 2 (by decide))))) (by omega) (by decide) ?_
            refine Ev_aload_n dX12_readsStretch_241 rfl ?_
            refine Ev_get dX12_readsStretch_242 fg_X12_37_12 (gn (by decide) (gn (by decide) (gn (by decide) (gs h31)))) rfl ?_
            refine Ev_aload_n dX12_readsStretch_245 rfl ?_
            refine Ev_get dX12_readsStretch_246 fg_X12_111_12 (gn (by decide) (gn (by decide) (gn (by decide) (gs h31)))) rfl ?_
            refine Ev_iload dX12_readsStretch_249 rfl ?_
            refine Ev_iastoreN (j := j) dX12_readsStretch_251 (gn (by decide) (gn (by decide) (gn (by decide) (gn (by decide) (hA 3 (by decide)))))) (by omega) (by decide) ?_
            refine Ev_aload_n dX12_readsStretch_252 rfl ?_
            refine Ev_get dX12_readsStretch_253 fg_X12_40_12 (gn (by decide) (gn (by decide) (gn (by decide) (gn (by decide) (gs h31))))) rfl ?_
            refine Ev_aload_n dX12_readsStretch_256 rfl ?_
            refine Ev_get dX12_readsStretch_257 fg_X12_111_12 (gn (by decide) (gn (by decide) (gn (by decide) (gn (by decide) (gs h31))))) rfl ?_
            refine Ev_iload dX12_readsStretch_260 rfl ?_
            refine Ev_iastoreN (j := j) dX12_readsStretch_262 (gn (by decide) (gn (by decide) (gn (by decide) (gn (by decide) (gn (by decide) (hA 4 (by decide))))))) (by omega) (by decide) ?_
            refine Ev_aload_n dX12_readsStretch_263 rfl ?_
            refine Ev_get dX12_readsStretch_264 fg_X12_43_12 (gn (by decide) (gn (by decide) (gn (by decide) (gn (by decide) (gn (by decide) (gs h31)))))) rfl ?_
            refine Ev_aload_n dX12_readsStretch_267 rfl ?_
            refine Ev_get dX12_readsStretch_268 fg_X12_111_12 (gn (by decide) (gn (by decide) (gn (by decide) (gn (by decide) (gn (by decide) (gs h31)))))) rfl ?_
            refine Ev_iload dX12_readsStretch_271 rfl ?_
            refine Ev_iastoreN (j := j) dX12_readsStretch_273 (gn (by decide) (gn (by decide) (gn (by decide) (gn (by decide) (gn (by decide) (gn (by decide) (hA 5 (by decide)))))))) (by omega) (by decide) ?_
            refine Ev_aload_n dX12_readsStretch_274 rfl ?_
            refine Ev_dup dX12_readsStretch_275 rfl ?_
            refine Ev_get dX12_readsStretch_276 fg_X12_111_12 (gn (by decide) (gn (by decide) (gn (by decide) (gn (by decide) (gn (by decide) (gn (by decide) (gs h31))))))) rfl ?_
            refine Ev_iconst (v := 1) dX12_readsStretch_279 (by decide) ?_
            refine Ev_iadd dX12_readsStretch_280 ?_
            refine Ev_topi (y := nI (j + 1)) (nI_add _ _) ?_
            refine Ev_put dX12_readsStretch_281 fr_X12_111_12 (gn (by decide) (gn (by decide) (gn (by decide) (gn (by decide) (gn (by decide) (gn (by decide) (gs h31))))))) rfl rfl rfl ?_
            refine Ev_iconst (v := 1) dX12_readsStretch_284 (by decide) ?_
            refine Ev_iret dX12_readsStretch_285 rfl (by decide) ?_
            refine ks _ ?_ ?_ (six ?_ ?_ ?_ ?_ ?_ ?_) ?_
            · exact (FrN.st (FrN.st (FrN.st (FrN.st (FrN.st (FrN.st (FrN.st (FrN.st FrN.rf (by omega)) (by omega)) (by omega)) (by omega)) (by omega)) (by omega)) (by omega)) (by omega))
            · exact (gs (gn (by decide) (gn (by decide) (gn (by decide) (gn (by decide) (gn (by decide) (gn (by decide) (gs h31))))))))
            · rw [hk0]; exact (gn (by decide) (gn (by decide) (gn (by decide) (gn (by decide) (gn (by decide) (gn (by decide) (gs (gn (by decide) (hA 0 (by decide))))))))))
            · exact (gn (by decide) (gn (by decide) (gn (by decide) (gn (by decide) (gn (by decide) (gs (gn (by decide) (gn (by decide) (hA 1 (by decide))))))))))
            · exact (gn (by decide) (gn (by decide) (gn (by decide) (gn (by decide) (gs (gn (by decide) (gn (by decide) (gn (by decide) (hA 2 (by decide))))))))))
            · exact (gn (by decide) (gn (by decide) (gn (by decide) (gs (gn (by decide) (gn (by decide) (gn (by decide) (gn (by decide) (hA 3 (by decide))))))))))
            · exact (gn (by decide) (gn (by decide) (gs (gn (by decide) (gn (by decide) (gn (by decide) (gn (by decide) (gn (by decide) (hA 4 (by decide))))))))))
            · exact (gn (by decide) (gs (gn (by decide) (gn (by decide) (gn (by decide) (gn (by decide) (gn (by decide) (gn (by decide) (hA 5 (by decide))))))))))
            · exact below7 ho o0 o1 o2 o3 o4 o5 o6
          · skip
            have o6 : ¬ okc (fun y => fc (o + y)) m (2 + 7 * j + 6) := fun y => z6 (by have h9 := okc_6.mp y; omega)
            refine Ev_istore dX12_readsStretch_180 rfl ?_
            refine Ev_iload dX12_readsStretch_182 rfl ?_
            refine Ev_if_ge dX12_readsStretch_184 (fun c => absurd c (by decide)) (fun _ => ?_)
            refine Ev_iconst (v := 0) dX12_readsStretch_187 (by decide) ?_
            refine Ev_iret dX12_readsStretch_188 rfl (by decide) ?_
            exact kf (2 + 7 * j + 6) (by omega) (by omega) (below6 ho o0 o1 o2 o3 o4 o5) o6
        · skip
          have o5 : ¬ okc (fun y => fc (o + y)) m (2 + 7 * j + 5) := fun y => z5 (by have h9 := okc_5.mp y; omega)
          refine Ev_istore dX12_readsStretch_157 rfl ?_
          refine Ev_iload dX12_readsStretch_159 rfl ?_
          refine Ev_if_ge dX12_readsStretch_161 (fun c => absurd c (by decide)) (fun _ => ?_)
          refine Ev_bipush (v := (-9)) dX12_readsStretch_164 (by decide) ?_
          refine Ev_goto dX12_readsStretch_166 ?_
          refine Ev_istore dX12_readsStretch_180 rfl ?_
          refine Ev_iload dX12_readsStretch_182 rfl ?_
          refine Ev_if_ge dX12_readsStretch_184 (fun c => absurd c (by decide)) (fun _ => ?_)
          refine Ev_iconst (v := 0) dX12_readsStretch_187 (by decide) ?_
          refine Ev_iret dX12_readsStretch_188 rfl (by decide) ?_
          exact kf (2 + 7 * j + 5) (by omega) (by omega) (below5 ho o0 o1 o2 o3 o4) o5
      · skip
        have o4 : ¬ okc (fun y => fc (o + y)) m (2 + 7 * j + 4) := fun y => z4 (by have h9 := okc_4.mp y; omega)
        refine Ev_istore dX12_readsStretch_134 rfl ?_
        refine Ev_iload dX12_readsStretch_136 rfl ?_
        refine Ev_if_ge dX12_readsStretch_138 (fun c => absurd c (by decide)) (fun _ => ?_)
        refine Ev_bipush (v := (-9)) dX12_readsStretch_141 (by decide) ?_
        refine Ev_goto dX12_readsStretch_143 ?_
        refine Ev_istore dX12_readsStretch_157 rfl ?_
        refine Ev_iload dX12_readsStretch_159 rfl ?_
        refine Ev_if_ge dX12_readsStretch_161 (fun c => absurd c (by decide)) (fun _ => ?_)
        refine Ev_bipush (v := (-9)) dX12_readsStretch_164 (by decide) ?_
        refine Ev_goto dX12_readsStretch_166 ?_
        refine Ev_istore dX12_readsStretch_180 rfl ?_
        refine Ev_iload dX12_readsStretch_182 rfl ?_
        refine Ev_if_ge dX12_readsStretch_184 (fun c => absurd c (by decide)) (fun _ => ?_)
        refine Ev_iconst (v := 0) dX12_readsStretch_187 (by decide) ?_
        refine Ev_iret dX12_readsStretch_188 rfl (by decide) ?_
        exact kf (2 + 7 * j + 4) (by omega) (by omega) (below4 ho o0 o1 o2 o3) o4
    · skip
      have o3 : ¬ okc (fun y => fc (o + y)) m (2 + 7 * j + 3) := fun y => z3 (by have h9 := okc_3.mp y; exact ⟨by omega, h9.2⟩)
      refine Ev_istore dX12_readsStretch_111 rfl ?_
      refine Ev_iload dX12_readsStretch_113 rfl ?_
      refine Ev_if_ge dX12_readsStretch_115 (fun c => absurd c (by decide)) (fun _ => ?_)
      refine Ev_bipush (v := (-9)) dX12_readsStretch_118 (by decide) ?_
      refine Ev_goto dX12_readsStretch_120 ?_
      refine Ev_istore dX12_readsStretch_134 rfl ?_
      refine Ev_iload dX12_readsStretch_136 rfl ?_
      refine Ev_if_ge dX12_readsStretch_138 (fun c => absurd c (by decide)) (fun _ => ?_)
      refine Ev_bipush (v := (-9)) dX12_readsStretch_141 (by decide) ?_
      refine Ev_goto dX12_readsStretch_143 ?_
      refine Ev_istore dX12_readsStretch_157 rfl ?_
      refine Ev_iload dX12_readsStretch_159 rfl ?_
      refine Ev_if_ge dX12_readsStretch_161 (fun c => absurd c (by decide)) (fun _ => ?_)
      refine Ev_bipush (v := (-9)) dX12_readsStretch_164 (by decide) ?_
      refine Ev_goto dX12_readsStretch_166 ?_
      refine Ev_istore dX12_readsStretch_180 rfl ?_
      refine Ev_iload dX12_readsStretch_182 rfl ?_
      refine Ev_if_ge dX12_readsStretch_184 (fun c => absurd c (by decide)) (fun _ => ?_)
      refine Ev_iconst (v := 0) dX12_readsStretch_187 (by decide) ?_
      refine Ev_iret dX12_readsStretch_188 rfl (by decide) ?_
      exact kf (2 + 7 * j + 3) (by omega) (by omega) (below3 ho o0 o1 o2) o3
  · skip
    have o2 : ¬ okc (fun y => fc (o + y)) m (2 + 7 * j + 2) := fun y => z2 (by have h9 := okc_2.mp y; omega)
    refine Ev_istore dX12_readsStretch_84 rfl ?_
    refine Ev_iload dX12_readsStretch_86 rfl ?_
    refine Ev_if_ge dX12_readsStretch_88 (fun c => absurd c (by decide)) (fun _ => ?_)
    refine Ev_bipush (v := (-9)) dX12_readsStretch_91 (by decide) ?_
    refine Ev_goto dX12_readsStretch_93 ?_
    refine Ev_istore dX12_readsStretch_111 rfl ?_
    refine Ev_iload dX12_readsStretch_113 rfl ?_
    refine Ev_if_ge dX12_readsStretch_115 (fun c => absurd c (by decide)) (fun _ => ?_)
    refine Ev_bipush (v := (-9)) dX12_readsStretch_118 (by decide) ?_
    refine Ev_goto dX12_readsStretch_120 ?_
    refine Ev_istore dX12_readsStretch_134 rfl ?_
    refine Ev_iload dX12_readsStretch_136 rfl ?_
    refine Ev_if_ge dX12_readsStretch_138 (fun c => absurd c (by decide)) (fun _ => ?_)
    refine Ev_bipush (v := (-9)) dX12_readsStretch_141 (by decide) ?_
    refine Ev_goto dX12_readsStretch_143 ?_
    refine Ev_istore dX12_readsStretch_157 rfl ?_
    refine Ev_iload dX12_readsStretch_159 rfl ?_
    refine Ev_if_ge dX12_readsStretch_161 (fun c => absurd c (by decide)) (fun _ => ?_)
    refine Ev_bipush (v := (-9)) dX12_readsStretch_164 (by decide) ?_
    refine Ev_goto dX12_readsStretch_166 ?_
    refine Ev_istore dX12_readsStretch_180 rfl ?_
    refine Ev_iload dX12_readsStretch_182 rfl ?_
    refine Ev_if_ge dX12_readsStretch_184 (fun c => absurd c (by decide)) (fun _ => ?_)
    refine Ev_iconst (v := 0) dX12_readsStretch_187 (by decide) ?_
    refine Ev_iret dX12_readsStretch_188 rfl (by decide) ?_
    exact kf (2 + 7 * j + 2) (by omega) (by omega) (below2 ho o0 o1) o2

set_option maxHeartbeats 4000000 in
set_option maxRecDepth 100000 in
theorem c_rs_k1 {d : Nat} {S : aS} {Q : Option Value → aS → Prop} {flt pl0 n0 du lw fr cl ea dp bm rd tr : Int32} {bi : Int64} {pl j : Nat} (h31 : S[31]? = some (mo flt pl0 n0 du lw fr cl (nI (2 + 7 * j)) (nI pl) (nI j) ea dp bm bi rd tr)) {o m : Nat} {fc : Nat → Int32} (h54 : S[54]? = some (iA 240 fc)) (hom : o + m ≤ 240) (hj : j ≤ 8) (hm60 : m ≤ 60) (ho : ∀ y, y < 2 + 7 * j → okc (fun y => fc (o + y)) m y) (ho1 : okc (fun y => fc (o + y)) m 1) (hpl : pl = tP (fun y => fc (o + y)) m) {g : Nat → Nat → Int32} (hA : ∀ f, f < 6 → S[38 + f]? = some (iA 9 (g f))) (hc0 : cd (fun y => fc (o + y)) m (2 + 7 * j) = 59) (hc1 : cd (fun y => fc (o + y)) m (2 + 7 * j + 1) = 109) (kf : ∀ p, 2 + 7 * j ≤ p → p < 2 + 7 * j + 7 → (∀ y, y < p → okc (fun y => fc (o + y)) m y) → ¬ okc (fun y => fc (o + y)) m p → Q (some (.int 0)) (S.set 31 (mo flt pl0 n0 du lw fr cl (nI p) (nI pl) (nI j) ea dp bm bi rd tr))) (ks : ∀ S2, FrN S S2 → S2[31]? = some (mo flt pl0 n0 du lw fr cl (nI (2 + 7 * (j + 1))) (nI pl) (nI (j + 1)) ea dp bm bi rd tr) → (∀ f, f < 6 → S2[38 + f]? = some (iA 9 (upd (g f) j (nI (tG (fun y => fc (o + y)) m f j))))) → (∀ y, y < 2 + 7 * (j + 1) → okc (fun y => fc (o + y)) m y) → Q (some (.int 1)) S2)  : Mth mX12_readsStretch (d + 2) 0 [.ref 31, .int (nI o), .int (nI m)] S Q := by
  have o0 : okc (fun y => fc (o + y)) m (2 + 7 * j) := okc_0.mpr hc0
  have o1 : okc (fun y => fc (o + y)) m (2 + 7 * j + 1) := okc_1.mpr (Or.inr (Or.inl hc1))
  have hb1 := tP_b (ho1 : okc (fun y => fc (o + y)) m 1)
  have hk0 : tG (fun y => fc (o + y)) m 0 j = 1 := (by show (if cd (fun y => fc (o + y)) m (2 + 7 * j + 1) = 115 then 0 else if cd (fun y => fc (o + y)) m (2 + 7 * j + 1) = 109 then 1 else 2) = 1; rw [if_neg (by rw [hc1]; decide), if_pos hc1])
  refine Mth_of (by decide) rfl ?_
  refine Ev_aload_n dX12_readsStretch_0 rfl ?_
  refine Ev_get dX12_readsStretch_1 fg_X12_111_12 h31 rfl ?_
  refine Ev_bipush (v := 9) dX12_readsStretch_4 (by decide) ?_
  refine Ev_icmp_eq dX12_readsStretch_6 (fun c => absurd c (fun z => absurd ((nIinj (b := 9) (by omega) (by omega)).mp z) (by omega))) (fun _ => ?_)
  refine Ev_aload_n dX12_readsStretch_9 rfl ?_
  refine Ev_iload_n dX12_readsStretch_10 rfl ?_
  refine Ev_iload_n dX12_readsStretch_11 rfl ?_
  refine Ev_callV (bc := 0) (b := 0) dX12_readsStretch_12 cv_X12_107 rfl h31 (Nat.le_of_ble_eq_true rfl) (by omega) ?_
  refine c_X12_codeAt (p := 2 + 7 * j) h31 h54 hom (by omega) ?_
  rw [hc0]
  refine Ev_bipush (v := 59) dX12_readsStretch_15 (by decide) ?_
  refine Ev_icmp_eq dX12_readsStretch_17 (fun _ => ?_) (fun c => absurd (by decide) c)
  refine Ev_aload_n dX12_readsStretch_22 rfl ?_
  refine Ev_dup dX12_readsStretch_23 rfl ?_
  refine Ev_get dX12_readsStretch_24 fg_X12_104_12 h31 rfl ?_
  refine Ev_iconst (v := 1) dX12_readsStretch_27 (by decide) ?_
  refine Ev_iadd dX12_readsStretch_28 ?_
  refine Ev_topi (y := nI (2 + 7 * j + 1)) (nI_1 _) ?_
  refine Ev_put dX12_readsStretch_29 fr_X12_104_12 h31 rfl rfl rfl ?_
  refine Ev_aload_n dX12_readsStretch_32 rfl ?_
  refine Ev_iload_n dX12_readsStretch_33 rfl ?_
  refine Ev_iload_n dX12_readsStretch_34 rfl ?_
  refine Ev_callV (bc := 0) (b := 0) dX12_readsStretch_35 cv_X12_107 rfl (gs h31) (Nat.le_of_ble_eq_true rfl) (by omega) ?_
  refine c_X12_codeAt (p := 2 + 7 * j + 1) (gs h31) (gn (by decide) h54) hom (by omega) ?_
  rw [hc1]
  refine Ev_istore_n dX12_readsStretch_38 rfl ?_
  refine Ev_iload_n dX12_readsStretch_39 rfl ?_
  refine Ev_bipush (v := 115) dX12_readsStretch_40 (by decide) ?_
  refine Ev_icmp_eq dX12_readsStretch_42 (fun c => absurd c (by decide)) (fun _ => ?_)
  refine Ev_iload_n dX12_readsStretch_45 rfl ?_
  refine Ev_bipush (v := 109) dX12_readsStretch_46 (by decide) ?_
  refine Ev_icmp_eq dX12_readsStretch_48 (fun _ => ?_) (fun c => absurd (by decide) c)
  refine Ev_aload_n dX12_readsStretch_59 rfl ?_
  refine Ev_dup dX12_readsStretch_60 rfl ?_
  refine Ev_get dX12_readsStretch_61 fg_X12_104_12 (gs h31) rfl ?_
  refine Ev_iconst (v := 1) dX12_readsStretch_64 (by decide) ?_
  refine Ev_iadd dX12_readsStretch_65 ?_
  refine Ev_topi (y := nI (2 + 7 * j + 2)) (nI_1 _) ?_
  refine Ev_put dX12_readsStretch_66 fr_X12_104_12 (gs h31) rfl rfl rfl ?_
  refine Ev_st gss ?_
  refine Ev_aload_n dX12_readsStretch_69 rfl ?_
  refine Ev_iload_n dX12_readsStretch_70 rfl ?_
  refine Ev_iload_n dX12_readsStretch_71 rfl ?_
  refine Ev_iconst (v := 0) dX12_readsStretch_72 (by decide) ?_
  refine Ev_aload_n dX12_readsStretch_73 rfl ?_
  refine Ev_get dX12_readsStretch_74 fg_X12_114_12 (gs h31) rfl ?_
  refine Ev_iconst (v := 1) dX12_readsStretch_77 (by decide) ?_
  refine Ev_isub dX12_readsStretch_78 ?_
  refine Ev_topi (y := nI (pl - 1)) (nsub (b := 1) (by omega)) ?_
  refine Ev_bipush (v := (-9)) dX12_readsStretch_79 (by decide) ?_
  refine Ev_callV (bc := 0) (b := 0) dX12_readsStretch_81 cv_X12_117 rfl (gs h31) (Nat.le_of_ble_eq_true rfl) (by omega) ?_
  refine fig_n (p := 2 + 7 * j + 2) (lo := 0) (hi := pl - 1) (gs h31) (gn (by decide) h54) hom (by omega) (by omega) (by omega) (fun z2 => ?_) (fun z2 => ?_)
  · skip
    have o2 : okc (fun y => fc (o + y)) m (2 + 7 * j + 2) := okc_2.mpr (by omega)
    have b2 : tG (fun y => fc (o + y)) m 1 j ≤ 9 := by show ((cd (fun y => fc (o + y)) m (2 + 7 * j + 2)).toInt - 48).toNat ≤ 9; omega
    refine Ev_st gss ?_
    refine Ev_istore dX12_readsStretch_84 rfl ?_
    refine Ev_iload dX12_readsStretch_86 rfl ?_
    refine Ev_if_ge dX12_readsStretch_88 (fun _ => ?_) (fun c => absurd (nI_pos' (by omega)) c)
    refine Ev_aload_n dX12_readsStretch_96 rfl ?_
    refine Ev_iload_n dX12_readsStretch_97 rfl ?_
    refine Ev_iload_n dX12_readsStretch_98 rfl ?_
    refine Ev_iconst (v := 0) dX12_readsStretch_99 (by decide) ?_
    refine Ev_aload_n dX12_readsStretch_100 rfl ?_
    refine Ev_get dX12_readsStretch_101 fg_X12_114_12 (gs h31) rfl ?_
    refine Ev_iconst (v := 1) dX12_readsStretch_104 (by decide) ?_
    refine Ev_isub dX12_readsStretch_105 ?_
    refine Ev_topi (y := nI (pl - 1)) (nsub (b := 1) (by omega)) ?_
    refine Ev_iload dX12_readsStretch_106 rfl ?_
    refine Ev_callV (bc := 0) (b := 0) dX12_readsStretch_108 cv_X12_117 rfl (gs h31) (Nat.le_of_ble_eq_true rfl) (by omega) ?_
    refine fig_b (p := 2 + 7 * j + 3) (lo := 0) (hi := pl - 1) (gs h31) (gn (by decide) h54) hom (by omega) (by omega) (by omega) (b0 := cd (fun y => fc (o + y)) m (2 + 7 * j + 2)) (dig (by omega)).symm (fun z3 y3 => ?_) (fun z3 => ?_)
    · skip
      have o3 : okc (fun y => fc (o + y)) m (2 + 7 * j + 3) := okc_3.mpr ⟨by omega, y3⟩
      have b3 : tG (fun y => fc (o + y)) m 2 j ≤ 9 := by show ((cd (fun y => fc (o + y)) m (2 + 7 * j + 3)).toInt - 48).toNat ≤ 9; omega
      refine Ev_st gss ?_
      refine Ev_istore dX12_readsStretch_111 rfl ?_
      refine Ev_iload dX12_readsStretch_113 rfl ?_
      refine Ev_if_ge dX12_readsStretch_115 (fun _ => ?_) (fun c => absurd (nI_pos' (by omega)) c)
      refine Ev_aload_n dX12_readsStretch_123 rfl ?_
      refine Ev_iload_n dX12_readsStretch_124 rfl ?_
      refine Ev_iload_n dX12_readsStretch_125 rfl ?_
      refine Ev_iconst (v := 1) dX12_readsStretch_126 (by decide) ?_
      refine Ev_bipush (v := 9) dX12_readsStretch_127 (by decide) ?_
      refine Ev_bipush (v := (-9)) dX12_readsStretch_129 (by decide) ?_
      refine Ev_callV (bc := 0) (b := 0) dX12_readsStretch_131 cv_X12_117 rfl (gs h31) (Nat.le_of_ble_eq_true rfl) (by omega) ?_
      refine fig_n (p := 2 + 7 * j + 4) (lo := 1) (hi := 9) (gs h31) (gn (by decide) h54) hom (by omega) (by omega) (by omega) (fun z4 => ?_) (fun z4 => ?_)
      · skip
        have o4 : okc (fun y => fc (o + y)) m (2 + 7 * j + 4) := okc_4.mpr (by omega)
        have b4 : tG (fun y => fc (o + y)) m 3 j ≤ 9 := by show ((cd (fun y => fc (o + y)) m (2 + 7 * j + 4)).toInt - 48).toNat ≤ 9; omega
        refine Ev_st gss ?_
        refine Ev_istore dX12_readsStretch_134 rfl ?_
        refine Ev_iload dX12_readsStretch_136 rfl ?_
        refine Ev_if_ge dX12_readsStretch_138 (fun _ => ?_) (fun c => absurd (nI_pos' (by omega)) c)
        refine Ev_aload_n dX12_readsStretch_146 rfl ?_
        refine Ev_iload_n dX12_readsStretch_147 rfl ?_
        refine Ev_iload_n dX12_readsStretch_148 rfl ?_
        refine Ev_iconst (v := 0) dX12_readsStretch_149 (by decide) ?_
        refine Ev_bipush (v := 9) dX12_readsStretch_150 (by decide) ?_
        refine Ev_bipush (v := (-9)) dX12_readsStretch_152 (by decide) ?_
        refine Ev_callV (bc := 0) (b := 0) dX12_readsStretch_154 cv_X12_117 rfl (gs h31) (Nat.le_of_ble_eq_true rfl) (by omega) ?_
        refine fig_n (p := 2 + 7 * j + 5) (lo := 0) (hi := 9) (gs h31) (gn (by decide) h54) hom (by omega) (by omega) (by omega) (fun z5 => ?_) (fun z5 => ?_)
        · skip
          have o5 : okc (fun y => fc (o + y)) m (2 + 7 * j + 5) := okc_5.mpr (by omega)
          have b5 : tG (fun y => fc (o + y)) m 4 j ≤ 9 := by show ((cd (fun y => fc (o + y)) m (2 + 7 * j + 5)).toInt - 48).toNat ≤ 9; omega
          refine Ev_st gss ?_
          refine Ev_istore dX12_readsStretch_157 rfl ?_
          refine Ev_iload dX12_readsStretch_159 rfl ?_
          refine Ev_if_ge dX12_readsStretch_161 (fun _ => ?_) (fun c => absurd (nI_pos' (by omega)) c)
          refine Ev_aload_n dX12_readsStretch_169 rfl ?_
          refine Ev_iload_n dX12_readsStretch_170 rfl ?_
          refine Ev_iload_n dX12_readsStretch_171 rfl ?_
          refine Ev_iconst (v := 0) dX12_readsStretch_172 (by decide) ?_
          refine Ev_bipush (v := 9) dX12_readsStretch_173 (by decide) ?_
          refine Ev_bipush (v := (-9)) dX12_readsStretch_175 (by decide) ?_
          refine Ev_callV (bc := 0) (b := 0) dX12_readsStretch_177 cv_X12_117 rfl (gs h31) (Nat.le_of_ble_eq_true rfl) (by omega) ?_
          refine fig_n (p := 2 + 7 * j + 6) (lo := 0) (hi := 9) (gs h31) (gn (by decide) h54) hom (by omega) (by omega) (by omega) (fun z6 => ?_) (fun z6 => ?_)
          · skip
            have o6 : okc (fun y => fc (o + y)) m (2 + 7 * j + 6) := okc_6.mpr (by omega)
            have b6 : tG (fun y => fc (o + y)) m 5 j ≤ 9 := by show ((cd (fun y => fc (o + y)) m (2 + 7 * j + 6)).toInt - 48).toNat ≤ 9; omega
            refine Ev_st gss ?_
            refine Ev_istore dX12_readsStretch_180 rfl ?_
            refine Ev_iload dX12_readsStretch_182 rfl ?_
            refine Ev_if_ge dX12_readsStretch_184 (fun _ => ?_) (fun c => absurd (nI_pos' (by omega)) c)
            refine Ev_aload_n dX12_readsStretch_189 rfl ?_
            refine Ev_get dX12_readsStretch_190 fg_X12_28_12 (gs h31) rfl ?_
            refine Ev_aload_n dX12_readsStretch_193 rfl ?_
            refine Ev_get dX12_readsStretch_194 fg_X12_111_12 (gs h31) rfl ?_
            refine Ev_iload_n dX12_readsStretch_197 rfl ?_
            refine Ev_bipush (v := 115) dX12_readsStretch_198 (by decide) ?_
            refine Ev_icmp_ne dX12_readsStretch_200 (fun _ => ?_) (fun c => absurd c (by decide))
            refine Ev_iload_n dX12_readsStretch_207 rfl ?_
            refine Ev_bipush (v := 109) dX12_readsStretch_208 (by decide) ?_
            refine Ev_icmp_ne dX12_readsStretch_210 (fun c => absurd (by decide) c) (fun _ => ?_)
            refine Ev_iconst (v := 1) dX12_readsStretch_213 (by decide) ?_
            refine Ev_goto dX12_readsStretch_214 ?_
            refine Ev_iastoreN (j := j) dX12_readsStretch_218 (gn (by decide) (hA 0 (by decide))) (by omega) (by decide) ?_
            refine Ev_aload_n dX12_readsStretch_219 rfl ?_
            refine Ev_get dX12_readsStretch_220 fg_X12_31_12 (gn (by decide) (gs h31)) rfl ?_
            refine Ev_aload_n dX12_readsStretch_223 rfl ?_
            refine Ev_get dX12_readsStretch_224 fg_X12_111_12 (gn (by decide) (gs h31)) rfl ?_
            refine Ev_iload dX12_readsStretch_227 rfl ?_
            refine Ev_iastoreN (j := j) dX12_readsStretch_229 (gn (by decide) (gn (by decide) (hA 1 (by decide)))) (by omega) (by decide) ?_
            refine Ev_aload_n dX12_readsStretch_230 rfl ?_
            refine Ev_get dX12_readsStretch_231 fg_X12_34_12 (gn (by decide) (gn (by decide) (gs h31))) rfl ?_
            refine Ev_aload_n dX12_readsStretch_234 rfl ?_
            refine Ev_get dX12_readsStretch_235 fg_X12_111_12 (gn (by decide) (gn (by decide) (gs h31))) rfl ?_
            refine Ev_iload dX12_readsStretch_238 rfl ?_
            refine Ev_iastoreN (j := j) dX12_readsStretch_240 (gn (by decide) (gn (by decide) (gn (by decide) (hA 2 (by decide))))) (by omega) (by decide) ?_
            refine Ev_aload_n dX12_readsStretch_241 rfl ?_
            refine Ev_get dX12_readsStretch_242 fg_X12_37_12 (gn (by decide) (gn (by decide) (gn (by decide) (gs h31)))) rfl ?_
            refine Ev_aload_n dX12_readsStretch_245 rfl ?_
            refine Ev_get dX12_readsStretch_246 fg_X12_111_12 (gn (by decide) (gn (by decide) (gn (by decide) (gs h31)))) rfl ?_
            refine Ev_iload dX12_readsStretch_249 rfl ?_
            refine Ev_iastoreN (j := j) dX12_readsStretch_251 (gn (by decide) (gn (by decide) (gn (by decide) (gn (by decide) (hA 3 (by decide)))))) (by omega) (by decide) ?_
            refine Ev_aload_n dX12_readsStretch_252 rfl ?_
            refine Ev_get dX12_readsStretch_253 fg_X12_40_12 (gn (by decide) (gn (by decide) (gn (by decide) (gn (by decide) (gs h31))))) rfl ?_
            refine Ev_aload_n dX12_readsStretch_256 rfl ?_
            refine Ev_get dX12_readsStretch_257 fg_X12_111_12 (gn (by decide) (gn (by decide) (gn (by decide) (gn (by decide) (gs h31))))) rfl ?_
            refine Ev_iload dX12_readsStretch_260 rfl ?_
            refine Ev_iastoreN (j := j) dX12_readsStretch_262 (gn (by decide) (gn (by decide) (gn (by decide) (gn (by decide) (gn (by decide) (hA 4 (by decide))))))) (by omega) (by decide) ?_
            refine Ev_aload_n dX12_readsStretch_263 rfl ?_
            refine Ev_get dX12_readsStretch_264 fg_X12_43_12 (gn (by decide) (gn (by decide) (gn (by decide) (gn (by decide) (gn (by decide) (gs h31)))))) rfl ?_
            refine Ev_aload_n dX12_readsStretch_267 rfl ?_
            refine Ev_get dX12_readsStretch_268 fg_X12_111_12 (gn (by decide) (gn (by decide) (gn (by decide) (gn (by decide) (gn (by decide) (gs h31)))))) rfl ?_
            refine Ev_iload dX12_readsStretch_271 rfl ?_
            refine Ev_iastoreN (j := j) dX12_readsStretch_273 (gn (by decide) (gn (by decide) (gn (by decide) (gn (by decide) (gn (by decide) (gn (by decide) (hA 5 (by decide)))))))) (by omega) (by decide) ?_
            refine Ev_aload_n dX12_readsStretch_274 rfl ?_
            refine Ev_dup dX12_readsStretch_275 rfl ?_
            refine Ev_get dX12_readsStretch_276 fg_X12_111_12 (gn (by decide) (gn (by decide) (gn (by decide) (gn (by decide) (gn (by decide) (gn (by decide) (gs h31))))))) rfl ?_
            refine Ev_iconst (v := 1) dX12_readsStretch_279 (by decide) ?_
            refine Ev_iadd dX12_readsStretch_280 ?_
            refine Ev_topi (y := nI (j + 1)) (nI_add _ _) ?_
            refine Ev_put dX12_readsStretch_281 fr_X12_111_12 (gn (by decide) (gn (by decide) (gn (by decide) (gn (by decide) (gn (by decide) (gn (by decide) (gs h31))))))) rfl rfl rfl ?_
            refine Ev_iconst (v := 1) dX12_readsStretch_284 (by decide) ?_
            refine Ev_iret dX12_readsStretch_285 rfl (by decide) ?_
            refine ks _ ?_ ?_ (six ?_ ?_ ?_ ?_ ?_ ?_) ?_
            · exact (FrN.st (FrN.st (FrN.st (FrN.st (FrN.st (FrN.st (FrN.st (FrN.st FrN.rf (by omega)) (by omega)) (by omega)) (by omega)) (by omega)) (by omega)) (by omega)) (by omega))
            · exact (gs (gn (by decide) (gn (by decide) (gn (by decide) (gn (by decide) (gn (by decide) (gn (by decide) (gs h31))))))))
            · rw [hk0]; exact (gn (by decide) (gn (by decide) (gn (by decide) (gn (by decide) (gn (by decide) (gn (by decide) (gs (gn (by decide) (hA 0 (by decide))))))))))
            · exact (gn (by decide) (gn (by decide) (gn (by decide) (gn (by decide) (gn (by decide) (gs (gn (by decide) (gn (by decide) (hA 1 (by decide))))))))))
            · exact (gn (by decide) (gn (by decide) (gn (by decide) (gn (by decide) (gs (gn (by decide) (gn (by decide) (gn (by decide) (hA 2 (by decide))))))))))
            · exact (gn (by decide) (gn (by decide) (gn (by decide) (gs (gn (by decide) (gn (by decide) (gn (by decide) (gn (by decide) (hA 3 (by decide))))))))))
            · exact (gn (by decide) (gn (by decide) (gs (gn (by decide) (gn (by decide) (gn (by decide) (gn (by decide) (gn (by decide) (hA 4 (by decide))))))))))
            · exact (gn (by decide) (gs (gn (by decide) (gn (by decide) (gn (by decide) (gn (by decide) (gn (by decide) (gn (by decide) (hA 5 (by decide))))))))))
            · exact below7 ho o0 o1 o2 o3 o4 o5 o6
          · skip
            have o6 : ¬ okc (fun y => fc (o + y)) m (2 + 7 * j + 6) := fun y => z6 (by have h9 := okc_6.mp y; omega)
            refine Ev_istore dX12_readsStretch_180 rfl ?_
            refine Ev_iload dX12_readsStretch_182 rfl ?_
            refine Ev_if_ge dX12_readsStretch_184 (fun c => absurd c (by decide)) (fun _ => ?_)
            refine Ev_iconst (v := 0) dX12_readsStretch_187 (by decide) ?_
            refine Ev_iret dX12_readsStretch_188 rfl (by decide) ?_
            exact kf (2 + 7 * j + 6) (by omega) (by omega) (below6 ho o0 o1 o2 o3 o4 o5) o6
        · skip
          have o5 : ¬ okc (fun y => fc (o + y)) m (2 + 7 * j + 5) := fun y => z5 (by have h9 := okc_5.mp y; omega)
          refine Ev_istore dX12_readsStretch_157 rfl ?_
          refine Ev_iload dX12_readsStretch_159 rfl ?_
          refine Ev_if_ge dX12_readsStretch_161 (fun c => absurd c (by decide)) (fun _ => ?_)
          refine Ev_bipush (v := (-9)) dX12_readsStretch_164 (by decide) ?_
          refine Ev_goto dX12_readsStretch_166 ?_
          refine Ev_istore dX12_readsStretch_180 rfl ?_
          refine Ev_iload dX12_readsStretch_182 rfl ?_
          refine Ev_if_ge dX12_readsStretch_184 (fun c => absurd c (by decide)) (fun _ => ?_)
          refine Ev_iconst (v := 0) dX12_readsStretch_187 (by decide) ?_
          refine Ev_iret dX12_readsStretch_188 rfl (by decide) ?_
          exact kf (2 + 7 * j + 5) (by omega) (by omega) (below5 ho o0 o1 o2 o3 o4) o5
      · skip
        have o4 : ¬ okc (fun y => fc (o + y)) m (2 + 7 * j + 4) := fun y => z4 (by have h9 := okc_4.mp y; omega)
        refine Ev_istore dX12_readsStretch_134 rfl ?_
        refine Ev_iload dX12_readsStretch_136 rfl ?_
        refine Ev_if_ge dX12_readsStretch_138 (fun c => absurd c (by decide)) (fun _ => ?_)
        refine Ev_bipush (v := (-9)) dX12_readsStretch_141 (by decide) ?_
        refine Ev_goto dX12_readsStretch_143 ?_
        refine Ev_istore dX12_readsStretch_157 rfl ?_
        refine Ev_iload dX12_readsStretch_159 rfl ?_
        refine Ev_if_ge dX12_readsStretch_161 (fun c => absurd c (by decide)) (fun _ => ?_)
        refine Ev_bipush (v := (-9)) dX12_readsStretch_164 (by decide) ?_
        refine Ev_goto dX12_readsStretch_166 ?_
        refine Ev_istore dX12_readsStretch_180 rfl ?_
        refine Ev_iload dX12_readsStretch_182 rfl ?_
        refine Ev_if_ge dX12_readsStretch_184 (fun c => absurd c (by decide)) (fun _ => ?_)
        refine Ev_iconst (v := 0) dX12_readsStretch_187 (by decide) ?_
        refine Ev_iret dX12_readsStretch_188 rfl (by decide) ?_
        exact kf (2 + 7 * j + 4) (by omega) (by omega) (below4 ho o0 o1 o2 o3) o4
    · skip
      have o3 : ¬ okc (fun y => fc (o + y)) m (2 + 7 * j + 3) := fun y => z3 (by have h9 := okc_3.mp y; exact ⟨by omega, h9.2⟩)
      refine Ev_istore dX12_readsStretch_111 rfl ?_
      refine Ev_iload dX12_readsStretch_113 rfl ?_
      refine Ev_if_ge dX12_readsStretch_115 (fun c => absurd c (by decide)) (fun _ => ?_)
      refine Ev_bipush (v := (-9)) dX12_readsStretch_118 (by decide) ?_
      refine Ev_goto dX12_readsStretch_120 ?_
      refine Ev_istore dX12_readsStretch_134 rfl ?_
      refine Ev_iload dX12_readsStretch_136 rfl ?_
      refine Ev_if_ge dX12_readsStretch_138 (fun c => absurd c (by decide)) (fun _ => ?_)
      refine Ev_bipush (v := (-9)) dX12_readsStretch_141 (by decide) ?_
      refine Ev_goto dX12_readsStretch_143 ?_
      refine Ev_istore dX12_readsStretch_157 rfl ?_
      refine Ev_iload dX12_readsStretch_159 rfl ?_
      refine Ev_if_ge dX12_readsStretch_161 (fun c => absurd c (by decide)) (fun _ => ?_)
      refine Ev_bipush (v := (-9)) dX12_readsStretch_164 (by decide) ?_
      refine Ev_goto dX12_readsStretch_166 ?_
      refine Ev_istore dX12_readsStretch_180 rfl ?_
      refine Ev_iload dX12_readsStretch_182 rfl ?_
      refine Ev_if_ge dX12_readsStretch_184 (fun c => absurd c (by decide)) (fun _ => ?_)
      refine Ev_iconst (v := 0) dX12_readsStretch_187 (by decide) ?_
      refine Ev_iret dX12_readsStretch_188 rfl (by decide) ?_
      exact kf (2 + 7 * j + 3) (by omega) (by omega) (below3 ho o0 o1 o2) o3
  · skip
    have o2 : ¬ okc (fun y => fc (o + y)) m (2 + 7 * j + 2) := fun y => z2 (by have h9 := okc_2.mp y; omega)
    refine Ev_istore dX12_readsStretch_84 rfl ?_
    refine Ev_iload dX12_readsStretch_86 rfl ?_
    refine Ev_if_ge dX12_readsStretch_88 (fun c => absurd c (by decide)) (fun _ => ?_)
    refine Ev_bipush (v := (-9)) dX12_readsStretch_91 (by decide) ?_
    refine Ev_goto dX12_readsStretch_93 ?_
    refine Ev_istore dX12_readsStretch_111 rfl ?_
    refine Ev_iload dX12_readsStretch_113 rfl ?_
    refine Ev_if_ge dX12_readsStretch_115 (fun c => absurd c (by decide)) (fun _ => ?_)
    refine Ev_bipush (v := (-9)) dX12_readsStretch_118 (by decide) ?_
    refine Ev_goto dX12_readsStretch_120 ?_
    refine Ev_istore dX12_readsStretch_134 rfl ?_
    refine Ev_iload dX12_readsStretch_136 rfl ?_
    refine Ev_if_ge dX12_readsStretch_138 (fun c => absurd c (by decide)) (fun _ => ?_)
    refine Ev_bipush (v := (-9)) dX12_readsStretch_141 (by decide) ?_
    refine Ev_goto dX12_readsStretch_143 ?_
    refine Ev_istore dX12_readsStretch_157 rfl ?_
    refine Ev_iload dX12_readsStretch_159 rfl ?_
    refine Ev_if_ge dX12_readsStretch_161 (fun c => absurd c (by decide)) (fun _ => ?_)
    refine Ev_bipush (v := (-9)) dX12_readsStretch_164 (by decide) ?_
    refine Ev_goto dX12_readsStretch_166 ?_
    refine Ev_istore dX12_readsStretch_180 rfl ?_
    refine Ev_iload dX12_readsStretch_182 rfl ?_
    refine Ev_if_ge dX12_readsStretch_184 (fun c => absurd c (by decide)) (fun _ => ?_)
    refine Ev_iconst (v := 0) dX12_readsStretch_187 (by decide) ?_
    refine Ev_iret dX12_readsStretch_188 rfl (by decide) ?_
    exact kf (2 + 7 * j + 2) (by omega) (by omega) (below2 ho o0 o1) o2

set_option maxHeartbeats 4000000 in
set_option maxRecDepth 100000 in
theorem c_rs_k2 {d : Nat} {S : aS} {Q : Option Value → aS → Prop} {flt pl0 n0 du lw fr cl ea dp bm rd tr : Int32} {bi : Int64} {pl j : Nat} (h31 : S[31]? = some (mo flt pl0 n0 du lw fr cl (nI (2 + 7 * j)) (nI pl) (nI j) ea dp bm bi rd tr)) {o m : Nat} {fc : Nat → Int32} (h54 : S[54]? = some (iA 240 fc)) (hom : o + m ≤ 240) (hj : j ≤ 8) (hm60 : m ≤ 60) (ho : ∀ y, y < 2 + 7 * j → okc (fun y => fc (o + y)) m y) (ho1 : okc (fun y => fc (o + y)) m 1) (hpl : pl = tP (fun y => fc (o + y)) m) {g : Nat → Nat → Int32} (hA : ∀ f, f < 6 → S[38 + f]? = some (iA 9 (g f))) (hc0 : cd (fun y => fc (o + y)) m (2 + 7 * j) = 59) (hc1 : cd (fun y => fc (o + y)) m (2 + 7 * j + 1) = 112) (kf : ∀ p, 2 + 7 * j ≤ p → p < 2 + 7 * j + 7 → (∀ y, y < p → okc (fun y => fc (o + y)) m y) → ¬ okc (fun y => fc (o + y)) m p → Q (some (.int 0)) (S.set 31 (mo flt pl0 n0 du lw fr cl (nI p) (nI pl) (nI j) ea dp bm bi rd tr))) (ks : ∀ S2, FrN S S2 → S2[31]? = some (mo flt pl0 n0 du lw fr cl (nI (2 + 7 * (j + 1))) (nI pl) (nI (j + 1)) ea dp bm bi rd tr) → (∀ f, f < 6 → S2[38 + f]? = some (iA 9 (upd (g f) j (nI (tG (fun y => fc (o + y)) m f j))))) → (∀ y, y < 2 + 7 * (j + 1) → okc (fun y => fc (o + y)) m y) → Q (some (.int 1)) S2)  : Mth mX12_readsStretch (d + 2) 0 [.ref 31, .int (nI o), .int (nI m)] S Q := by
  have o0 : okc (fun y => fc (o + y)) m (2 + 7 * j) := okc_0.mpr hc0
  have o1 : okc (fun y => fc (o + y)) m (2 + 7 * j + 1) := okc_1.mpr (Or.inr (Or.inr hc1))
  have hb1 := tP_b (ho1 : okc (fun y => fc (o + y)) m 1)
  have hk0 : tG (fun y => fc (o + y)) m 0 j = 2 := (by show (if cd (fun y => fc (o + y)) m (2 + 7 * j + 1) = 115 then 0 else if cd (fun y => fc (o + y)) m (2 + 7 * j + 1) = 109 then 1 else 2) = 2; rw [if_neg (by rw [hc1]; decide), if_neg (by rw [hc1]; decide)])
  refine Mth_of (by decide) rfl ?_
  refine Ev_aload_n dX12_readsStretch_0 rfl ?_
  refine Ev_get dX12_readsStretch_1 fg_X12_111_12 h31 rfl ?_
  refine Ev_bipush (v := 9) dX12_readsStretch_4 (by decide) ?_
  refine Ev_icmp_eq dX12_readsStretch_6 (fun c => absurd c (fun z => absurd ((nIinj (b := 9) (by omega) (by omega)).mp z) (by omega))) (fun _ => ?_)
  refine Ev_aload_n dX12_readsStretch_9 rfl ?_
  refine Ev_iload_n dX12_readsStretch_10 rfl ?_
  refine Ev_iload_n dX12_readsStretch_11 rfl ?_
  refine Ev_callV (bc := 0) (b := 0) dX12_readsStretch_12 cv_X12_107 rfl h31 (Nat.le_of_ble_eq_true rfl) (by omega) ?_
  refine c_X12_codeAt (p := 2 + 7 * j) h31 h54 hom (by omega) ?_
  rw [hc0]
  refine Ev_bipush (v := 59) dX12_readsStretch_15 (by decide) ?_
  refine Ev_icmp_eq dX12_readsStretch_17 (fun _ => ?_) (fun c => absurd (by decide) c)
  refine Ev_aload_n dX12_readsStretch_22 rfl ?_
  refine Ev_dup dX12_readsStretch_23 rfl ?_
  refine Ev_get dX12_readsStretch_24 fg_X12_104_12 h31 rfl ?_
  refine Ev_iconst (v := 1) dX12_readsStretch_27 (by decide) ?_
  refine Ev_iadd dX12_readsStretch_28 ?_
  refine Ev_topi (y := nI (2 + 7 * j + 1)) (nI_1 _) ?_
  refine Ev_put dX12_readsStretch_29 fr_X12_104_12 h31 rfl rfl rfl ?_
  refine Ev_aload_n dX12_readsStretch_32 rfl ?_
  refine Ev_iload_n dX12_readsStretch_33 rfl ?_
  refine Ev_iload_n dX12_readsStretch_34 rfl ?_
  refine Ev_callV (bc := 0) (b := 0) dX12_readsStretch_35 cv_X12_107 rfl (gs h31) (Nat.le_of_ble_eq_true rfl) (by omega) ?_
  refine c_X12_codeAt (p := 2 + 7 * j + 1) (gs h31) (gn (by decide) h54) hom (by omega) ?_
  rw [hc1]
  refine Ev_istore_n dX12_readsStretch_38 rfl ?_
  refine Ev_iload_n dX12_readsStretch_39 rfl ?_
  refine Ev_bipush (v := 115) dX12_readsStretch_40 (by decide) ?_
  refine Ev_icmp_eq dX12_readsStretch_42 (fun c => absurd c (by decide)) (fun _ => ?_)
  refine Ev_iload_n dX12_readsStretch_45 rfl ?_
  refine Ev_bipush (v := 109) dX12_readsStretch_46 (by decide) ?_
  refine Ev_icmp_eq dX12_readsStretch_48 (fun c => absurd c (by decide)) (fun _ => ?_)
  refine Ev_iload_n dX12_readsStretch_51 rfl ?_
  refine Ev_bipush (v := 112) dX12_readsStretch_52 (by decide) ?_
  refine Ev_icmp_eq dX12_readsStretch_54 (fun _ => ?_) (fun c => absurd (by decide) c)
  refine Ev_aload_n dX12_readsStretch_59 rfl ?_
  refine Ev_dup dX12_readsStretch_60 rfl ?_
  refine Ev_get dX12_readsStretch_61 fg_X12_104_12 (gs h31) rfl ?_
  refine Ev_iconst (v := 1) dX12_readsStretch_64 (by decide) ?_
  refine Ev_iadd dX12_readsStretch_65 ?_
  refine Ev_topi (y := nI (2 + 7 * j + 2)) (nI_1 _) ?_
  refine Ev_put dX12_readsStretch_66 fr_X12_104_12 (gs h31) rfl rfl rfl ?_
  refine Ev_st gss ?_
  refine Ev_aload_n dX12_readsStretch_69 rfl ?_
  refine Ev_iload_n dX12_readsStretch_70 rfl ?_
  refine Ev_iload_n dX12_readsStretch_71 rfl ?_
  refine Ev_iconst (v := 0) dX12_readsStretch_72 (by decide) ?_
  refine Ev_aload_n dX12_readsStretch_73 rfl ?_
  refine Ev_get dX12_readsStretch_74 fg_X12_114_12 (gs h31) rfl ?_
  refine Ev_iconst (v := 1) dX12_readsStretch_77 (by decide) ?_
  refine Ev_isub dX12_readsStretch_78 ?_
  refine Ev_topi (y := nI (pl - 1)) (nsub (b := 1) (by omega)) ?_
  refine Ev_bipush (v := (-9)) dX12_readsStretch_79 (by decide) ?_
  refine Ev_callV (bc := 0) (b := 0) dX12_readsStretch_81 cv_X12_117 rfl (gs h31) (Nat.le_of_ble_eq_true rfl) (by omega) ?_
  refine fig_n (p := 2 + 7 * j + 2) (lo := 0) (hi := pl - 1) (gs h31) (gn (by decide) h54) hom (by omega) (by omega) (by omega) (fun z2 => ?_) (fun z2 => ?_)
  · skip
    have o2 : okc (fun y => fc (o + y)) m (2 + 7 * j + 2) := okc_2.mpr (by omega)
    have b2 : tG (fun y => fc (o + y)) m 1 j ≤ 9 := by show ((cd (fun y => fc (o + y)) m (2 + 7 * j + 2)).toInt - 48).toNat ≤ 9; omega
    refine Ev_st gss ?_
    refine Ev_istore dX12_readsStretch_84 rfl ?_
    refine Ev_iload dX12_readsStretch_86 rfl ?_
    refine Ev_if_ge dX12_readsStretch_88 (fun _ => ?_) (fun c => absurd (nI_pos' (by omega)) c)
    refine Ev_aload_n dX12_readsStretch_96 rfl ?_
    refine Ev_iload_n dX12_readsStretch_97 rfl ?_
    refine Ev_iload_n dX12_readsStretch_98 rfl ?_
    refine Ev_iconst (v := 0) dX12_readsStretch_99 (by decide) ?_
    refine Ev_aload_n dX12_readsStretch_100 rfl ?_
    refine Ev_get dX12_readsStretch_101 fg_X12_114_12 (gs h31) rfl ?_
    refine Ev_iconst (v := 1) dX12_readsStretch_104 (by decide) ?_
    refine Ev_isub dX12_readsStretch_105 ?_
    refine Ev_topi (y := nI (pl - 1)) (nsub (b := 1) (by omega)) ?_
    refine Ev_iload dX12_readsStretch_106 rfl ?_
    refine Ev_callV (bc := 0) (b := 0) dX12_readsStretch_108 cv_X12_117 rfl (gs h31) (Nat.le_of_ble_eq_true rfl) (by omega) ?_
    refine fig_b (p := 2 + 7 * j + 3) (lo := 0) (hi := pl - 1) (gs h31) (gn (by decide) h54) hom (by omega) (by omega) (by omega) (b0 := cd (fun y => fc (o + y)) m (2 + 7 * j + 2)) (dig (by omega)).symm (fun z3 y3 => ?_) (fun z3 => ?_)
    · skip
      have o3 : okc (fun y => fc (o + y)) m (2 + 7 * j + 3) := okc_3.mpr ⟨by omega, y3⟩
      have b3 : tG (fun y => fc (o + y)) m 2 j ≤ 9 := by show ((cd (fun y => fc (o + y)) m (2 + 7 * j + 3)).toInt - 48).toNat ≤ 9; omega
      refine Ev_st gss ?_
      refine Ev_istore dX12_readsStretch_111 rfl ?_
      refine Ev_iload dX12_readsStretch_113 rfl ?_
      refine Ev_if_ge dX12_readsStretch_115 (fun _ => ?_) (fun c => absurd (nI_pos' (by omega)) c)
      refine Ev_aload_n dX12_readsStretch_123 rfl ?_
      refine Ev_iload_n dX12_readsStretch_124 rfl ?_
      refine Ev_iload_n dX12_readsStretch_125 rfl ?_
      refine Ev_iconst (v := 1) dX12_readsStretch_126 (by decide) ?_
      refine Ev_bipush (v := 9) dX12_readsStretch_127 (by decide) ?_
      refine Ev_bipush (v := (-9)) dX12_readsStretch_129 (by decide) ?_
      refine Ev_callV (bc := 0) (b := 0) dX12_readsStretch_131 cv_X12_117 rfl (gs h31) (Nat.le_of_ble_eq_true rfl) (by omega) ?_
      refine fig_n (p := 2 + 7 * j + 4) (lo := 1) (hi := 9) (gs h31) (gn (by decide) h54) hom (by omega) (by omega) (by omega) (fun z4 => ?_) (fun z4 => ?_)
      · skip
        have o4 : okc (fun y => fc (o + y)) m (2 + 7 * j + 4) := okc_4.mpr (by omega)
        have b4 : tG (fun y => fc (o + y)) m 3 j ≤ 9 := by show ((cd (fun y => fc (o + y)) m (2 + 7 * j + 4)).toInt - 48).toNat ≤ 9; omega
        refine Ev_st gss ?_
        refine Ev_istore dX12_readsStretch_134 rfl ?_
        refine Ev_iload dX12_readsStretch_136 rfl ?_
        refine Ev_if_ge dX12_readsStretch_138 (fun _ => ?_) (fun c => absurd (nI_pos' (by omega)) c)
        refine Ev_aload_n dX12_readsStretch_146 rfl ?_
        refine Ev_iload_n dX12_readsStretch_147 rfl ?_
        refine Ev_iload_n dX12_readsStretch_148 rfl ?_
        refine Ev_iconst (v := 0) dX12_readsStretch_149 (by decide) ?_
        refine Ev_bipush (v := 9) dX12_readsStretch_150 (by decide) ?_
        refine Ev_bipush (v := (-9)) dX12_readsStretch_152 (by decide) ?_
        refine Ev_callV (bc := 0) (b := 0) dX12_readsStretch_154 cv_X12_117 rfl (gs h31) (Nat.le_of_ble_eq_true rfl) (by omega) ?_
        refine fig_n (p := 2 + 7 * j + 5) (lo := 0) (hi := 9) (gs h31) (gn (by decide) h54) hom (by omega) (by omega) (by omega) (fun z5 => ?_) (fun z5 => ?_)
        · skip
          have o5 : okc (fun y => fc (o + y)) m (2 + 7 * j + 5) := okc_5.mpr (by omega)
          have b5 : tG (fun y => fc (o + y)) m 4 j ≤ 9 := by show ((cd (fun y => fc (o + y)) m (2 + 7 * j + 5)).toInt - 48).toNat ≤ 9; omega
          refine Ev_st gss ?_
          refine Ev_istore dX12_readsStretch_157 rfl ?_
          refine Ev_iload dX12_readsStretch_159 rfl ?_
          refine Ev_if_ge dX12_readsStretch_161 (fun _ => ?_) (fun c => absurd (nI_pos' (by omega)) c)
          refine Ev_aload_n dX12_readsStretch_169 rfl ?_
          refine Ev_iload_n dX12_readsStretch_170 rfl ?_
          refine Ev_iload_n dX12_readsStretch_171 rfl ?_
          refine Ev_iconst (v := 0) dX12_readsStretch_172 (by decide) ?_
          refine Ev_bipush (v := 9) dX12_readsStretch_173 (by decide) ?_
          refine Ev_bipush (v := (-9)) dX12_readsStretch_175 (by decide) ?_
          refine Ev_callV (bc := 0) (b := 0) dX12_readsStretch_177 cv_X12_117 rfl (gs h31) (Nat.le_of_ble_eq_true rfl) (by omega) ?_
          refine fig_n (p := 2 + 7 * j + 6) (lo := 0) (hi := 9) (gs h31) (gn (by decide) h54) hom (by omega) (by omega) (by omega) (fun z6 => ?_) (fun z6 => ?_)
          · skip
            have o6 : okc (fun y => fc (o + y)) m (2 + 7 * j + 6) := okc_6.mpr (by omega)
            have b6 : tG (fun y => fc (o + y)) m 5 j ≤ 9 := by show ((cd (fun y => fc (o + y)) m (2 + 7 * j + 6)).toInt - 48).toNat ≤ 9; omega
            refine Ev_st gss ?_
            refine Ev_istore dX12_readsStretch_180 rfl ?_
            refine Ev_iload dX12_readsStretch_182 rfl ?_
            refine Ev_if_ge dX12_readsStretch_184 (fun _ => ?_) (fun c => absurd (nI_pos' (by omega)) c)
            refine Ev_aload_n dX12_readsStretch_189 rfl ?_
            refine Ev_get dX12_readsStretch_190 fg_X12_28_12 (gs h31) rfl ?_
            refine Ev_aload_n dX12_readsStretch_193 rfl ?_
            refine Ev_get dX12_readsStretch_194 fg_X12_111_12 (gs h31) rfl ?_
            refine Ev_iload_n dX12_readsStretch_197 rfl ?_
            refine Ev_bipush (v := 115) dX12_readsStretch_198 (by decide) ?_
            refine Ev_icmp_ne dX12_readsStretch_200 (fun _ => ?_) (fun c => absurd c (by decide))
            refine Ev_iload_n dX12_readsStretch_207 rfl ?_
            refine Ev_bipush (v := 109) dX12_readsStretch_208 (by decide) ?_
            refine Ev_icmp_ne dX12_readsStretch_210 (fun _ => ?_) (fun c => absurd c (by decide))
            refine Ev_iconst (v := 2) dX12_readsStretch_217 (by decide) ?_
            refine Ev_iastoreN (j := j) dX12_readsStretch_218 (gn (by decide) (hA 0 (by decide))) (by omega) (by decide) ?_
            refine Ev_aload_n dX12_readsStretch_219 rfl ?_
            refine Ev_get dX12_readsStretch_220 fg_X12_31_12 (gn (by decide) (gs h31)) rfl ?_
            refine Ev_aload_n dX12_readsStretch_223 rfl ?_
            refine Ev_get dX12_readsStretch_224 fg_X12_111_12 (gn (by decide) (gs h31)) rfl ?_
            refine Ev_iload dX12_readsStretch_227 rfl ?_
            refine Ev_iastoreN (j := j) dX12_readsStretch_229 (gn (by decide) (gn (by decide) (hA 1 (by decide)))) (by omega) (by decide) ?_
            refine Ev_aload_n dX12_readsStretch_230 rfl ?_
            refine Ev_get dX12_readsStretch_231 fg_X12_34_12 (gn (by decide) (gn (by decide) (gs h31))) rfl ?_
            refine Ev_aload_n dX12_readsStretch_234 rfl ?_
            refine Ev_get dX12_readsStretch_235 fg_X12_111_12 (gn (by decide) (gn (by decide) (gs h31))) rfl ?_
            refine Ev_iload dX12_readsStretch_238 rfl ?_
            refine Ev_iastoreN (j := j) dX12_readsStretch_240 (gn (by decide) (gn (by decide) (gn (by decide) (hA 2 (by decide))))) (by omega) (by decide) ?_
            refine Ev_aload_n dX12_readsStretch_241 rfl ?_
            refine Ev_get dX12_readsStretch_242 fg_X12_37_12 (gn (by decide) (gn (by decide) (gn (by decide) (gs h31)))) rfl ?_
            refine Ev_aload_n dX12_readsStretch_245 rfl ?_
            refine Ev_get dX12_readsStretch_246 fg_X12_111_12 (gn (by decide) (gn (by decide) (gn (by decide) (gs h31)))) rfl ?_
            refine Ev_iload dX12_readsStretch_249 rfl ?_
            refine Ev_iastoreN (j := j) dX12_readsStretch_251 (gn (by decide) (gn (by decide) (gn (by decide) (gn (by decide) (hA 3 (by decide)))))) (by omega) (by decide) ?_
            refine Ev_aload_n dX12_readsStretch_252 rfl ?_
            refine Ev_get dX12_readsStretch_253 fg_X12_40_12 (gn (by decide) (gn (by decide) (gn (by decide) (gn (by decide) (gs h31))))) rfl ?_
            refine Ev_aload_n dX12_readsStretch_256 rfl ?_
            refine Ev_get dX12_readsStretch_257 fg_X12_111_12 (gn (by decide) (gn (by decide) (gn (by decide) (gn (by decide) (gs h31))))) rfl ?_
            refine Ev_iload dX12_readsStretch_260 rfl ?_
            refine Ev_iastoreN (j := j) dX12_readsStretch_262 (gn (by decide) (gn (by decide) (gn (by decide) (gn (by decide) (gn (by decide) (hA 4 (by decide))))))) (by omega) (by decide) ?_
            refine Ev_aload_n dX12_readsStretch_263 rfl ?_
            refine Ev_get dX12_readsStretch_264 fg_X12_43_12 (gn (by decide) (gn (by decide) (gn (by decide) (gn (by decide) (gn (by decide) (gs h31)))))) rfl ?_
            refine Ev_aload_n dX12_readsStretch_267 rfl ?_
            refine Ev_get dX12_readsStretch_268 fg_X12_111_12 (gn (by decide) (gn (by decide) (gn (by decide) (gn (by decide) (gn (by decide) (gs h31)))))) rfl ?_
            refine Ev_iload dX12_readsStretch_271 rfl ?_
            refine Ev_iastoreN (j := j) dX12_readsStretch_273 (gn (by decide) (gn (by decide) (gn (by decide) (gn (by decide) (gn (by decide) (gn (by decide) (hA 5 (by decide)))))))) (by omega) (by decide) ?_
            refine Ev_aload_n dX12_readsStretch_274 rfl ?_
            refine Ev_dup dX12_readsStretch_275 rfl ?_
            refine Ev_get dX12_readsStretch_276 fg_X12_111_12 (gn (by decide) (gn (by decide) (gn (by decide) (gn (by decide) (gn (by decide) (gn (by decide) (gs h31))))))) rfl ?_
            refine Ev_iconst (v := 1) dX12_readsStretch_279 (by decide) ?_
            refine Ev_iadd dX12_readsStretch_280 ?_
            refine Ev_topi (y := nI (j + 1)) (nI_add _ _) ?_
            refine Ev_put dX12_readsStretch_281 fr_X12_111_12 (gn (by decide) (gn (by decide) (gn (by decide) (gn (by decide) (gn (by decide) (gn (by decide) (gs h31))))))) rfl rfl rfl ?_
            refine Ev_iconst (v := 1) dX12_readsStretch_284 (by decide) ?_
            refine Ev_iret dX12_readsStretch_285 rfl (by decide) ?_
            refine ks _ ?_ ?_ (six ?_ ?_ ?_ ?_ ?_ ?_) ?_
            · exact (FrN.st (FrN.st (FrN.st (FrN.st (FrN.st (FrN.st (FrN.st (FrN.st FrN.rf (by omega)) (by omega)) (by omega)) (by omega)) (by omega)) (by omega)) (by omega)) (by omega))
            · exact (gs (gn (by decide) (gn (by decide) (gn (by decide) (gn (by decide) (gn (by decide) (gn (by decide) (gs h31))))))))
            · rw [hk0]; exact (gn (by decide) (gn (by decide) (gn (by decide) (gn (by decide) (gn (by decide) (gn (by decide) (gs (gn (by decide) (hA 0 (by decide))))))))))
            · exact (gn (by decide) (gn (by decide) (gn (by decide) (gn (by decide) (gn (by decide) (gs (gn (by decide) (gn (by decide) (hA 1 (by decide))))))))))
            · exact (gn (by decide) (gn (by decide) (gn (by decide) (gn (by decide) (gs (gn (by decide) (gn (by decide) (gn (by decide) (hA 2 (by decide))))))))))
            · exact (gn (by decide) (gn (by decide) (gn (by decide) (gs (gn (by decide) (gn (by decide) (gn (by decide) (gn (by decide) (hA 3 (by decide))))))))))
            · exact (gn (by decide) (gn (by decide) (gs (gn (by decide) (gn (by decide) (gn (by decide) (gn (by decide) (gn (by decide) (hA 4 (by decide))))))))))
            · exact (gn (by decide) (gs (gn (by decide) (gn (by decide) (gn (by decide) (gn (by decide) (gn (by decide) (gn (by decide) (hA 5 (by decide))))))))))
            · exact below7 ho o0 o1 o2 o3 o4 o5 o6
          · skip
            have o6 : ¬ okc (fun y => fc (o + y)) m (2 + 7 * j + 6) := fun y => z6 (by have h9 := okc_6.mp y; omega)
            refine Ev_istore dX12_readsStretch_180 rfl ?_
            refine Ev_iload dX12_readsStretch_182 rfl ?_
            refine Ev_if_ge dX12_readsStretch_184 (fun c => absurd c (by decide)) (fun _ => ?_)
            refine Ev_iconst (v := 0) dX12_readsStretch_187 (by decide) ?_
            refine Ev_iret dX12_readsStretch_188 rfl (by decide) ?_
            exact kf (2 + 7 * j + 6) (by omega) (by omega) (below6 ho o0 o1 o2 o3 o4 o5) o6
        · skip
          have o5 : ¬ okc (fun y => fc (o + y)) m (2 + 7 * j + 5) := fun y => z5 (by have h9 := okc_5.mp y; omega)
          refine Ev_istore dX12_readsStretch_157 rfl ?_
          refine Ev_iload dX12_readsStretch_159 rfl ?_
          refine Ev_if_ge dX12_readsStretch_161 (fun c => absurd c (by decide)) (fun _ => ?_)
          refine Ev_bipush (v := (-9)) dX12_readsStretch_164 (by decide) ?_
          refine Ev_goto dX12_readsStretch_166 ?_
          refine Ev_istore dX12_readsStretch_180 rfl ?_
          refine Ev_iload dX12_readsStretch_182 rfl ?_
          refine Ev_if_ge dX12_readsStretch_184 (fun c => absurd c (by decide)) (fun _ => ?_)
          refine Ev_iconst (v := 0) dX12_readsStretch_187 (by decide) ?_
          refine Ev_iret dX12_readsStretch_188 rfl (by decide) ?_
          exact kf (2 + 7 * j + 5) (by omega) (by omega) (below5 ho o0 o1 o2 o3 o4) o5
      · skip
        have o4 : ¬ okc (fun y => fc (o + y)) m (2 + 7 * j + 4) := fun y => z4 (by have h9 := okc_4.mp y; omega)
        refine Ev_istore dX12_readsStretch_134 rfl ?_
        refine Ev_iload dX12_readsStretch_136 rfl ?_
        refine Ev_if_ge dX12_readsStretch_138 (fun c => absurd c (by decide)) (fun _ => ?_)
        refine Ev_bipush (v := (-9)) dX12_readsStretch_141 (by decide) ?_
        refine Ev_goto dX12_readsStretch_143 ?_
        refine Ev_istore dX12_readsStretch_157 rfl ?_
        refine Ev_iload dX12_readsStretch_159 rfl ?_
        refine Ev_if_ge dX12_readsStretch_161 (fun c => absurd c (by decide)) (fun _ => ?_)
        refine Ev_bipush (v := (-9)) dX12_readsStretch_164 (by decide) ?_
        refine Ev_goto dX12_readsStretch_166 ?_
        refine Ev_istore dX12_readsStretch_180 rfl ?_
        refine Ev_iload dX12_readsStretch_182 rfl ?_
        refine Ev_if_ge dX12_readsStretch_184 (fun c => absurd c (by decide)) (fun _ => ?_)
        refine Ev_iconst (v := 0) dX12_readsStretch_187 (by decide) ?_
        refine Ev_iret dX12_readsStretch_188 rfl (by decide) ?_
        exact kf (2 + 7 * j + 4) (by omega) (by omega) (below4 ho o0 o1 o2 o3) o4
    · skip
      have o3 : ¬ okc (fun y => fc (o + y)) m (2 + 7 * j + 3) := fun y => z3 (by have h9 := okc_3.mp y; exact ⟨by omega, h9.2⟩)
      refine Ev_istore dX12_readsStretch_111 rfl ?_
      refine Ev_iload dX12_readsStretch_113 rfl ?_
      refine Ev_if_ge dX12_readsStretch_115 (fun c => absurd c (by decide)) (fun _ => ?_)
      refine Ev_bipush (v := (-9)) dX12_readsStretch_118 (by decide) ?_
      refine Ev_goto dX12_readsStretch_120 ?_
      refine Ev_istore dX12_readsStretch_134 rfl ?_
      refine Ev_iload dX12_readsStretch_136 rfl ?_
      refine Ev_if_ge dX12_readsStretch_138 (fun c => absurd c (by decide)) (fun _ => ?_)
      refine Ev_bipush (v := (-9)) dX12_readsStretch_141 (by decide) ?_
      refine Ev_goto dX12_readsStretch_143 ?_
      refine Ev_istore dX12_readsStretch_157 rfl ?_
      refine Ev_iload dX12_readsStretch_159 rfl ?_
      refine Ev_if_ge dX12_readsStretch_161 (fun c => absurd c (by decide)) (fun _ => ?_)
      refine Ev_bipush (v := (-9)) dX12_readsStretch_164 (by decide) ?_
      refine Ev_goto dX12_readsStretch_166 ?_
      refine Ev_istore dX12_readsStretch_180 rfl ?_
      refine Ev_iload dX12_readsStretch_182 rfl ?_
      refine Ev_if_ge dX12_readsStretch_184 (fun c => absurd c (by decide)) (fun _ => ?_)
      refine Ev_iconst (v := 0) dX12_readsStretch_187 (by decide) ?_
      refine Ev_iret dX12_readsStretch_188 rfl (by decide) ?_
      exact kf (2 + 7 * j + 3) (by omega) (by omega) (below3 ho o0 o1 o2) o3
  · skip
    have o2 : ¬ okc (fun y => fc (o + y)) m (2 + 7 * j + 2) := fun y => z2 (by have h9 := okc_2.mp y; omega)
    refine Ev_istore dX12_readsStretch_84 rfl ?_
    refine Ev_iload dX12_readsStretch_86 rfl ?_
    refine Ev_if_ge dX12_readsStretch_88 (fun c => absurd c (by decide)) (fun _ => ?_)
    refine Ev_bipush (v := (-9)) dX12_readsStretch_91 (by decide) ?_
    refine Ev_goto dX12_readsStretch_93 ?_
    refine Ev_istore dX12_readsStretch_111 rfl ?_
    refine Ev_iload dX12_readsStretch_113 rfl ?_
    refine Ev_if_ge dX12_readsStretch_115 (fun c => absurd c (by decide)) (fun _ => ?_)
    refine Ev_bipush (v := (-9)) dX12_readsStretch_118 (by decide) ?_
    refine Ev_goto dX12_readsStretch_120 ?_
    refine Ev_istore dX12_readsStretch_134 rfl ?_
    refine Ev_iload dX12_readsStretch_136 rfl ?_
    refine Ev_if_ge dX12_readsStretch_138 (fun c => absurd c (by decide)) (fun _ => ?_)
    refine Ev_bipush (v := (-9)) dX12_readsStretch_141 (by decide) ?_
    refine Ev_goto dX12_readsStretch_143 ?_
    refine Ev_istore dX12_readsStretch_157 rfl ?_
    refine Ev_iload dX12_readsStretch_159 rfl ?_
    refine Ev_if_ge dX12_readsStretch_161 (fun c => absurd c (by decide)) (fun _ => ?_)
    refine Ev_bipush (v := (-9)) dX12_readsStretch_164 (by decide) ?_
    refine Ev_goto dX12_readsStretch_166 ?_
    refine Ev_istore dX12_readsStretch_180 rfl ?_
    refine Ev_iload dX12_readsStretch_182 rfl ?_
    refine Ev_if_ge dX12_readsStretch_184 (fun c => absurd c (by decide)) (fun _ => ?_)
    refine Ev_iconst (v := 0) dX12_readsStretch_187 (by decide) ?_
    refine Ev_iret dX12_readsStretch_188 rfl (by decide) ?_
    exact kf (2 + 7 * j + 2) (by omega) (by omega) (below2 ho o0 o1) o2

theorem c_rs {d : Nat} {S : aS} {Q : Option Value → aS → Prop} {flt pl0 n0 du lw fr cl ea dp bm rd tr : Int32} {bi : Int64} {pl j : Nat} (h31 : S[31]? = some (mo flt pl0 n0 du lw fr cl (nI (2 + 7 * j)) (nI pl) (nI j) ea dp bm bi rd tr)) {o m : Nat} {fc : Nat → Int32} (h54 : S[54]? = some (iA 240 fc)) (hom : o + m ≤ 240) (hj : j ≤ 8) (hm60 : m ≤ 60) (ho : ∀ y, y < 2 + 7 * j → okc (fun y => fc (o + y)) m y) (ho1 : okc (fun y => fc (o + y)) m 1) (hpl : pl = tP (fun y => fc (o + y)) m) {g : Nat → Nat → Int32} (hA : ∀ f, f < 6 → S[38 + f]? = some (iA 9 (g f))) (kf : ∀ p, 2 + 7 * j ≤ p → p < 2 + 7 * j + 7 → (∀ y, y < p → okc (fun y => fc (o + y)) m y) → ¬ okc (fun y => fc (o + y)) m p → Q (some (.int 0)) (S.set 31 (mo flt pl0 n0 du lw fr cl (nI p) (nI pl) (nI j) ea dp bm bi rd tr))) (ks : ∀ S2, FrN S S2 → S2[31]? = some (mo flt pl0 n0 du lw fr cl (nI (2 + 7 * (j + 1))) (nI pl) (nI (j + 1)) ea dp bm bi rd tr) → (∀ f, f < 6 → S2[38 + f]? = some (iA 9 (upd (g f) j (nI (tG (fun y => fc (o + y)) m f j))))) → (∀ y, y < 2 + 7 * (j + 1) → okc (fun y => fc (o + y)) m y) → Q (some (.int 1)) S2) : Mth mX12_readsStretch (d + 2) 0 [.ref 31, .int (nI o), .int (nI m)] S Q := by
  by_cases h0 : cd (fun y => fc (o + y)) m (2 + 7 * j) = 59
  case neg =>
    refine c_rs_a h31 h54 hom hj hm60 ho hpl h0 ?_
    have hk := kf (2 + 7 * j) (Nat.le_refl _) (by omega) ho (fun z => h0 (okc_0.mp z))
    rw [gid h31] at hk
    exact hk
  by_cases h1 : cd (fun y => fc (o + y)) m (2 + 7 * j + 1) = 115 ∨ cd (fun y => fc (o + y)) m (2 + 7 * j + 1) = 109 ∨ cd (fun y => fc (o + y)) m (2 + 7 * j + 1) = 112
  case neg =>
    exact c_rs_b h31 h54 hom hj hm60 ho hpl h0 h1 (kf (2 + 7 * j + 1) (by omega) (by omega) (fun y hy => by by_cases e : y < 2 + 7 * j; (exact ho y e); (obtain rfl : y = 2 + 7 * j := by omega); exact okc_0.mpr h0) (fun z => h1 (okc_1.mp z)))
  rcases h1 with h1 | h1 | h1
  · exact c_rs_k0 h31 h54 hom hj hm60 ho ho1 hpl hA h0 h1 kf ks
  · exact c_rs_k1 h31 h54 hom hj hm60 ho ho1 hpl hA h0 h1 kf ks
  · exact c_rs_k2 h31 h54 hom hj hm60 ho ho1 hpl hA h0 h1 kf ks

