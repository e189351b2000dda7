/-! ===== the reference reads a net ===== -/
def AR (S : aS) (c : Nat → Int32) (m j : Nat) : Prop := ∀ f, f < 6 → ∃ g : Nat → Int32, S[38 + f]? = some (iA 9 g) ∧ ∀ i, i < j → g i = nI (tG c m f i)
theorem AR.of {S2 : aS} {c : Nat → Int32} {m j : Nat} {g : Nat → Nat → Int32} (hg : ∀ f, f < 6 → ∀ i, i < j → g f i = nI (tG c m f i)) (h : ∀ f, f < 6 → S2[38 + f]? = some (iA 9 (upd (g f) j (nI (tG c m f j))))) : AR S2 c m (j + 1) := by
  intro f hf
  refine ⟨_, h f hf, fun i hi => ?_⟩
  by_cases e : i = j
  · subst e; rw [upd_s]
  · rw [upd_n _ _ e]; exact hg f hf i (by omega)
theorem AR.lo {S : aS} {c : Nat → Int32} {m j : Nat} (h : AR S c m j) : AR S c m 0 := by
  intro f hf
  obtain ⟨g, h1, -⟩ := h f hf
  exact ⟨g, h1, fun i hi => absurd hi (Nat.not_lt_zero i)⟩
theorem AR.st {S : aS} {c : Nat → Int32} {m j : Nat} {e : aE} (h : AR S c m j) : AR (S.set 31 e) c m j := by
  intro f hf
  obtain ⟨g, h1, h2⟩ := h f hf
  exact ⟨g, gn (by omega) h1, h2⟩
theorem okc_le {c : Nat → Int32} {m p : Nat} (h : ∀ y, y < p → okc c m y) : p ≤ m := by
  cases p with
  | zero => exact Nat.zero_le _
  | succ p => exact okc_lt (h p (Nat.lt_succ_self p))

set_option maxHeartbeats 4000000 in
set_option maxRecDepth 100000 in
theorem c_rn_a {d : Nat} {S : aS} {Q : Option Value → aS → Prop} {flt pl0 n0 du lw fr cl ea dp bm rd tr : Int32} {bi : Int64} {ra rp rs : Int32} (h31 : S[31]? = some (mo flt pl0 n0 du lw fr cl ra rp rs ea dp bm bi rd tr)) {o m : Nat} {fc : Nat → Int32} (h54 : S[54]? = some (iA 240 fc)) (hom : o + m ≤ 240) (hm60 : m ≤ 60) (hA : AR S (fun y => fc (o + y)) m 0) (h0 : ¬ cd (fun y => fc (o + y)) m 0 = 110) (kf : ∀ (p : Nat) (S2 : aS) (rp rs : Int32), FFa (fun y => fc (o + y)) m p → FrN S S2 → S2[31]? = some (mo flt pl0 n0 du lw fr cl (nI p) rp rs ea dp bm bi rd tr) → AR S2 (fun y => fc (o + y)) m 0 → Q (some (.int 0)) S2)  : Mth mX12_readsNet (d + 3) 0 [.ref 31, .int (nI o), .int (nI m)] S Q := by
  refine Mth_of (by decide) rfl ?_
  refine Ev_aload_n dX12_readsNet_0 rfl ?_
  refine Ev_iconst (v := 0) dX12_readsNet_1 (by decide) ?_
  refine Ev_put dX12_readsNet_2 fr_X12_104_12 h31 rfl rfl rfl ?_
  refine Ev_aload_n dX12_readsNet_5 rfl ?_
  refine Ev_iconst (v := 0) dX12_readsNet_6 (by decide) ?_
  refine Ev_put dX12_readsNet_7 fr_X12_111_12 (gs h31) rfl rfl rfl ?_
  refine Ev_st gss ?_
  refine Ev_aload_n dX12_readsNet_10 rfl ?_
  refine Ev_iload_n dX12_readsNet_11 rfl ?_
  refine Ev_iload_n dX12_readsNet_12 rfl ?_
  refine Ev_callV (bc := 0) (b := 0) dX12_readsNet_13 cv_X12_107 rfl (gs h31) (Nat.le_of_ble_eq_true rfl) (by omega) ?_
  refine c_X12_codeAt (p := 0) (gs h31) (gn (by decide) h54) hom (by omega) ?_
  refine Ev_bipush (v := 110) dX12_readsNet_16 (by decide) ?_
  refine Ev_icmp_ne dX12_readsNet_18 (fun _ => ?_) (fun c => absurd c h0)
  refine Ev_iconst (v := 0) dX12_readsNet_25 (by decide) ?_
  refine Ev_istore_n dX12_readsNet_26 rfl ?_
  refine Ev_aload_n dX12_readsNet_27 rfl ?_
  refine Ev_dup dX12_readsNet_28 rfl ?_
  refine Ev_get dX12_readsNet_29 fg_X12_104_12 (gs h31) rfl ?_
  refine Ev_iload_n dX12_readsNet_32 rfl ?_
  refine Ev_if_eq dX12_readsNet_33 (fun _ => ?_) (fun c => absurd (by decide) c)
  refine Ev_iconst (v := 0) dX12_readsNet_40 (by decide) ?_
  refine Ev_iadd dX12_readsNet_41 ?_
  refine Ev_topi (y := 0) (by decide) ?_
  refine Ev_put dX12_readsNet_42 fr_X12_104_12 (gs h31) rfl rfl rfl ?_
  refine Ev_st gss ?_
  refine Ev_aload_n dX12_readsNet_45 rfl ?_
  refine Ev_iload_n dX12_readsNet_46 rfl ?_
  refine Ev_if_eq dX12_readsNet_47 (fun _ => ?_) (fun c => absurd (by decide) c)
  refine Ev_bipush (v := (-9)) dX12_readsNet_64 (by decide) ?_
  refine Ev_put dX12_readsNet_66 fr_X12_114_12 (gs h31) rfl rfl rfl ?_
  refine Ev_st gss ?_
  refine Ev_aload_n dX12_readsNet_69 rfl ?_
  refine Ev_get dX12_readsNet_70 fg_X12_114_12 (gs h31) rfl ?_
  refine Ev_if_le dX12_readsNet_73 (fun _ => ?_) (fun c => absurd (by decide) c)
  refine Ev_iconst (v := 0) dX12_readsNet_80 (by decide) ?_
  refine Ev_istore_n dX12_readsNet_81 rfl ?_
  refine Ev_iload_n dX12_readsNet_82 rfl ?_
  refine Ev_if_eq dX12_readsNet_83 (fun _ => ?_) (fun c => absurd (by decide) c)
  refine Ev_iload_n dX12_readsNet_111 rfl ?_
  refine Ev_iret dX12_readsNet_112 rfl (by decide) ?_
  exact kf 0 _ _ _ ⟨fun y hy => absurd hy (Nat.not_lt_zero y), fun z => h0 (okc_a.mp z), Nat.zero_le _, fun z => by omega⟩ (FrN.st FrN.rf (by omega)) (gs h31) hA.st

set_option maxHeartbeats 4000000 in
set_option maxRecDepth 100000 in
theorem c_rn_b {d : Nat} {S : aS} {Q : Option Value → aS → Prop} {flt pl0 n0 du lw fr cl ea dp bm rd tr : Int32} {bi : Int64} {ra rp rs : Int32} (h31 : S[31]? = some (mo flt pl0 n0 du lw fr cl ra rp rs ea dp bm bi rd tr)) {o m : Nat} {fc : Nat → Int32} (h54 : S[54]? = some (iA 240 fc)) (hom : o + m ≤ 240) (hm60 : m ≤ 60) (hA : AR S (fun y => fc (o + y)) m 0) (h0 : cd (fun y => fc (o + y)) m 0 = 110) (h1 : ¬ (50 ≤ (cd (fun y => fc (o + y)) m 1).toInt ∧ (cd (fun y => fc (o + y)) m 1).toInt ≤ 55)) (kf : ∀ (p : Nat) (S2 : aS) (rp rs : Int32), FFa (fun y => fc (o + y)) m p → FrN S S2 → S2[31]? = some (mo flt pl0 n0 du lw fr cl (nI p) rp rs ea dp bm bi rd tr) → AR S2 (fun y => fc (o + y)) m 0 → Q (some (.int 0)) S2)  : Mth mX12_readsNet (d + 3) 0 [.ref 31, .int (nI o), .int (nI m)] S Q := by
  refine Mth_of (by decide) rfl ?_
  refine Ev_aload_n dX12_readsNet_0 rfl ?_
  refine Ev_iconst (v := 0) dX12_readsNet_1 (by decide) ?_
  refine Ev_put dX12_readsNet_2 fr_X12_104_12 h31 rfl rfl rfl ?_
  refine Ev_aload_n dX12_readsNet_5 rfl ?_
  refine Ev_iconst (v := 0) dX12_readsNet_6 (by decide) ?_
  refine Ev_put dX12_readsNet_7 fr_X12_111_12 (gs h31) rfl rfl rfl ?_
  refine Ev_st gss ?_
  refine Ev_aload_n dX12_readsNet_10 rfl ?_
  refine Ev_iload_n dX12_readsNet_11 rfl ?_
  refine Ev_iload_n dX12_readsNet_12 rfl ?_
  refine Ev_callV (bc := 0) (b := 0) dX12_readsNet_13 cv_X12_107 rfl (gs h31) (Nat.le_of_ble_eq_true rfl) (by omega) ?_
  refine c_X12_codeAt (p := 0) (gs h31) (gn (by decide) h54) hom (by omega) ?_
  refine Ev_bipush (v := 110) dX12_readsNet_16 (by decide) ?_
  refine Ev_icmp_ne dX12_readsNet_18 (fun c => absurd h0 c) (fun _ => ?_)
  refine Ev_iconst (v := 1) dX12_readsNet_21 (by decide) ?_
  refine Ev_goto dX12_readsNet_22 ?_
  refine Ev_istore_n dX12_readsNet_26 rfl ?_
  refine Ev_aload_n dX12_readsNet_27 rfl ?_
  refine Ev_dup dX12_readsNet_28 rfl ?_
  refine Ev_get dX12_readsNet_29 fg_X12_104_12 (gs h31) rfl ?_
  refine Ev_iload_n dX12_readsNet_32 rfl ?_
  refine Ev_if_eq dX12_readsNet_33 (fun c => absurd c (by decide)) (fun _ => ?_)
  refine Ev_iconst (v := 1) dX12_readsNet_36 (by decide) ?_
  refine Ev_goto dX12_readsNet_37 ?_
  refine Ev_iadd dX12_readsNet_41 ?_
  refine Ev_topi (y := 1) (by decide) ?_
  refine Ev_put dX12_readsNet_42 fr_X12_104_12 (gs h31) rfl rfl rfl ?_
  refine Ev_st gss ?_
  refine Ev_aload_n dX12_readsNet_45 rfl ?_
  refine Ev_iload_n dX12_readsNet_46 rfl ?_
  refine Ev_if_eq dX12_readsNet_47 (fun c => absurd c (by decide)) (fun _ => ?_)
  refine Ev_aload_n dX12_readsNet_50 rfl ?_
  refine Ev_iload_n dX12_readsNet_51 rfl ?_
  refine Ev_iload_n dX12_readsNet_52 rfl ?_
  refine Ev_iconst (v := 2) dX12_readsNet_53 (by decide) ?_
  refine Ev_bipush (v := 7) dX12_readsNet_54 (by decide) ?_
  refine Ev_bipush (v := (-9)) dX12_readsNet_56 (by decide) ?_
  refine Ev_callV (bc := 0) (b := 0) dX12_readsNet_58 cv_X12_117 rfl (gs h31) (Nat.le_of_ble_eq_true rfl) (by omega) ?_
  refine fig_n (p := 1) (lo := 2) (hi := 7) (gs h31) (gn (by decide) h54) hom (by omega) (by omega) (by omega) (fun z => absurd (by omega) h1) (fun z => ?_)
  refine Ev_goto dX12_readsNet_61 ?_
  refine Ev_put dX12_readsNet_66 fr_X12_114_12 (gs h31) rfl rfl rfl ?_
  refine Ev_st gss ?_
  refine Ev_aload_n dX12_readsNet_69 rfl ?_
  refine Ev_get dX12_readsNet_70 fg_X12_114_12 (gs h31) rfl ?_
  refine Ev_if_le dX12_readsNet_73 (fun _ => ?_) (fun c => absurd (by decide) c)
  refine Ev_iconst (v := 0) dX12_readsNet_80 (by decide) ?_
  refine Ev_istore_n dX12_readsNet_81 rfl ?_
  refine Ev_iload_n dX12_readsNet_82 rfl ?_
  refine Ev_if_eq dX12_readsNet_83 (fun _ => ?_) (fun c => absurd (by decide) c)
  refine Ev_iload_n dX12_readsNet_111 rfl ?_
  refine Ev_iret dX12_readsNet_112 rfl (by decide) ?_
  have h9 := okc_lt (okc_a.mpr h0)
  exact kf 1 _ _ _ ⟨fun y hy => by (obtain rfl : y = 0 := by omega); exact okc_a.mpr h0, fun z => h1 (okc_b.mp z), by omega, fun z => by omega⟩ (FrN.st FrN.rf (by omega)) (gs h31) hA.st

set_option maxHeartbeats 4000000 in
set_option maxRecDepth 100000 in
theorem l_rn {d : Nat} {S0 : aS} {Q : Option Value → aS → Prop} {flt pl0 n0 du lw fr cl ea dp bm rd tr : Int32} {bi : Int64} {o m : Nat} {fc : Nat → Int32} (h54 : S0[54]? = some (iA 240 fc)) (hom : o + m ≤ 240) (hm60 : m ≤ 60) (kf : ∀ (p : Nat) (S2 : aS) (rp rs : Int32), FFa (fun y => fc (o + y)) m p → FrN S0 S2 → S2[31]? = some (mo flt pl0 n0 du lw fr cl (nI p) rp rs ea dp bm bi rd tr) → AR S2 (fun y => fc (o + y)) m 0 → Q (some (.int 0)) S2) (ks : ∀ (S2 : aS) (ra : Int32), WHa (fun y => fc (o + y)) m → FrN S0 S2 → S2[31]? = some (mo flt pl0 n0 du lw fr cl ra (nI (tP (fun y => fc (o + y)) m)) (nI ((m - 2) / 7)) ea dp bm bi rd tr) → AR S2 (fun y => fc (o + y)) m ((m - 2) / 7) → Q (some (.int 1)) S2) : ∀ (t j : Nat) (S : aS), j + t = 9 → FrN S0 S → S[31]? = some (mo flt pl0 n0 du lw fr cl (nI (2 + 7 * j)) (nI (tP (fun y => fc (o + y)) m)) (nI j) ea dp bm bi rd tr) → AR S (fun y => fc (o + y)) m j → (∀ y, y < 2 + 7 * j → okc (fun y => fc (o + y)) m y) → Ev none mX12_readsNet (d + 3) 0 82 [some (.ref 31), some (.int (nI o)), some (.int (nI m)), some (.int 1)] [] S Q := by
  intro t
  induction t with
  | zero =>
    intro j S hj hF h31 hA ho
    exact absurd (okc_lt (ho 64 (by omega))) (by omega)
  | succ t ih =>
    intro j S hj hF h31 hA ho
    obtain ⟨g, hg1, hg2⟩ : ∃ g : Nat → Nat → Int32, (∀ f, f < 6 → S[38 + f]? = some (iA 9 (g f))) ∧ ∀ f, f < 6 → ∀ i, i < j → g f i = nI (tG (fun y => fc (o + y)) m f i) := by
      obtain ⟨g0, a0, b0⟩ := hA 0 (by decide)
      obtain ⟨g1, a1, b1⟩ := hA 1 (by decide)
      obtain ⟨g2, a2, b2⟩ := hA 2 (by decide)
      obtain ⟨g3, a3, b3⟩ := hA 3 (by decide)
      obtain ⟨g4, a4, b4⟩ := hA 4 (by decide)
      obtain ⟨g5, a5, b5⟩ := hA 5 (by decide)
      exact ⟨fun f => if f = 0 then g0 else if f = 1 then g1 else if f = 2 then g2 else if f = 3 then g3 else if f = 4 then g4 else g5, six a0 a1 a2 a3 a4 a5, six b0 b1 b2 b3 b4 b5⟩
    have ho1 := ho 1 (by omega)
    by_cases hj0 : j = 0
    · skip
      refine Ev_iload_n dX12_readsNet_82 rfl ?_
      refine Ev_if_eq dX12_readsNet_83 (fun c => absurd c (by decide)) (fun _ => ?_)
      refine Ev_aload_n dX12_readsNet_86 rfl ?_
      refine Ev_get dX12_readsNet_87 fg_X12_111_12 h31 rfl ?_
      refine Ev_if_eq dX12_readsNet_90 (fun _ => ?_) (fun c => absurd (by rw [hj0]; rfl) c)
      refine Ev_aload_n dX12_readsNet_101 rfl ?_
      refine Ev_iload_n dX12_readsNet_102 rfl ?_
      refine Ev_iload_n dX12_readsNet_103 rfl ?_
      refine Ev_callV (bc := 0) (b := 0) dX12_readsNet_104 cv_X12_121 rfl h31 (Nat.le_of_ble_eq_true rfl) (by omega) ?_
      refine c_rs (j := j) h31 (hF.at h54 (by omega)) hom (by omega) hm60 ho ho1 rfl hg1 (fun p a1 a2 a3 a4 => ?_) (fun S2 hF2 g31 gA go => ?_)
      · skip
        refine Ev_istore_n dX12_readsNet_107 rfl ?_
        refine Ev_goto dX12_readsNet_108 ?_
        refine Ev_iload_n dX12_readsNet_82 rfl ?_
        refine Ev_if_eq dX12_readsNet_83 (fun _ => ?_) (fun c => absurd (by decide) c)
        refine Ev_iload_n dX12_readsNet_111 rfl ?_
        refine Ev_iret dX12_readsNet_112 rfl (by decide) ?_
        exact kf p _ _ _ ⟨a3, a4, okc_le a3, fun z => by omega⟩ (FrN.st hF (by omega)) (gs h31) hA.lo.st
      · skip
        refine Ev_istore_n dX12_readsNet_107 rfl ?_
        refine Ev_goto dX12_readsNet_108 ?_
        exact ih (j + 1) S2 (by omega) (hF.tr hF2) g31 (AR.of hg2 gA) go
    by_cases hr : 2 + 7 * j < m
    · skip
      refine Ev_iload_n dX12_readsNet_82 rfl ?_
      refine Ev_if_eq dX12_readsNet_83 (fun c => absurd c (by decide)) (fun _ => ?_)
      refine Ev_aload_n dX12_readsNet_86 rfl ?_
      refine Ev_get dX12_readsNet_87 fg_X12_111_12 h31 rfl ?_
      refine Ev_if_eq dX12_readsNet_90 (fun c => absurd c (fun z => absurd ((nIinj (b := 0) (by omega) (by omega)).mp z) hj0)) (fun _ => ?_)
      refine Ev_aload_n dX12_readsNet_93 rfl ?_
      refine Ev_get dX12_readsNet_94 fg_X12_104_12 h31 rfl ?_
      refine Ev_iload_n dX12_readsNet_97 rfl ?_
      refine Ev_icmp_ge dX12_readsNet_98 (fun c => absurd c (fun z => absurd ((nle (by omega) (by omega)).mp z) (by omega))) (fun _ => ?_)
      refine Ev_aload_n dX12_readsNet_101 rfl ?_
      refine Ev_iload_n dX12_readsNet_102 rfl ?_
      refine Ev_iload_n dX12_readsNet_103 rfl ?_
      refine Ev_callV (bc := 0) (b := 0) dX12_readsNet_104 cv_X12_121 rfl h31 (Nat.le_of_ble_eq_true rfl) (by omega) ?_
      refine c_rs (j := j) h31 (hF.at h54 (by omega)) hom (by omega) hm60 ho ho1 rfl hg1 (fun p a1 a2 a3 a4 => ?_) (fun S2 hF2 g31 gA go => ?_)
      · skip
        refine Ev_istore_n dX12_readsNet_107 rfl ?_
        refine Ev_goto dX12_readsNet_108 ?_
        refine Ev_iload_n dX12_readsNet_82 rfl ?_
        refine Ev_if_eq dX12_readsNet_83 (fun _ => ?_) (fun c => absurd (by decide) c)
        refine Ev_iload_n dX12_readsNet_111 rfl ?_
        refine Ev_iret dX12_readsNet_112 rfl (by decide) ?_
        exact kf p _ _ _ ⟨a3, a4, okc_le a3, fun z => by omega⟩ (FrN.st hF (by omega)) (gs h31) hA.lo.st
      · skip
        refine Ev_istore_n dX12_readsNet_107 rfl ?_
        refine Ev_goto dX12_readsNet_108 ?_
        exact ih (j + 1) S2 (by omega) (hF.tr hF2) g31 (AR.of hg2 gA) go
    · skip
      refine Ev_iload_n dX12_readsNet_82 rfl ?_
      refine Ev_if_eq dX12_readsNet_83 (fun c => absurd c (by decide)) (fun _ => ?_)
      refine Ev_aload_n dX12_readsNet_86 rfl ?_
      refine Ev_get dX12_readsNet_87 fg_X12_111_12 h31 rfl ?_
      refine Ev_if_eq dX12_readsNet_90 (fun c => absurd c (fun z => absurd ((nIinj (b := 0) (by omega) (by omega)).mp z) hj0)) (fun _ => ?_)
      refine Ev_aload_n dX12_readsNet_93 rfl ?_
      refine Ev_get dX12_readsNet_94 fg_X12_104_12 h31 rfl ?_
      refine Ev_iload_n dX12_readsNet_97 rfl ?_
      refine Ev_icmp_ge dX12_readsNet_98 (fun _ => ?_) (fun c => absurd ((nle (by omega) (by omega)).mpr (by omega)) c)
      refine Ev_iload_n dX12_readsNet_111 rfl ?_
      refine Ev_iret dX12_readsNet_112 rfl (by decide) ?_
      have hle := okc_le ho
      have e9 : ((m - 2) / 7) = j := by omega
      exact ks S _ ⟨fun y hy => ho y (by omega), by omega, by omega⟩ hF (by rw [e9]; exact h31) (by rw [e9]; exact hA)

set_option maxHeartbeats 4000000 in
set_option maxRecDepth 100000 in
theorem c_rn_c {d : Nat} {S : aS} {Q : Option Value → aS → Prop} {flt pl0 n0 du lw fr cl ea dp bm rd tr : Int32} {bi : Int64} {ra rp rs : Int32} (h31 : S[31]? = some (mo flt pl0 n0 du lw fr cl ra rp rs ea dp bm bi rd tr)) {o m : Nat} {fc : Nat → Int32} (h54 : S[54]? = some (iA 240 fc)) (hom : o + m ≤ 240) (hm60 : m ≤ 60) (hA : AR S (fun y => fc (o + y)) m 0) (h0 : cd (fun y => fc (o + y)) m 0 = 110) (h1 : 50 ≤ (cd (fun y => fc (o + y)) m 1).toInt ∧ (cd (fun y => fc (o + y)) m 1).toInt ≤ 55) (kf : ∀ (p : Nat) (S2 : aS) (rp rs : Int32), FFa (fun y => fc (o + y)) m p → FrN S S2 → S2[31]? = some (mo flt pl0 n0 du lw fr cl (nI p) rp rs ea dp bm bi rd tr) → AR S2 (fun y => fc (o + y)) m 0 → Q (some (.int 0)) S2) (ks : ∀ (S2 : aS) (ra : Int32), WHa (fun y => fc (o + y)) m → FrN S S2 → S2[31]? = some (mo flt pl0 n0 du lw fr cl ra (nI (tP (fun y => fc (o + y)) m)) (nI ((m - 2) / 7)) ea dp bm bi rd tr) → AR S2 (fun y => fc (o + y)) m ((m - 2) / 7) → Q (some (.int 1)) S2)  : Mth mX12_readsNet (d + 3) 0 [.ref 31, .int (nI o), .int (nI m)] S Q := by
  have hb1 := tP_b (okc_b.mpr h1)
  refine Mth_of (by decide) rfl ?_
  refine Ev_aload_n dX12_readsNet_0 rfl ?_
  refine Ev_iconst (v := 0) dX12_readsNet_1 (by decide) ?_
  refine Ev_put dX12_readsNet_2 fr_X12_104_12 h31 rfl rfl rfl ?_
  refine Ev_aload_n dX12_readsNet_5 rfl ?_
  refine Ev_iconst (v := 0) dX12_readsNet_6 (by decide) ?_
  refine Ev_put dX12_readsNet_7 fr_X12_111_12 (gs h31) rfl rfl rfl ?_
  refine Ev_st gss ?_
  refine Ev_aload_n dX12_readsNet_10 rfl ?_
  refine Ev_iload_n dX12_readsNet_11 rfl ?_
  refine Ev_iload_n dX12_readsNet_12 rfl ?_
  refine Ev_callV (bc := 0) (b := 0) dX12_readsNet_13 cv_X12_107 rfl (gs h31) (Nat.le_of_ble_eq_true rfl) (by omega) ?_
  refine c_X12_codeAt (p := 0) (gs h31) (gn (by decide) h54) hom (by omega) ?_
  refine Ev_bipush (v := 110) dX12_readsNet_16 (by decide) ?_
  refine Ev_icmp_ne dX12_readsNet_18 (fun c => absurd h0 c) (fun _ => ?_)
  refine Ev_iconst (v := 1) dX12_readsNet_21 (by decide) ?_
  refine Ev_goto dX12_readsNet_22 ?_
  refine Ev_istore_n dX12_readsNet_26 rfl ?_
  refine Ev_aload_n dX12_readsNet_27 rfl ?_
  refine Ev_dup dX12_readsNet_28 rfl ?_
  refine Ev_get dX12_readsNet_29 fg_X12_104_12 (gs h31) rfl ?_
  refine Ev_iload_n dX12_readsNet_32 rfl ?_
  refine Ev_if_eq dX12_readsNet_33 (fun c => absurd c (by decide)) (fun _ => ?_)
  refine Ev_iconst (v := 1) dX12_readsNet_36 (by decide) ?_
  refine Ev_goto dX12_readsNet_37 ?_
  refine Ev_iadd dX12_readsNet_41 ?_
  refine Ev_topi (y := 1) (by decide) ?_
  refine Ev_put dX12_readsNet_42 fr_X12_104_12 (gs h31) rfl rfl rfl ?_
  refine Ev_st gss ?_
  refine Ev_aload_n dX12_readsNet_45 rfl ?_
  refine Ev_iload_n dX12_readsNet_46 rfl ?_
  refine Ev_if_eq dX12_readsNet_47 (fun c => absurd c (by decide)) (fun _ => ?_)
  refine Ev_aload_n dX12_readsNet_50 rfl ?_
  refine Ev_iload_n dX12_readsNet_51 rfl ?_
  refine Ev_iload_n dX12_readsNet_52 rfl ?_
  refine Ev_iconst (v := 2) dX12_readsNet_53 (by decide) ?_
  refine Ev_bipush (v := 7) dX12_readsNet_54 (by decide) ?_
  refine Ev_bipush (v := (-9)) dX12_readsNet_56 (by decide) ?_
  refine Ev_callV (bc := 0) (b := 0) dX12_readsNet_58 cv_X12_117 rfl (gs h31) (Nat.le_of_ble_eq_true rfl) (by omega) ?_
  refine fig_n (p := 1) (lo := 2) (hi := 7) (gs h31) (gn (by decide) h54) hom (by omega) (by omega) (by omega) (fun z => ?_) (fun z => absurd (by omega) z)
  refine Ev_st gss ?_
  refine Ev_goto dX12_readsNet_61 ?_
  refine Ev_put dX12_readsNet_66 fr_X12_114_12 (gs h31) rfl rfl rfl ?_
  refine Ev_st gss ?_
  refine Ev_aload_n dX12_readsNet_69 rfl ?_
  refine Ev_get dX12_readsNet_70 fg_X12_114_12 (gs h31) rfl ?_
  refine Ev_if_le dX12_readsNet_73 (fun c => absurd c (fun z => absurd ((nle (b := 0) (by omega) (by omega)).mp z) (by omega))) (fun _ => ?_)
  refine Ev_iconst (v := 1) dX12_readsNet_76 (by decide) ?_
  refine Ev_goto dX12_readsNet_77 ?_
  refine Ev_istore_n dX12_readsNet_81 rfl ?_
  exact l_rn (S0 := S) h54 hom hm60 kf ks 9 0 _ (by omega) (FrN.st FrN.rf (by omega)) (gs h31) hA.st (fun y hy => by rcases (show y = 0 ∨ y = 1 by omega) with rfl | rfl; exact okc_a.mpr h0; exact okc_b.mpr h1)

theorem c_X12_readsNet {d : Nat} {S : aS} {Q : Option Value → aS → Prop} {flt pl0 n0 du lw fr cl ea dp bm rd tr : Int32} {bi : Int64} {ra rp rs : Int32} (h31 : S[31]? = some (mo flt pl0 n0 du lw fr cl ra rp rs ea dp bm bi rd tr)) {o m : Nat} {fc : Nat → Int32} (h54 : S[54]? = some (iA 240 fc)) (hom : o + m ≤ 240) (hm60 : m ≤ 60) (hA : AR S (fun y => fc (o + y)) m 0) (kf : ∀ (p : Nat) (S2 : aS) (rp rs : Int32), FFa (fun y => fc (o + y)) m p → FrN S S2 → S2[31]? = some (mo flt pl0 n0 du lw fr cl (nI p) rp rs ea dp bm bi rd tr) → AR S2 (fun y => fc (o + y)) m 0 → Q (some (.int 0)) S2) (ks : ∀ (S2 : aS) (ra : Int32), WHa (fun y => fc (o + y)) m → FrN S S2 → S2[31]? = some (mo flt pl0 n0 du lw fr cl ra (nI (tP (fun y => fc (o + y)) m)) (nI ((m - 2) / 7)) ea dp bm bi rd tr) → AR S2 (fun y => fc (o + y)) m ((m - 2) / 7) → Q (some (.int 1)) S2) : Mth mX12_readsNet (d + 3) 0 [.ref 31, .int (nI o), .int (nI m)] S Q := by
  by_cases h0 : cd (fun y => fc (o + y)) m 0 = 110
  case neg => exact c_rn_a h31 h54 hom hm60 hA h0 kf
  by_cases h1 : 50 ≤ (cd (fun y => fc (o + y)) m 1).toInt ∧ (cd (fun y => fc (o + y)) m 1).toInt ≤ 55
  case neg => exact c_rn_b h31 h54 hom hm60 hA h0 h1 kf
  exact c_rn_c h31 h54 hom hm60 hA h0 h1 kf ks

