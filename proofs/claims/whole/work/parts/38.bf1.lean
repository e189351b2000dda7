/-! ===== the quickest ways, on the reference's side ===== -/
theorem rdA_s {G : Nat → Nat → Nat} {cs : Nat} {fz : Int} {A : Nat → Nat} {k : Nat} (h : ¬ cs.testBit k = true) : rdA G cs fz A (k + 1) = rlxN (tk G fz k) (G 1 k) (G 2 k) (rdA G cs fz A k) := by simp only [rdA]; rw [if_neg h]
theorem rdA_c {G : Nat → Nat → Nat} {cs : Nat} {fz : Int} {A : Nat → Nat} {k : Nat} (h : cs.testBit k = true) : rdA G cs fz A (k + 1) = rdA G cs fz A k := by simp only [rdA]; rw [if_pos h]
theorem updI {F : Nat → Int32} {A : Nat → Nat} {q v : Nat} (hF : ∀ x, x < 7 → F x = nI (A x)) : ∀ x, x < 7 → upd F q (nI v) x = nI (uz A q v x) := by
  intro x hx
  simp only [upd, uz]
  split
  · rfl
  · exact hF x hx
theorem rl2 {F : Nat → Int32} {A : Nat → Nat} {t a b v1 v2 : Nat} (hab : a ≠ b) (hF : ∀ x, x < 7 → F x = nI (A x)) (h1 : v1 = min (A b) (A a + t)) (h2 : v2 = min (A a) (A b + t)) : ∀ x, x < 7 → upd (upd F b (nI v1)) a (nI v2) x = nI (rlxN t a b A x) := by
  intro x hx
  simp only [upd, rlxN]
  by_cases e : x = a
  · rw [if_pos e, if_neg (fun z => hab (e.symm.trans z)), if_pos e, h2]
  · rw [if_neg e, if_neg e]
    by_cases e2 : x = b
    · rw [if_pos e2, if_pos e2, h1]
    · rw [if_neg e2, if_neg e2]; exact hF x hx
def mixI (F T : Nat → Int32) (i : Nat) : Nat → Int32 := fun x => if x < i then F x else T x
theorem mixI_0 (F T : Nat → Int32) : mixI F T 0 = T := by funext j; simp [mixI]
theorem mixI_s (F T : Nat → Int32) (i : Nat) : upd (mixI F T i) i (F i) = mixI F T (i + 1) := by
  funext j
  simp only [upd, mixI]
  split
  · next h => subst h; rw [if_pos (by omega)]
  · split
    · rw [if_pos (by omega)]
    · rw [if_neg (by omega)]
def gS (s : Nat) : Nat → Int32 := fun x => if x = s then 0 else 99999

set_option maxHeartbeats 4000000 in
set_option maxRecDepth 100000 in
theorem l_X12_soon1 {d : Nat} {S : aS} {Q : Option Value → aS → Prop} {flt du lw fr ra rp rs ea dp bm rd tr : Int32} {bi : Int64} {pl n cs : Nat} {G : Nat → Nat → Nat} (hg : GD pl n G) (hcs : cs < 512) (hM : S[31]? = some (mo flt (nI pl) (nI n) du lw fr (nI cs) ra rp rs ea dp bm bi rd tr)) (hG : MN S n G) {s u : Nat} {A : Nat → Nat} (hA : ∀ x, A x ≤ 99999) {F0 : Nat → Int32} (h45 : S[45]? = some (iA 7 F0)) (k : ∀ F, (∀ x, x < 7 → F x = nI (rdA G cs fr.toInt A n x)) → Ev none mX12_laySoon (d + 2) 0 192 [some (.ref 31), some (.int (nI s)), some (.int (nI u)), some (.int (nI n)), none, none] [] (S.set 45 (iA 7 F)) Q)  : ∀ (t i : Nat) (F : Nat → Int32) (hF : ∀ x, x < 7 → F x = nI (rdA G cs fr.toInt A i x)), i + t = n → Ev none mX12_laySoon (d + 2) 0 43 [some (.ref 31), some (.int (nI s)), some (.int (nI u)), some (.int (nI i)), none, none] [] (S.set 45 (iA 7 F)) Q := by
  have hn9 := hg.2.1
  have hp7 := hg.1
  obtain ⟨f1, a1, b1⟩ := hG 1 (by decide)
  obtain ⟨f2, a2, b2⟩ := hG 2 (by decide)
  intro t
  induction t with
  | zero =>
    intro i F hF hi
    obtain rfl : i = n := by omega
    refine Ev_iload_n dX12_laySoon_43 rfl ?_
    refine Ev_aload_n dX12_laySoon_44 rfl ?_
    refine Ev_get dX12_laySoon_45 fg_X12_101_12 (gn (by decide) hM) rfl ?_
    refine Ev_icmp_ge dX12_laySoon_48 (fun _ => ?_) (fun c => absurd ((nle (by omega) (by omega)).mpr (Nat.le_refl _)) c)
    exact k F hF
  | succ t ih =>
    intro i F hF hi
    have hjG := hg.2.2 i (by omega)
    have ht := (tk_le hg fr.toInt (show i < n by omega)).1
    have hb1 := rdA_le (G := G) (cs := cs) (fz := fr.toInt) hA i (G 1 i)
    have hb2 := rdA_le (G := G) (cs := cs) (fz := fr.toInt) hA i (G 2 i)
    refine Ev_iload_n dX12_laySoon_43 rfl ?_
    refine Ev_aload_n dX12_laySoon_44 rfl ?_
    refine Ev_get dX12_laySoon_45 fg_X12_101_12 (gn (by decide) hM) rfl ?_
    refine Ev_icmp_ge dX12_laySoon_48 (fun c => absurd c (fun z => absurd ((nle (by omega) (by omega)).mp z) (by omega))) (fun _ => ?_)
    refine Ev_aload_n dX12_laySoon_51 rfl ?_
    refine Ev_get dX12_laySoon_52 fg_X12_158_12 (gn (by decide) hM) rfl ?_
    refine Ev_iload_n dX12_laySoon_55 rfl ?_
    refine Ev_callS (bc := 0) (b := 0) dX12_laySoon_56 cs_X12_173 rfl (Nat.le_of_ble_eq_true rfl) (by omega) ?_
    refine c_X12_isIn (by omega) (by omega) (fun q1 => ?_) (fun q1 => ?_)
    · skip
      refine Ev_if_ne dX12_laySoon_59 (fun _ => ?_) (fun c => absurd c (by decide))
      refine Ev_iinc (v := nI (i + 1)) dX12_laySoon_186 rfl (nI_1 _) rfl ?_
      refine Ev_goto dX12_laySoon_189 ?_
      exact ih (i + 1) F (fun x hx => by rw [rdA_c q1]; exact hF x hx) (by omega)
    · skip
      refine Ev_if_ne dX12_laySoon_59 (fun c => absurd (by decide) c) (fun _ => ?_)
      refine Ev_aload_n dX12_laySoon_62 rfl ?_
      refine Ev_get dX12_laySoon_63 fg_X12_49_12 (gn (by decide) hM) rfl ?_
      refine Ev_aload_n dX12_laySoon_66 rfl ?_
      refine Ev_get dX12_laySoon_67 fg_X12_13_12 (gn (by decide) hM) rfl ?_
      refine Ev_iload_n dX12_laySoon_70 rfl ?_
      refine Ev_ialoadN (j := i) dX12_laySoon_71 (gn (by decide) a1) (by omega) (by decide) ?_
      refine Ev_topi (y := nI (G 1 i)) (b1 _ (by omega)) ?_
      refine Ev_ialoadN (j := G 1 i) dX12_laySoon_72 (gs h45) (by omega) (by decide) ?_
      refine Ev_topi (y := nI (rdA G cs fr.toInt A i (G 1 i))) (hF _ (by omega)) ?_
      refine Ev_aload_n dX12_laySoon_73 rfl ?_
      refine Ev_iload_n dX12_laySoon_74 rfl ?_
      refine Ev_callV (bc := 0) (b := 0) dX12_laySoon_75 cv_X12_170 rfl (gn (by decide) hM) (Nat.le_of_ble_eq_true rfl) (by omega) ?_
      refine c_X12_takesOf hg hcs (gn (by decide) hM) (MN.off hG (by decide)) (show i < n by omega) ?_
      refine Ev_iadd dX12_laySoon_78 ?_
      refine Ev_topi (y := nI ((rdA G cs fr.toInt A i (G 1 i)) + (tk G fr.toInt i))) (nI_add _ _) ?_
      refine Ev_istore dX12_laySoon_79 rfl ?_
      refine Ev_aload_n dX12_laySoon_81 rfl ?_
      refine Ev_get dX12_laySoon_82 fg_X12_49_12 (gn (by decide) hM) rfl ?_
      refine Ev_aload_n dX12_laySoon_85 rfl ?_
      refine Ev_get dX12_laySoon_86 fg_X12_16_12 (gn (by decide) hM) rfl ?_
      refine Ev_iload_n dX12_laySoon_89 rfl ?_
      refine Ev_ialoadN (j := i) dX12_laySoon_90 (gn (by decide) a2) (by omega) (by decide) ?_
      refine Ev_topi (y := nI (G 2 i)) (b2 _ (by omega)) ?_
      refine Ev_ialoadN (j := G 2 i) dX12_laySoon_91 (gs h45) (by omega) (by decide) ?_
      refine Ev_topi (y := nI (rdA G cs fr.toInt A i (G 2 i))) (hF _ (by omega)) ?_
      refine Ev_aload_n dX12_laySoon_92 rfl ?_
      refine Ev_iload_n dX12_laySoon_93 rfl ?_
      refine Ev_callV (bc := 0) (b := 0) dX12_laySoon_94 cv_X12_170 rfl (gn (by decide) hM) (Nat.le_of_ble_eq_true rfl) (by omega) ?_
      refine c_X12_takesOf hg hcs (gn (by decide) hM) (MN.off hG (by decide)) (show i < n by omega) ?_
      refine Ev_iadd dX12_laySoon_97 ?_
      refine Ev_topi (y := nI ((rdA G cs fr.toInt A i (G 2 i)) + (tk G fr.toInt i))) (nI_add _ _) ?_
      refine Ev_istore dX12_laySoon_98 rfl ?_
      refine Ev_aload_n dX12_laySoon_100 rfl ?_
      refine Ev_get dX12_laySoon_101 fg_X12_49_12 (gn (by decide) hM) rfl ?_
      refine Ev_aload_n dX12_laySoon_104 rfl ?_
      refine Ev_get dX12_laySoon_105 fg_X12_16_12 (gn (by decide) hM) rfl ?_
      refine Ev_iload_n dX12_laySoon_108 rfl ?_
      refine Ev_ialoadN (j := i) dX12_laySoon_109 (gn (by decide) a2) (by omega) (by decide) ?_
      refine Ev_topi (y := nI (G 2 i)) (b2 _ (by omega)) ?_
      refine Ev_iload dX12_laySoon_110 rfl ?_
      refine Ev_aload_n dX12_laySoon_112 rfl ?_
      refine Ev_get dX12_laySoon_113 fg_X12_49_12 (gn (by decide) hM) rfl ?_
      refine Ev_aload_n dX12_laySoon_116 rfl ?_
      refine Ev_get dX12_laySoon_117 fg_X12_16_12 (gn (by decide) hM) rfl ?_
      refine Ev_iload_n dX12_laySoon_120 rfl ?_
      refine Ev_ialoadN (j := i) dX12_laySoon_121 (gn (by decide) a2) (by omega) (by decide) ?_
      refine Ev_topi (y := nI (G 2 i)) (b2 _ (by omega)) ?_
      refine Ev_ialoadN (j := G 2 i) dX12_laySoon_122 (gs h45) (by omega) (by decide) ?_
      refine Ev_topi (y := nI (rdA G cs fr.toInt A i (G 2 i))) (hF _ (by omega)) ?_
      refine Ev_icmp_ge dX12_laySoon_123 (fun c2 => ?_) (fun c2 => ?_)
      · skip
        have c2 : (rdA G cs fr.toInt A i (G 2 i)) ≤ ((rdA G cs fr.toInt A i (G 1 i)) + (tk G fr.toInt i)) := (nle (a := rdA G cs fr.toInt A i (G 2 i)) (b := (rdA G cs fr.toInt A i (G 1 i)) + (tk G fr.toInt i)) (by omega) (by omega)).mp c2
        refine Ev_aload_n dX12_laySoon_131 rfl ?_
        refine Ev_get dX12_laySoon_132 fg_X12_49_12 (gn (by decide) hM) rfl ?_
        refine Ev_aload_n dX12_laySoon_135 rfl ?_
        refine Ev_get dX12_laySoon_136 fg_X12_16_12 (gn (by decide) hM) rfl ?_
        refine Ev_iload_n dX12_laySoon_139 rfl ?_
        refine Ev_ialoadN (j := i) dX12_laySoon_140 (gn (by decide) a2) (by omega) (by decide) ?_
        refine Ev_topi (y := nI (G 2 i)) (b2 _ (by omega)) ?_
        refine Ev_ialoadN (j := G 2 i) dX12_laySoon_141 (gs h45) (by omega) (by decide) ?_
        refine Ev_topi (y := nI (rdA G cs fr.toInt A i (G 2 i))) (hF _ (by omega)) ?_
        refine Ev_iastoreN (j := G 2 i) dX12_laySoon_142 (gs h45) (by omega) (by decide) ?_
        refine Ev_aload_n dX12_laySoon_143 rfl ?_
        refine Ev_get dX12_laySoon_144 fg_X12_49_12 (gn (by decide) (gn (by decide) hM)) rfl ?_
        refine Ev_aload_n dX12_laySoon_147 rfl ?_
        refine Ev_get dX12_laySoon_148 fg_X12_13_12 (gn (by decide) (gn (by decide) hM)) rfl ?_
        refine Ev_iload_n dX12_laySoon_151 rfl ?_
        refine Ev_ialoadN (j := i) dX12_laySoon_152 (gn (by decide) (gn (by decide) a1)) (by omega) (by decide) ?_
        refine Ev_topi (y := nI (G 1 i)) (b1 _ (by omega)) ?_
        refine Ev_iload dX12_laySoon_153 rfl ?_
        refine Ev_aload_n dX12_laySoon_155 rfl ?_
        refine Ev_get dX12_laySoon_156 fg_X12_49_12 (gn (by decide) (gn (by decide) hM)) rfl ?_
        refine Ev_aload_n dX12_laySoon_159 rfl ?_
        refine Ev_get dX12_laySoon_160 fg_X12_13_12 (gn (by decide) (gn (by decide) hM)) rfl ?_
        refine Ev_iload_n dX12_laySoon_163 rfl ?_
        refine Ev_ialoadN (j := i) dX12_laySoon_164 (gn (by decide) (gn (by decide) a1)) (by omega) (by decide) ?_
        refine Ev_topi (y := nI (G 1 i)) (b1 _ (by omega)) ?_
        refine Ev_ialoadN (j := G 1 i) dX12_laySoon_165 (gs (gs h45)) (by omega) (by decide) ?_
        refine Ev_topi (y := nI (rdA G cs fr.toInt A i (G 1 i))) (by rw [upd_n _ _ (by omega)]; exact hF _ (by omega)) ?_
        refine Ev_icmp_ge dX12_laySoon_166 (fun c3 => ?_) (fun c3 => ?_)
        · skip
          have c3 : (rdA G cs fr.toInt A i (G 1 i)) ≤ ((rdA G cs fr.toInt A i (G 2 i)) + (tk G fr.toInt i)) := (nle (a := rdA G cs fr.toInt A i (G 1 i)) (b := (rdA G cs fr.toInt A i (G 2 i)) + (tk G fr.toInt i)) (by omega) (by omega)).mp c3
          refine Ev_aload_n dX12_laySoon_174 rfl ?_
          refine Ev_get dX12_laySoon_175 fg_X12_49_12 (gn (by decide) (gn (by decide) hM)) rfl ?_
          refine Ev_aload_n dX12_laySoon_178 rfl ?_
          refine Ev_get dX12_laySoon_179 fg_X12_13_12 (gn (by decide) (gn (by decide) hM)) rfl ?_
          refine Ev_iload_n dX12_laySoon_182 rfl ?_
          refine Ev_ialoadN (j := i) dX12_laySoon_183 (gn (by decide) (gn (by decide) a1)) (by omega) (by decide) ?_
          refine Ev_topi (y := nI (G 1 i)) (b1 _ (by omega)) ?_
          refine Ev_ialoadN (j := G 1 i) dX12_laySoon_184 (gs (gs h45)) (by omega) (by decide) ?_
          refine Ev_topi (y := nI (rdA G cs fr.toInt A i (G 1 i))) (by rw [upd_n _ _ (by omega)]; exact hF _ (by omega)) ?_
          refine Ev_iastoreN (j := G 1 i) dX12_laySoon_185 (gs (gs h45)) (by omega) (by decide) ?_
          refine Ev_st gss ?_
          refine Ev_iinc (v := nI (i + 1)) dX12_laySoon_186 rfl (nI_1 _) rfl ?_
          refine Ev_goto dX12_laySoon_189 ?_
          refine Ev_loc (la2 := [some (.ref 31), some (.int (nI s)), some (.int (nI u)), some (.int (nI (i + 1))), none, none]) ⟨rfl, ⟨rfl, ⟨rfl, ⟨rfl, trivial⟩⟩⟩⟩ ?_
          exact Ev_st gss (ih (i + 1) _ (fun x hx => by rw [rdA_s q1]; exact rl2 (by omega) hF (by omega) (by omega) x hx) (by omega))
        · skip
          have c3 : ¬ ((rdA G cs fr.toInt A i (G 1 i)) ≤ ((rdA G cs fr.toInt A i (G 2 i)) + (tk G fr.toInt i))) := fun z => c3 ((nle (a := rdA G cs fr.toInt A i (G 1 i)) (b := (rdA G cs fr.toInt A i (G 2 i)) + (tk G fr.toInt i)) (by omega) (by omega)).mpr z)
          refine Ev_iload dX12_laySoon_169 rfl ?_
          refine Ev_goto dX12_laySoon_171 ?_
          refine Ev_iastoreN (j := G 1 i) dX12_laySoon_185 (gs (gs h45)) (by omega) (by decide) ?_
          refine Ev_st gss ?_
          refine Ev_iinc (v := nI (i + 1)) dX12_laySoon_186 rfl (nI_1 _) rfl ?_
          refine Ev_goto dX12_laySoon_189 ?_
          refine Ev_loc (la2 := [some (.ref 31), some (.int (nI s)), some (.int (nI u)), some (.int (nI (i + 1))), none, none]) ⟨rfl, ⟨rfl, ⟨rfl, ⟨rfl, trivial⟩⟩⟩⟩ ?_
          exact Ev_st gss (ih (i + 1) _ (fun x hx => by rw [rdA_s q1]; exact rl2 (by omega) hF (by omega) (by omega) x hx) (by omega))
      · skip
        have c2 : ¬ ((rdA G cs fr.toInt A i (G 2 i)) ≤ ((rdA G cs fr.toInt A i (G 1 i)) + (tk G fr.toInt i))) := fun z => c2 ((nle (a := rdA G cs fr.toInt A i (G 2 i)) (b := (rdA G cs fr.toInt A i (G 1 i)) + (tk G fr.toInt i)) (by omega) (by omega)).mpr z)
        refine Ev_iload dX12_laySoon_126 rfl ?_
        refine Ev_goto dX12_laySoon_128 ?_
        refine Ev_iastoreN (j := G 2 i) dX12_laySoon_142 (gs h45) (by omega) (by decide) ?_
        refine Ev_aload_n dX12_laySoon_143 rfl ?_
        refine Ev_get dX12_laySoon_144 fg_X12_49_12 (gn (by decide) (gn (by decide) hM)) rfl ?_
        refine Ev_aload_n dX12_laySoon_147 rfl ?_
        refine Ev_get dX12_laySoon_148 fg_X12_13_12 (gn (by decide) (gn (by decide) hM)) rfl ?_
        refine Ev_iload_n dX12_laySoon_151 rfl ?_
        refine Ev_ialoadN (j := i) dX12_laySoon_152 (gn (by decide) (gn (by decide) a1)) (by omega) (by decide) ?_
        refine Ev_topi (y := nI (G 1 i)) (b1 _ (by omega)) ?_
        refine Ev_iload dX12_laySoon_153 rfl ?_
        refine Ev_aload_n dX12_laySoon_155 rfl ?_
        refine Ev_get dX12_laySoon_156 fg_X12_49_12 (gn (by decide) (gn (by decide) hM)) rfl ?_
        refine Ev_aload_n dX12_laySoon_159 rfl ?_
        refine Ev_get dX12_laySoon_160 fg_X12_13_12 (gn (by decide) (gn (by decide) hM)) rfl ?_
        refine Ev_iload_n dX12_laySoon_163 rfl ?_
        refine Ev_ialoadN (j := i) dX12_laySoon_164 (gn (by decide) (gn (by decide) a1)) (by omega) (by decide) ?_
        refine Ev_topi (y := nI (G 1 i)) (b1 _ (by omega)) ?_
        refine Ev_ialoadN (j := G 1 i) dX12_laySoon_165 (gs (gs h45)) (by omega) (by decide) ?_
        refine Ev_topi (y := nI (rdA G cs fr.toInt A i (G 1 i))) (by rw [upd_n _ _ (by omega)]; exact hF _ (by omega)) ?_
        refine Ev_icmp_ge dX12_laySoon_166 (fun c4 => ?_) (fun c4 => ?_)
        · skip
          have c4 : (rdA G cs fr.toInt A i (G 1 i)) ≤ ((rdA G cs fr.toInt A i (G 2 i)) + (tk G fr.toInt i)) := (nle (a := rdA G cs fr.toInt A i (G 1 i)) (b := (rdA G cs fr.toInt A i (G 2 i)) + (tk G fr.toInt i)) (by omega) (by omega)).mp c4
          refine Ev_aload_n dX12_laySoon_174 rfl ?_
          refine Ev_get dX12_laySoon_175 fg_X12_49_12 (gn (by decide) (gn (by decide) hM)) rfl ?_
          refine Ev_aload_n dX12_laySoon_178 rfl ?_
          refine Ev_get dX12_laySoon_179 fg_X12_13_12 (gn (by decide) (gn (by decide) hM)) rfl ?_
          refine Ev_iload_n dX12_laySoon_182 rfl ?_
          refine Ev_ialoadN (j := i) dX12_laySoon_183 (gn (by decide) (gn (by decide) a1)) (by omega) (by decide) ?_
          refine Ev_topi (y := nI (G 1 i)) (b1 _ (by omega)) ?_
          refine Ev_ialoadN (j := G 1 i) dX12_laySoon_184 (gs (gs h45)) (by omega) (by decide) ?_
          refine Ev_topi (y := nI (rdA G cs fr.toInt A i (G 1 i))) (by rw [upd_n _ _ (by omega)]; exact hF _ (by omega)) ?_
          refine Ev_iastoreN (j := G 1 i) dX12_laySoon_185 (gs (gs h45)) (by omega) (by decide) ?_
          refine Ev_st gss ?_
          refine Ev_iinc (v := nI (i + 1)) dX12_laySoon_186 rfl (nI_1 _) rfl ?_
          refine Ev_goto dX12_laySoon_189 ?_
          refine Ev_loc (la2 := [some (.ref 31), some (.int (nI s)), some (.int (nI u)), some (.int (nI (i + 1))), none, none]) ⟨rfl, ⟨rfl, ⟨rfl, ⟨rfl, trivial⟩⟩⟩⟩ ?_
          exact Ev_st gss (ih (i + 1) _ (fun x hx => by rw [rdA_s q1]; exact rl2 (by omega) hF (by omega) (by omega) x hx) (by omega))
        · skip
          have c4 : ¬ ((rdA G cs fr.toInt A i (G 1 i)) ≤ ((rdA G cs fr.toInt A i (G 2 i)) + (tk G fr.toInt i))) := fun z => c4 ((nle (a := rdA G cs fr.toInt A i (G 1 i)) (b := (rdA G cs fr.toInt A i (G 2 i)) + (tk G fr.toInt i)) (by omega) (by omega)).mpr z)
          refine Ev_iload dX12_laySoon_169 rfl ?_
          refine Ev_goto dX12_laySoon_171 ?_
          refine Ev_iastoreN (j := G 1 i) dX12_laySoon_185 (gs (gs h45)) (by omega) (by decide) ?_
          refine Ev_st gss ?_
          refine Ev_iinc (v := nI (i + 1)) dX12_laySoon_186 rfl (nI_1 _) rfl ?_
          refine Ev_goto dX12_laySoon_189 ?_
          refine Ev_loc (la2 := [some (.ref 31), some (.int (nI s)), some (.int (nI u)), some (.int (nI (i + 1))), none, none]) ⟨rfl, ⟨rfl, ⟨rfl, ⟨rfl, trivial⟩⟩⟩⟩ ?_
          exact Ev_st gss (ih (i + 1) _ (fun x hx => by rw [rdA_s q1]; exact rl2 (by omega) hF (by omega) (by omega) x hx) (by omega))

set_option maxHeartbeats 4000000 in
set_option maxRecDepth 100000 in
theorem l_X12_soon2 {d : Nat} {S : aS} {Q : Option Value → aS → Prop} {flt du lw fr ra rp rs ea dp bm rd tr : Int32} {bi : Int64} {pl n cs : Nat} {G : Nat → Nat → Nat} (hg : GD pl n G) (hcs : cs < 512) (hM : S[31]? = some (mo flt (nI pl) (nI n) du lw fr (nI cs) ra rp rs ea dp bm bi rd tr)) (hG : MN S n G) {s : Nat} {F0 : Nat → Int32} (h45 : S[45]? = some (iA 7 F0)) (k : ∀ F, (∀ x, x < 7 → F x = nI (bfA G cs fr.toInt n 99999 s pl x)) → Q none (S.set 45 (iA 7 F)))  : ∀ (t i : Nat) (F : Nat → Int32) (hF : ∀ x, x < 7 → F x = nI (bfA G cs fr.toInt n 99999 s i x)), i + t = pl → Ev none mX12_laySoon (d + 2) 0 33 [some (.ref 31), some (.int (nI s)), some (.int (nI i)), none, none, none] [] (S.set 45 (iA 7 F)) Q := by
  have hn9 := hg.2.1
  have hp7 := hg.1
  intro t
  induction t with
  | zero =>
    intro i F hF hi
    obtain rfl : i = pl := by omega
    refine Ev_iload_n dX12_laySoon_33 rfl ?_
    refine Ev_aload_n dX12_laySoon_34 rfl ?_
    refine Ev_get dX12_laySoon_35 fg_X12_94_12 (gn (by decide) hM) rfl ?_
    refine Ev_icmp_ge dX12_laySoon_38 (fun _ => ?_) (fun c => absurd ((nle (by omega) (by omega)).mpr (Nat.le_refl _)) c)
    refine Ev_vret dX12_laySoon_198 rfl ?_
    exact k F hF
  | succ t ih =>
    intro i F hF hi
    refine Ev_iload_n dX12_laySoon_33 rfl ?_
    refine Ev_aload_n dX12_laySoon_34 rfl ?_
    refine Ev_get dX12_laySoon_35 fg_X12_94_12 (gn (by decide) hM) rfl ?_
    refine Ev_icmp_ge dX12_laySoon_38 (fun c => absurd c (fun z => absurd ((nle (by omega) (by omega)).mp z) (by omega))) (fun _ => ?_)
    refine Ev_iconst (v := 0) dX12_laySoon_41 (by decide) ?_
    refine Ev_istore_n dX12_laySoon_42 rfl ?_
    refine l_X12_soon1 (u := i) (A := bfA G cs fr.toInt n 99999 s i) hg hcs hM hG (bfA_le i) h45 (fun F2 hF2 => ?_) n 0 F hF (by omega)
    refine Ev_iinc (v := nI (i + 1)) dX12_laySoon_192 rfl (nI_1 _) rfl ?_
    refine Ev_goto dX12_laySoon_195 ?_
    refine Ev_loc (la2 := [some (.ref 31), some (.int (nI s)), some (.int (nI (i + 1))), none, none, none]) ⟨rfl, ⟨rfl, ⟨rfl, trivial⟩⟩⟩ ?_
    exact ih (i + 1) F2 hF2 (by omega)

set_option maxHeartbeats 4000000 in
set_option maxRecDepth 100000 in
theorem l_X12_soon3 {d : Nat} {S : aS} {Q : Option Value → aS → Prop} {flt du lw fr ra rp rs ea dp bm rd tr : Int32} {bi : Int64} {pl n cs : Nat} {G : Nat → Nat → Nat} (hg : GD pl n G) (hcs : cs < 512) (hM : S[31]? = some (mo flt (nI pl) (nI n) du lw fr (nI cs) ra rp rs ea dp bm bi rd tr)) (hG : MN S n G) {s : Nat} (hs : s < 7) {F0 : Nat → Int32} (h45 : S[45]? = some (iA 7 F0)) (k : ∀ F, (∀ x, x < 7 → F x = nI (bfA G cs fr.toInt n 99999 s pl x)) → Q none (S.set 45 (iA 7 F)))  : ∀ (t i : Nat) , i + t = 7 → Ev none mX12_laySoon (d + 2) 0 2 [some (.ref 31), some (.int (nI s)), some (.int (nI i)), none, none, none] [] (S.set 45 (iA 7 (mixI (gS s) F0 i))) Q := by
  have hn9 := hg.2.1
  have hp7 := hg.1
  intro t
  induction t with
  | zero =>
    intro i  hi
    obtain rfl : i = 7 := by omega
    refine Ev_iload_n dX12_laySoon_2 rfl ?_
    refine Ev_bipush (v := 7) dX12_laySoon_3 (by decide) ?_
    refine Ev_icmp_ge dX12_laySoon_5 (fun _ => ?_) (fun c => absurd ((nle (a := 7) (b := 7) (by omega) (by omega)).mpr (by omega)) c)
    refine Ev_iconst (v := 0) dX12_laySoon_31 (by decide) ?_
    refine Ev_istore_n dX12_laySoon_32 rfl ?_
    exact l_X12_soon2 (s := s) hg hcs hM hG h45 k pl 0 (mixI (gS s) F0 7) (fun x hx => by simp only [mixI, if_pos hx, gS, bfA]; split <;> rfl) (by omega)
  | succ t ih =>
    intro i  hi
    refine Ev_iload_n dX12_laySoon_2 rfl ?_
    refine Ev_bipush (v := 7) dX12_laySoon_3 (by decide) ?_
    refine Ev_icmp_ge dX12_laySoon_5 (fun c => absurd c (fun z => absurd ((nle (a := 7) (by omega) (by omega)).mp z) (by omega))) (fun _ => ?_)
    refine Ev_aload_n dX12_laySoon_8 rfl ?_
    refine Ev_get dX12_laySoon_9 fg_X12_49_12 (gn (by decide) hM) rfl ?_
    refine Ev_iload_n dX12_laySoon_12 rfl ?_
    refine Ev_iload_n dX12_laySoon_13 rfl ?_
    refine Ev_iload_n dX12_laySoon_14 rfl ?_
    refine Ev_icmp_ne dX12_laySoon_15 (fun c1 => ?_) (fun c1 => ?_)
    · skip
      have c1 : ¬ (i = s) := fun z => c1 ((nIinj (a := i) (b := s) (by omega) (by omega)).mpr z)
      refine Ev_ldc dX12_laySoon_22 wl_X12_224 ?_
      refine Ev_iastoreN (j := i) dX12_laySoon_24 (gs h45) (by omega) (by decide) ?_
      refine Ev_iinc (v := nI (i + 1)) dX12_laySoon_25 rfl (nI_1 _) rfl ?_
      refine Ev_goto dX12_laySoon_28 ?_
      refine Ev_st gss ?_
      rw [show upd (mixI (gS s) F0 i) i 99999 = mixI (gS s) F0 (i + 1) from by rw [← mixI_s, show gS s i = 99999 from if_neg c1]]
      exact ih (i + 1) (by omega)
    · skip
      have c1 : i = s := (nIinj (a := i) (b := s) (by omega) (by omega)).mp c1
      refine Ev_iconst (v := 0) dX12_laySoon_18 (by decide) ?_
      refine Ev_goto dX12_laySoon_19 ?_
      refine Ev_iastoreN (j := i) dX12_laySoon_24 (gs h45) (by omega) (by decide) ?_
      refine Ev_iinc (v := nI (i + 1)) dX12_laySoon_25 rfl (nI_1 _) rfl ?_
      refine Ev_goto dX12_laySoon_28 ?_
      refine Ev_st gss ?_
      rw [show upd (mixI (gS s) F0 i) i 0 = mixI (gS s) F0 (i + 1) from by rw [← mixI_s, show gS s i = 0 from if_pos c1]]
      exact ih (i + 1) (by omega)

set_option maxHeartbeats 4000000 in
set_option maxRecDepth 100000 in
theorem c_X12_laySoon {d : Nat} {S : aS} {Q : Option Value → aS → Prop} {flt du lw fr ra rp rs ea dp bm rd tr : Int32} {bi : Int64} {pl n cs : Nat} {G : Nat → Nat → Nat} (hg : GD pl n G) (hcs : cs < 512) (hM : S[31]? = some (mo flt (nI pl) (nI n) du lw fr (nI cs) ra rp rs ea dp bm bi rd tr)) (hG : MN S n G) {s : Nat} (hs : s < 7) {F0 : Nat → Int32} (h45 : S[45]? = some (iA 7 F0)) (k : ∀ F, (∀ x, x < 7 → F x = nI (bfA G cs fr.toInt n 99999 s pl x)) → Q none (S.set 45 (iA 7 F)))  : Mth mX12_laySoon (d + 2) 0 [.ref 31, .int (nI s)] S Q := by
  refine Mth_of (by decide) rfl ?_
  refine Ev_iconst (v := 0) dX12_laySoon_0 (by decide) ?_
  refine Ev_istore_n dX12_laySoon_1 rfl ?_
  have h0 := l_X12_soon3 (S := S) (d := d) (Q := Q) hg hcs hM hG hs h45 k 7 0 (by omega)
  rw [mixI_0, gid h45] at h0
  exact h0

set_option maxHeartbeats 4000000 in
set_option maxRecDepth 100000 in
theorem c_X12_quickest_bad {d : Nat} {S : aS} {Q : Option Value → aS → Prop} {flt du lw fr ra rp rs ea dp bm rd tr : Int32} {bi : Int64} {pl n cs : Nat} {G : Nat → Nat → Nat} (hg : GD pl n G) (hcs : cs < 512) (hM : S[31]? = some (mo flt (nI pl) (nI n) du lw fr (nI cs) ra rp rs ea dp bm bi rd tr)) (hG : MN S n G) {x : Int32} (hx : ¬ (0 ≤ x.toInt ∧ x.toInt < pl)) (k : Q (some (.int (-1))) S) : Mth mX12_quickest (d + 3) 0 [.ref 31, .int x] S Q := by
  have hn9 := hg.2.1
  have hp7 := hg.1
  refine Mth_of (by decide) rfl ?_
  refine Ev_aload_n dX12_quickest_0 rfl ?_
  refine Ev_iload_n dX12_quickest_1 rfl ?_
  refine Ev_callV (bc := 0) (b := 0) dX12_quickest_2 cv_X12_178 rfl hM (Nat.le_of_ble_eq_true rfl) (by omega) ?_
  refine c_X12_noPlace hp7 hn9 hM (fun _ => ?_) (fun q => absurd q hx)
  refine Ev_if_eq dX12_quickest_5 (fun c => absurd c (by decide)) (fun _ => ?_)
  refine Ev_iconst (v := (-1)) dX12_quickest_8 (by decide) ?_
  refine Ev_iret dX12_quickest_9 rfl rfl ?_
  exact k

set_option maxHeartbeats 4000000 in
set_option maxRecDepth 100000 in
theorem c_X12_via_bad {d : Nat} {S : aS} {Q : Option Value → aS → Prop} {flt du lw fr ra rp rs ea dp bm rd tr : Int32} {bi : Int64} {pl n cs : Nat} {G : Nat → Nat → Nat} (hg : GD pl n G) (hcs : cs < 512) (hM : S[31]? = some (mo flt (nI pl) (nI n) du lw fr (nI cs) ra rp rs ea dp bm bi rd tr)) (hG : MN S n G) {x : Int32} (hx : ¬ (0 ≤ x.toInt ∧ x.toInt < pl)) (k : Q (some (.int (-1))) S) : Mth mX12_via (d + 3) 0 [.ref 31, .int x] S Q := by
  have hn9 := hg.2.1
  have hp7 := hg.1
  refine Mth_of (by decide) rfl ?_
  refine Ev_aload_n dX12_via_0 rfl ?_
  refine Ev_iload_n dX12_via_1 rfl ?_
  refine Ev_callV (bc := 0) (b := 0) dX12_via_2 cv_X12_178 rfl hM (Nat.le_of_ble_eq_true rfl) (by omega) ?_
  refine c_X12_noPlace hp7 hn9 hM (fun _ => ?_) (fun q => absurd q hx)
  refine Ev_if_eq dX12_via_5 (fun c => absurd c (by decide)) (fun _ => ?_)
  refine Ev_iconst (v := (-1)) dX12_via_8 (by decide) ?_
  refine Ev_iret dX12_via_9 rfl rfl ?_
  exact k

set_option maxHeartbeats 4000000 in
set_option maxRecDepth 100000 in
theorem c_X12_quickest {d : Nat} {S : aS} {Q : Option Value → aS → Prop} {flt du lw fr ra rp rs ea dp bm rd tr : Int32} {bi : Int64} {pl n cs : Nat} {G : Nat → Nat → Nat} (hg : GD pl n G) (hcs : cs < 512) (hM : S[31]? = some (mo flt (nI pl) (nI n) du lw fr (nI cs) ra rp rs ea dp bm bi rd tr)) (hG : MN S n G) {F0 : Nat → Int32} (h45 : S[45]? = some (iA 7 F0)) {p : Nat} (hp : p < pl) (kn : ∀ F, 99999 ≤ bfA G cs fr.toInt n 99999 0 pl p → Q (some (.int (-9))) (S.set 45 (iA 7 F))) (ks : ∀ F, bfA G cs fr.toInt n 99999 0 pl p < 99999 → Q (some (.int (nI (bfA G cs fr.toInt n 99999 0 pl p)))) (S.set 45 (iA 7 F))) : Mth mX12_quickest (d + 3) 0 [.ref 31, .int (nI p)] S Q := by
  have hn9 := hg.2.1
  have hp7 := hg.1
  refine Mth_of (by decide) rfl ?_
  refine Ev_aload_n dX12_quickest_0 rfl ?_
  refine Ev_iload_n dX12_quickest_1 rfl ?_
  refine Ev_callV (bc := 0) (b := 0) dX12_quickest_2 cv_X12_178 rfl hM (Nat.le_of_ble_eq_true rfl) (by omega) ?_
  refine c_X12_noPlace hp7 hn9 hM (fun q => absurd q (not_not_intro (by rw [nIt (by omega)]; omega))) (fun _ => ?_)
  refine Ev_if_eq dX12_quickest_5 (fun _ => ?_) (fun c => absurd (by decide) c)
  refine Ev_aload_n dX12_quickest_10 rfl ?_
  refine Ev_iconst (v := 0) dX12_quickest_11 (by decide) ?_
  refine Ev_callV (bc := 0) (b := 0) dX12_quickest_12 cv_X12_225 rfl hM (Nat.le_of_ble_eq_true rfl) (by omega) ?_
  refine c_X12_laySoon (s := 0) hg hcs hM hG (by omega) h45 (fun F hF => ?_)
  have hbp := bfA_le (G := G) (cs := cs) (fz := fr.toInt) (n := n) (M := 99999) (s := 0) pl p
  refine Ev_aload_n dX12_quickest_15 rfl ?_
  refine Ev_get dX12_quickest_16 fg_X12_49_12 (gn (by decide) hM) rfl ?_
  refine Ev_iload_n dX12_quickest_19 rfl ?_
  refine Ev_ialoadN (j := p) dX12_quickest_20 (gs h45) (by omega) (by decide) ?_
  refine Ev_topi (y := nI (bfA G cs fr.toInt n 99999 0 pl p)) (hF _ (by omega)) ?_
  refine Ev_ldc dX12_quickest_21 wl_X12_224 ?_
  refine Ev_icmp_ge dX12_quickest_23 (fun c1 => ?_) (fun c1 => ?_)
  · skip
    have c1 : 99999 ≤ (bfA G cs fr.toInt n 99999 0 pl p) := (nle (a := 99999) (b := bfA G cs fr.toInt n 99999 0 pl p) (by omega) (by omega)).mp c1
    refine Ev_bipush (v := (-9)) dX12_quickest_35 (by decide) ?_
    refine Ev_iret dX12_quickest_37 rfl rfl ?_
    exact kn F (by omega)
  · skip
    have c1 : ¬ (99999 ≤ (bfA G cs fr.toInt n 99999 0 pl p)) := fun z => c1 ((nle (a := 99999) (b := bfA G cs fr.toInt n 99999 0 pl p) (by omega) (by omega)).mpr z)
    refine Ev_aload_n dX12_quickest_26 rfl ?_
    refine Ev_get dX12_quickest_27 fg_X12_49_12 (gn (by decide) hM) rfl ?_
    refine Ev_iload_n dX12_quickest_30 rfl ?_
    refine Ev_ialoadN (j := p) dX12_quickest_31 (gs h45) (by omega) (by decide) ?_
    refine Ev_topi (y := nI (bfA G cs fr.toInt n 99999 0 pl p)) (hF _ (by omega)) ?_
    refine Ev_goto dX12_quickest_32 ?_
    refine Ev_iret dX12_quickest_37 rfl rfl ?_
    exact ks F (by omega)

set_option maxHeartbeats 4000000 in
set_option maxRecDepth 100000 in
theorem c_X12_via {d : Nat} {S : aS} {Q : Option Value → aS → Prop} {flt du lw fr ra rp rs ea dp bm rd tr : Int32} {bi : Int64} {pl n cs : Nat} {G : Nat → Nat → Nat} (hg : GD pl n G) (hcs : cs < 512) (hM : S[31]? = some (mo flt (nI pl) (nI n) du lw fr (nI cs) ra rp rs ea dp bm bi rd tr)) (hG : MN S n G) {F0 : Nat → Int32} (h45 : S[45]? = some (iA 7 F0)) {p : Nat} (hp : p < pl) (kn : ∀ F, 99999 ≤ bfA G cs fr.toInt n 99999 p pl 0 ∨ 99999 ≤ bfA G cs fr.toInt n 99999 p pl (pl - 1) → Q (some (.int (-9))) (S.set 45 (iA 7 F))) (ks : ∀ F, bfA G cs fr.toInt n 99999 p pl 0 < 99999 → bfA G cs fr.toInt n 99999 p pl (pl - 1) < 99999 → Q (some (.int (nI (bfA G cs fr.toInt n 99999 p pl 0 + bfA G cs fr.toInt n 99999 p pl (pl - 1))))) (S.set 45 (iA 7 F))) : Mth mX12_via (d + 3) 0 [.ref 31, .int (nI p)] S Q := by
  have hn9 := hg.2.1
  have hp7 := hg.1
  refine Mth_of (by decide) rfl ?_
  refine Ev_aload_n dX12_via_0 rfl ?_
  refine Ev_iload_n dX12_via_1 rfl ?_
  refine Ev_callV (bc := 0) (b := 0) dX12_via_2 cv_X12_178 rfl hM (Nat.le_of_ble_eq_true rfl) (by omega) ?_
  refine c_X12_noPlace hp7 hn9 hM (fun q => absurd q (not_not_intro (by rw [nIt (by omega)]; omega))) (fun _ => ?_)
  refine Ev_if_eq dX12_via_5 (fun _ => ?_) (fun c => absurd (by decide) c)
  refine Ev_aload_n dX12_via_10 rfl ?_
  refine Ev_iload_n dX12_via_11 rfl ?_
  refine Ev_callV (bc := 0) (b := 0) dX12_via_12 cv_X12_225 rfl hM (Nat.le_of_ble_eq_true rfl) (by omega) ?_
  refine c_X12_laySoon (s := p) hg hcs hM hG (by omega) h45 (fun F hF => ?_)
  have hb0 := bfA_le (G := G) (cs := cs) (fz := fr.toInt) (n := n) (M := 99999) (s := p) pl 0
  have hb1 := bfA_le (G := G) (cs := cs) (fz := fr.toInt) (n := n) (M := 99999) (s := p) pl (pl - 1)
  refine Ev_aload_n dX12_via_15 rfl ?_
  refine Ev_get dX12_via_16 fg_X12_49_12 (gn (by decide) hM) rfl ?_
  refine Ev_iconst (v := 0) dX12_via_19 (by decide) ?_
  refine Ev_ialoadN (j := 0) dX12_via_20 (gs h45) (by omega) (by decide) ?_
  refine Ev_topi (y := nI (bfA G cs fr.toInt n 99999 p pl 0)) (hF _ (by omega)) ?_
  refine Ev_ldc dX12_via_21 wl_X12_224 ?_
  refine Ev_icmp_ge dX12_via_23 (fun c1 => ?_) (fun c1 => ?_)
  · skip
    have c1 : 99999 ≤ (bfA G cs fr.toInt n 99999 p pl 0) := (nle (a := 99999) (b := bfA G cs fr.toInt n 99999 p pl 0) (by omega) (by omega)).mp c1
    refine Ev_bipush (v := (-9)) dX12_via_63 (by decide) ?_
    refine Ev_iret dX12_via_65 rfl rfl ?_
    exact kn F (by omega)
  · skip
    have c1 : ¬ (99999 ≤ (bfA G cs fr.toInt n 99999 p pl 0)) := fun z => c1 ((nle (a := 99999) (b := bfA G cs fr.toInt n 99999 p pl 0) (by omega) (by omega)).mpr z)
    refine Ev_aload_n dX12_via_26 rfl ?_
    refine Ev_get dX12_via_27 fg_X12_49_12 (gn (by decide) hM) rfl ?_
    refine Ev_aload_n dX12_via_30 rfl ?_
    refine Ev_get dX12_via_31 fg_X12_94_12 (gn (by decide) hM) rfl ?_
    refine Ev_iconst (v := 1) dX12_via_34 (by decide) ?_
    refine Ev_isub dX12_via_35 ?_
    refine Ev_topi (y := nI (pl - 1)) (nsub (b := 1) (by omega)) ?_
    refine Ev_ialoadN (j := pl - 1) dX12_via_36 (gs h45) (by omega) (by decide) ?_
    refine Ev_topi (y := nI (bfA G cs fr.toInt n 99999 p pl (pl - 1))) (hF _ (by omega)) ?_
    refine Ev_ldc dX12_via_37 wl_X12_224 ?_
    refine Ev_icmp_ge dX12_via_39 (fun c2 => ?_) (fun c2 => ?_)
    · skip
      have c2 : 99999 ≤ (bfA G cs fr.toInt n 99999 p pl (pl - 1)) := (nle (a := 99999) (b := bfA G cs fr.toInt n 99999 p pl (pl - 1)) (by omega) (by omega)).mp c2
      refine Ev_bipush (v := (-9)) dX12_via_63 (by decide) ?_
      refine Ev_iret dX12_via_65 rfl rfl ?_
      exact kn F (by omega)
    · skip
      have c2 : ¬ (99999 ≤ (bfA G cs fr.toInt n 99999 p pl (pl - 1))) := fun z => c2 ((nle (a := 99999) (b := bfA G cs fr.toInt n 99999 p pl (pl - 1)) (by omega) (by omega)).mpr z)
      refine Ev_aload_n dX12_via_42 rfl ?_
      refine Ev_get dX12_via_43 fg_X12_49_12 (gn (by decide) hM) rfl ?_
      refine Ev_iconst (v := 0) dX12_via_46 (by decide) ?_
      refine Ev_ialoadN (j := 0) dX12_via_47 (gs h45) (by omega) (by decide) ?_
      refine Ev_topi (y := nI (bfA G cs fr.toInt n 99999 p pl 0)) (hF _ (by omega)) ?_
      refine Ev_aload_n dX12_via_48 rfl ?_
      refine Ev_get dX12_via_49 fg_X12_49_12 (gn (by decide) hM) rfl ?_
      refine Ev_aload_n dX12_via_52 rfl ?_
      refine Ev_get dX12_via_53 fg_X12_94_12 (gn (by decide) hM) rfl ?_
      refine Ev_iconst (v := 1) dX12_via_56 (by decide) ?_
      refine Ev_isub dX12_via_57 ?_
      refine Ev_topi (y := nI (pl - 1)) (nsub (b := 1) (by omega)) ?_
      refine Ev_ialoadN (j := pl - 1) dX12_via_58 (gs h45) (by omega) (by decide) ?_
      refine Ev_topi (y := nI (bfA G cs fr.toInt n 99999 p pl (pl - 1))) (hF _ (by omega)) ?_
      refine Ev_iadd dX12_via_59 ?_
      refine Ev_topi (y := nI ((bfA G cs fr.toInt n 99999 p pl 0) + (bfA G cs fr.toInt n 99999 p pl (pl - 1)))) (nI_add _ _) ?_
      refine Ev_goto dX12_via_60 ?_
      refine Ev_iret dX12_via_65 rfl rfl ?_
      exact ks F (by omega) (by omega)

