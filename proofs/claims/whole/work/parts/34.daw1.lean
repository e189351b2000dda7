/-! ===== dawdling: its numbers, and the reference's side ===== -/
def isG (G : Nat → Nat → Nat) (cs p k : Nat) : Nat := if (gt G cs k p).isSome then 1 else 0
def opN (G : Nat → Nat → Nat) (cs n p : Nat) : Nat := sumN (isG G cs p) n
def shN (G : Nat → Nat → Nat) (cs p e : Nat) (A : Nat → Nat) : Nat → Nat → Nat
  | 0 => A
  | k + 1 => match gt G cs k p with
    | none => shN G cs p e A k
    | some q => uz (shN G cs p e A k) q (shN G cs p e A k q + e)
def stD (G : Nat → Nat → Nat) (cs n : Nat) (w : Nat → Nat) : Nat → Nat → Nat
  | 0 => fun _ => 0
  | p + 1 => if opN G cs n p = 0 then uz (stD G cs n w p) p (stD G cs n w p p + w p * 2520) else shN G cs p (w p * (2520 / opN G cs n p)) (stD G cs n w p) n
def dwN (G : Nat → Nat → Nat) (cs n pl : Nat) : Nat → Nat → Nat
  | 0 => fun x => if x = 0 then 1 else 0
  | s + 1 => stD G cs n (dwN G cs n pl s) pl
theorem shN_no {G : Nat → Nat → Nat} {cs p e i : Nat} {A : Nat → Nat} (h : gt G cs i p = none) : shN G cs p e A (i + 1) = shN G cs p e A i := by simp only [shN, h]
theorem shN_so {G : Nat → Nat → Nat} {cs p e i q : Nat} {A : Nat → Nat} (h : gt G cs i p = some q) : shN G cs p e A (i + 1) = uz (shN G cs p e A i) q (shN G cs p e A i q + e) := by simp only [shN, h]
theorem isG_no {G : Nat → Nat → Nat} {cs p i : Nat} (h : gt G cs i p = none) : isG G cs p i = 0 := by simp [isG, h]
theorem isG_so {G : Nat → Nat → Nat} {cs p i q : Nat} (h : gt G cs i p = some q) : isG G cs p i = 1 := by simp [isG, h]
theorem isG_le (G : Nat → Nat → Nat) (cs p i : Nat) : isG G cs p i ≤ 1 := by unfold isG; split <;> omega
theorem sumN_ge {f : Nat → Nat} {k : Nat} : ∀ (n : Nat), k < n → f k ≤ sumN f n
  | 0, h => by omega
  | n + 1, h => by
    simp only [sumN]
    by_cases e : k = n
    · subst e; omega
    · have := sumN_ge (f := f) n (show k < n by omega); omega
theorem opN_le {G : Nat → Nat → Nat} {cs n p : Nat} : opN G cs n p ≤ n := by
  have := sumN_le (f := isG G cs p) (b := 1) n (fun j _ => isG_le _ _ _ _)
  unfold opN
  omega
theorem opN_pos {G : Nat → Nat → Nat} {cs n p k q : Nat} (hk : k < n) (h : gt G cs k p = some q) : opN G cs n p ≠ 0 := by
  have := sumN_ge (f := isG G cs p) n hk
  rw [isG_so h] at this
  unfold opN
  omega
theorem shN_stay {G : Nat → Nat → Nat} {cs n p e : Nat} {A : Nat → Nat} (h : opN G cs n p = 0) : ∀ m, m ≤ n → shN G cs p e A m = A
  | 0, _ => rfl
  | m + 1, hm => by
    cases hg : gt G cs m p with
    | none => rw [shN_no hg]; exact shN_stay h m (by omega)
    | some q => exact absurd h (opN_pos (show m < n by omega) hg)
def mixN (F T : Nat → Int64) (i : Nat) : Nat → Int64 := fun x => if x < i then F x else T x
theorem mixN_0 (F T : Nat → Int64) : mixN F T 0 = T := by funext j; simp [mixN]
theorem mixN_s (F T : Nat → Int64) (i : Nat) : vp_updL (mixN F T i) i (F i) = mixN F T (i + 1) := by
  funext j
  simp only [vp_updL, mixN]
  split
  · next h => subst h; rw [if_pos (by omega)]
  · split
    · rw [if_pos (by omega)]
    · rw [if_neg (by omega)]
theorem st4 {S : aS} {a b : Nat} {x y x2 y2 : aE} (h : a ≠ b) : (((S.set a x).set b y).set a x2).set b y2 = (S.set a x2).set b y2 := by
  rw [List.set_comm y x2 (fun z => h z.symm), List.set_set, List.set_set]
theorem vpl {F : Nat → Int64} {A : Nat → Nat} {q v : Nat} (hF : ∀ x, x < 7 → F x = lN (A x)) : ∀ x, x < 7 → vp_updL F q (lN v) x = lN (uz A q v x) := by
  intro x hx
  simp only [vp_updL, uz]
  split
  · rfl
  · exact hF x hx

set_option maxHeartbeats 4000000 in
set_option maxRecDepth 100000 in
theorem l_X12_openAt {d : Nat} {S : aS} {Q : Option Value → aS → Prop} {flt du lw fr ra rp rs ea dp bm rd tr : Int32} {bi : Int64} {pl n cs : Nat} {G : Nat → Nat → Nat} (hg : GD pl n G) (hcs : cs < 512) (hM : S[31]? = some (mo flt (nI pl) (nI n) du lw fr (nI cs) ra rp rs ea dp bm bi rd tr)) (hG : MN S n G) {p : Nat} (hp : p < 7) (k : Q (some (.int (nI (opN G cs n p)))) S) : ∀ (t i : Nat) , i + t = n → Ev none mX12_openAt (d + 2) 0 4 [some (.ref 31), some (.int (nI p)), some (.int (nI (sumN (isG G cs p) i))), some (.int (nI i))] [] S Q := by
  have hn9 := hg.2.1
  have hp7 := hg.1
  intro t
  induction t with
  | zero =>
    intro i  hi
    obtain rfl : i = n := by omega
    refine Ev_iload_n dX12_openAt_4 rfl ?_
    refine Ev_aload_n dX12_openAt_5 rfl ?_
    refine Ev_get dX12_openAt_6 fg_X12_101_12 hM rfl ?_
    refine Ev_icmp_ge dX12_openAt_9 (fun _ => ?_) (fun c => absurd ((nle (by omega) (by omega)).mpr (Nat.le_refl _)) c)
    refine Ev_iload_n dX12_openAt_35 rfl ?_
    refine Ev_iret dX12_openAt_36 rfl rfl ?_
    exact k
  | succ t ih =>
    intro i  hi
    refine Ev_iload_n dX12_openAt_4 rfl ?_
    refine Ev_aload_n dX12_openAt_5 rfl ?_
    refine Ev_get dX12_openAt_6 fg_X12_101_12 hM rfl ?_
    refine Ev_icmp_ge dX12_openAt_9 (fun c => absurd c (fun z => absurd ((nle (by omega) (by omega)).mp z) (by omega))) (fun _ => ?_)
    refine Ev_iload_n dX12_openAt_12 rfl ?_
    refine Ev_aload_n dX12_openAt_13 rfl ?_
    refine Ev_iload_n dX12_openAt_14 rfl ?_
    refine Ev_iload_n dX12_openAt_15 rfl ?_
    refine Ev_callV (bc := 0) (b := 0) dX12_openAt_16 cv_X12_196 rfl hM (Nat.le_of_ble_eq_true rfl) (by omega) ?_
    refine c_X12_goesTo hg hcs hM hG (show i < n by omega) (by omega) ?_
    cases hgt : gt G cs i p with
    | none =>
      refine Ev_topi (y := (-9)) rfl ?_
      refine Ev_if_ge dX12_openAt_19 (fun c => absurd c (by decide)) (fun _ => ?_)
      refine Ev_iconst (v := 0) dX12_openAt_22 (by decide) ?_
      refine Ev_goto dX12_openAt_23 ?_
      refine Ev_iadd dX12_openAt_27 ?_
      refine Ev_topi (y := nI ((sumN (isG G cs p) i) + 0)) (nI_add _ _) ?_
      refine Ev_istore_n dX12_openAt_28 rfl ?_
      refine Ev_iinc (v := nI (i + 1)) dX12_openAt_29 rfl (nI_1 _) rfl ?_
      refine Ev_goto dX12_openAt_32 ?_
      exact (show sumN (isG G cs p) (i + 1) = sumN (isG G cs p) i + 0 from by simp only [sumN, isG_no hgt]) ▸ ih (i + 1) (by omega)
    | some p2 =>
      have hp2 := (gt_some hg (show i < n by omega) hgt).2.1
      refine Ev_topi (y := nI p2) rfl ?_
      refine Ev_if_ge dX12_openAt_19 (fun _ => ?_) (fun c => absurd ((nle (a := 0) (by omega) (by omega)).mpr (Nat.zero_le _)) c)
      refine Ev_iconst (v := 1) dX12_openAt_26 (by decide) ?_
      refine Ev_iadd dX12_openAt_27 ?_
      refine Ev_topi (y := nI ((sumN (isG G cs p) i) + 1)) (nI_add _ _) ?_
      refine Ev_istore_n dX12_openAt_28 rfl ?_
      refine Ev_iinc (v := nI (i + 1)) dX12_openAt_29 rfl (nI_1 _) rfl ?_
      refine Ev_goto dX12_openAt_32 ?_
      exact (show sumN (isG G cs p) (i + 1) = sumN (isG G cs p) i + 1 from by simp only [sumN, isG_so hgt]) ▸ ih (i + 1) (by omega)

set_option maxHeartbeats 4000000 in
set_option maxRecDepth 100000 in
theorem c_X12_openAt {d : Nat} {S : aS} {Q : Option Value → aS → Prop} {flt du lw fr ra rp rs ea dp bm rd tr : Int32} {bi : Int64} {pl n cs : Nat} {G : Nat → Nat → Nat} (hg : GD pl n G) (hcs : cs < 512) (hM : S[31]? = some (mo flt (nI pl) (nI n) du lw fr (nI cs) ra rp rs ea dp bm bi rd tr)) (hG : MN S n G) {p : Nat} (hp : p < 7) (k : Q (some (.int (nI (opN G cs n p)))) S) : Mth mX12_openAt (d + 2) 0 [.ref 31, .int (nI p)] S Q := by
  refine Mth_of (by decide) rfl ?_
  refine Ev_iconst (v := 0) dX12_openAt_0 (by decide) ?_
  refine Ev_istore_n dX12_openAt_1 rfl ?_
  refine Ev_iconst (v := 0) dX12_openAt_2 (by decide) ?_
  refine Ev_istore_n dX12_openAt_3 rfl ?_
  exact l_X12_openAt hg hcs hM hG hp k n 0 (by omega)

set_option maxHeartbeats 4000000 in
set_option maxRecDepth 100000 in
theorem l_X12_god1 {d : Nat} {S : aS} {Q : Option Value → aS → Prop} {flt du lw fr ra rp rs ea dp bm rd tr : Int32} {bi : Int64} {pl n cs : Nat} {G : Nat → Nat → Nat} (hg : GD pl n G) (hcs : cs < 512) (hM : S[31]? = some (mo flt (nI pl) (nI n) du lw fr (nI cs) ra rp rs ea dp bm bi rd tr)) (hG : MN S n G) {p : Nat} (hp : p < 7) {W0 T : Nat → Int64} {w A : Nat → Nat} (h50 : S[50]? = some (lA 7 W0)) (h51 : S[51]? = some (lA 7 T)) (hT : ∀ x, x < 7 → T x = lN (w x)) (k : ∀ W, (∀ x, x < 7 → W x = lN (shN G cs p (w p * (2520 / opN G cs n p)) A n x)) → Ev none mX12_goDawdling (d + 3) 0 124 [some (.ref 31), some (.int (nI p)), some (.int (nI (opN G cs n p))), some (.int (nI n)), none] [] (S.set 50 (lA 7 W)) Q)  : ∀ (t i : Nat) (W : Nat → Int64) (hW : ∀ x, x < 7 → W x = lN (shN G cs p (w p * (2520 / opN G cs n p)) A i x)), i + t = n → Ev none mX12_goDawdling (d + 3) 0 74 [some (.ref 31), some (.int (nI p)), some (.int (nI (opN G cs n p))), some (.int (nI i)), none] [] (S.set 50 (lA 7 W)) Q := by
  have hn9 := hg.2.1
  have hp7 := hg.1
  intro t
  induction t with
  | zero =>
    intro i W hW hi
    obtain rfl : i = n := by omega
    refine Ev_iload_n dX12_goDawdling_74 rfl ?_
    refine Ev_aload_n dX12_goDawdling_75 rfl ?_
    refine Ev_get dX12_goDawdling_76 fg_X12_101_12 (gn (by decide) hM) rfl ?_
    refine Ev_icmp_ge dX12_goDawdling_79 (fun _ => ?_) (fun c => absurd ((nle (by omega) (by omega)).mpr (Nat.le_refl _)) c)
    exact k W hW
  | succ t ih =>
    intro i W hW hi
    have hop := opN_le (G := G) (cs := cs) (n := n) (p := p)
    refine Ev_iload_n dX12_goDawdling_74 rfl ?_
    refine Ev_aload_n dX12_goDawdling_75 rfl ?_
    refine Ev_get dX12_goDawdling_76 fg_X12_101_12 (gn (by decide) hM) rfl ?_
    refine Ev_icmp_ge dX12_goDawdling_79 (fun c => absurd c (fun z => absurd ((nle (by omega) (by omega)).mp z) (by omega))) (fun _ => ?_)
    refine Ev_aload_n dX12_goDawdling_82 rfl ?_
    refine Ev_iload_n dX12_goDawdling_83 rfl ?_
    refine Ev_iload_n dX12_goDawdling_84 rfl ?_
    refine Ev_callV (bc := 0) (b := 0) dX12_goDawdling_85 cv_X12_196 rfl (gn (by decide) hM) (Nat.le_of_ble_eq_true rfl) (by omega) ?_
    refine c_X12_goesTo hg hcs (gn (by decide) hM) (MN.off hG (by decide)) (show i < n by omega) (by omega) ?_
    cases hgt : gt G cs i p with
    | none =>
      refine Ev_topi (y := (-9)) rfl ?_
      refine Ev_istore dX12_goDawdling_88 rfl ?_
      refine Ev_iload dX12_goDawdling_90 rfl ?_
      refine Ev_if_lt dX12_goDawdling_92 (fun _ => ?_) (fun c => absurd (by decide) c)
      refine Ev_iinc (v := nI (i + 1)) dX12_goDawdling_118 rfl (nI_1 _) rfl ?_
      refine Ev_goto dX12_goDawdling_121 ?_
      refine Ev_loc (la2 := [some (.ref 31), some (.int (nI p)), some (.int (nI (opN G cs n p))), some (.int (nI (i + 1))), none]) ⟨rfl, ⟨rfl, ⟨rfl, ⟨rfl, trivial⟩⟩⟩⟩ ?_
      refine Ev_loc (la2 := [some (.ref 31), some (.int (nI p)), some (.int (nI (opN G cs n p))), some (.int (nI (i + 1))), none]) ⟨rfl, ⟨rfl, ⟨rfl, ⟨rfl, trivial⟩⟩⟩⟩ ?_
      exact ih (i + 1) W (fun x hx => by rw [shN_no hgt]; exact hW x hx) (by omega)
    | some p2 =>
      have hp2 := (gt_some hg (show i < n by omega) hgt).2.1
      refine Ev_topi (y := nI p2) rfl ?_
      refine Ev_istore dX12_goDawdling_88 rfl ?_
      refine Ev_iload dX12_goDawdling_90 rfl ?_
      refine Ev_if_lt dX12_goDawdling_92 (fun c => absurd c (fun z => absurd ((nlt (b := 0) (by omega) (by omega)).mp z) (Nat.not_lt_zero _))) (fun _ => ?_)
      refine Ev_aload_n dX12_goDawdling_95 rfl ?_
      refine Ev_get dX12_goDawdling_96 fg_X12_65_12 (gn (by decide) hM) rfl ?_
      refine Ev_iload dX12_goDawdling_99 rfl ?_
      refine Ev_dup2 dX12_goDawdling_101 rfl rfl ?_
      refine Ev_laloadN (j := p2) dX12_goDawdling_102 (gs h50) (by omega) (by decide) ?_
      refine Ev_topl (y := lN (shN G cs p (w p * (2520 / opN G cs n p)) A i p2)) (hW _ (by omega)) ?_
      refine Ev_aload_n dX12_goDawdling_103 rfl ?_
      refine Ev_get dX12_goDawdling_104 fg_X12_69_12 (gn (by decide) hM) rfl ?_
      refine Ev_iload_n dX12_goDawdling_107 rfl ?_
      refine Ev_laloadN (j := p) dX12_goDawdling_108 (gn (by decide) h51) (by omega) (by decide) ?_
      refine Ev_topl (y := lN (w p)) (hT _ (by omega)) ?_
      refine Ev_sipush (v := 2520) dX12_goDawdling_109 (by decide) ?_
      refine Ev_iload_n dX12_goDawdling_112 rfl ?_
      refine Ev_idiv dX12_goDawdling_113 (fun z => opN_pos (show i < n by omega) hgt ((nIinj (b := 0) (by omega) (by decide)).mp z)) ?_
      refine Ev_topi (y := nI (2520 / opN G cs n p)) (pk_div (a := 2520) (by decide) (Nat.pos_of_ne_zero (opN_pos (show i < n by omega) hgt)) (by omega)) ?_
      refine Ev_i2l dX12_goDawdling_114 ?_
      refine Ev_topl (y := lN (2520 / opN G cs n p)) (nl (Nat.lt_of_le_of_lt (Nat.div_le_self _ _) (by decide))) ?_
      refine Ev_lmul dX12_goDawdling_115 ?_
      refine Ev_topl (y := lN ((w p) * (2520 / opN G cs n p))) (lmulN _ _) ?_
      refine Ev_ladd dX12_goDawdling_116 ?_
      refine Ev_topl (y := lN ((shN G cs p (w p * (2520 / opN G cs n p)) A i p2) + ((w p) * (2520 / opN G cs n p)))) (lN_add _ _) ?_
      refine Ev_lastoreN (j := p2) dX12_goDawdling_117 (gs h50) (by omega) (by decide) ?_
      refine Ev_iinc (v := nI (i + 1)) dX12_goDawdling_118 rfl (nI_1 _) rfl ?_
      refine Ev_goto dX12_goDawdling_121 ?_
      refine Ev_loc (la2 := [some (.ref 31), some (.int (nI p)), some (.int (nI (opN G cs n p))), some (.int (nI (i + 1))), none]) ⟨rfl, ⟨rfl, ⟨rfl, ⟨rfl, trivial⟩⟩⟩⟩ ?_
      refine Ev_loc (la2 := [some (.ref 31), some (.int (nI p)), some (.int (nI (opN G cs n p))), some (.int (nI (i + 1))), none]) ⟨rfl, ⟨rfl, ⟨rfl, ⟨rfl, trivial⟩⟩⟩⟩ ?_
      exact Ev_st gss (ih (i + 1) _ (fun x hx => by rw [shN_so hgt]; exact vpl hW x hx) (by omega))

theorem stD_so {G : Nat → Nat → Nat} {cs n p : Nat} {w : Nat → Nat} (h : ¬ opN G cs n p = 0) : stD G cs n w (p + 1) = shN G cs p (w p * (2520 / opN G cs n p)) (stD G cs n w p) n := by simp only [stD, if_neg h]
theorem stD_no {G : Nat → Nat → Nat} {cs n p : Nat} {w : Nat → Nat} (h : opN G cs n p = 0) : stD G cs n w (p + 1) = uz (stD G cs n w p) p (stD G cs n w p p + w p * 2520) := by simp only [stD, if_pos h]
def gD : Nat → Int64 := fun x => if x = 0 then 1 else 0

set_option maxHeartbeats 4000000 in
set_option maxRecDepth 100000 in
theorem l_X12_god2 {d : Nat} {S : aS} {Q : Option Value → aS → Prop} {flt du lw fr ra rp rs ea dp bm rd tr : Int32} {bi : Int64} {pl n cs : Nat} {G : Nat → Nat → Nat} (hg : GD pl n G) (hcs : cs < 512) (hM : S[31]? = some (mo flt (nI pl) (nI n) du lw fr (nI cs) ra rp rs ea dp bm bi rd tr)) (hG : MN S n G) {W0 T : Nat → Int64} {w : Nat → Nat} (h50 : S[50]? = some (lA 7 W0)) (h51 : S[51]? = some (lA 7 T)) (hT : ∀ x, x < 7 → T x = lN (w x)) (k : ∀ W, (∀ x, x < 7 → W x = lN (stD G cs n w pl x)) → Q none (S.set 50 (lA 7 W)))  : ∀ (t i : Nat) (W : Nat → Int64) (hW : ∀ x, x < 7 → W x = lN (stD G cs n w i x)), i + t = pl → Ev none mX12_goDawdling (d + 3) 0 35 [some (.ref 31), some (.int (nI i)), none, none, none] [] (S.set 50 (lA 7 W)) Q := by
  have hn9 := hg.2.1
  have hp7 := hg.1
  intro t
  induction t with
  | zero =>
    intro i W hW hi
    obtain rfl : i = pl := by omega
    refine Ev_iload_n dX12_goDawdling_35 rfl ?_
    refine Ev_aload_n dX12_goDawdling_36 rfl ?_
    refine Ev_get dX12_goDawdling_37 fg_X12_94_12 (gn (by decide) hM) rfl ?_
    refine Ev_icmp_ge dX12_goDawdling_40 (fun _ => ?_) (fun c => absurd ((nle (by omega) (by omega)).mpr (Nat.le_refl _)) c)
    refine Ev_vret dX12_goDawdling_130 rfl ?_
    exact k W hW
  | succ t ih =>
    intro i W hW hi
    have hop := opN_le (G := G) (cs := cs) (n := n) (p := i)
    refine Ev_iload_n dX12_goDawdling_35 rfl ?_
    refine Ev_aload_n dX12_goDawdling_36 rfl ?_
    refine Ev_get dX12_goDawdling_37 fg_X12_94_12 (gn (by decide) hM) rfl ?_
    refine Ev_icmp_ge dX12_goDawdling_40 (fun c => absurd c (fun z => absurd ((nle (by omega) (by omega)).mp z) (by omega))) (fun _ => ?_)
    refine Ev_aload_n dX12_goDawdling_43 rfl ?_
    refine Ev_iload_n dX12_goDawdling_44 rfl ?_
    refine Ev_callV (bc := 0) (b := 0) dX12_goDawdling_45 cv_X12_273 rfl (gn (by decide) hM) (Nat.le_of_ble_eq_true rfl) (by omega) ?_
    refine c_X12_openAt hg hcs (gn (by decide) hM) (MN.off hG (by decide)) (show i < 7 by omega) ?_
    refine Ev_istore_n dX12_goDawdling_48 rfl ?_
    refine Ev_iload_n dX12_goDawdling_49 rfl ?_
    refine Ev_if_ne dX12_goDawdling_50 (fun c1 => ?_) (fun c1 => ?_)
    · skip
      have c1 : ¬ ((opN G cs n i) = 0) := fun z => c1 ((nIinj (a := opN G cs n i) (b := 0) (by omega) (by omega)).mpr z)
      refine Ev_iconst (v := 0) dX12_goDawdling_72 (by decide) ?_
      refine Ev_istore_n dX12_goDawdling_73 rfl ?_
      refine l_X12_god1 (p := i) (w := w) (A := stD G cs n w i) hg hcs hM hG (by omega) h50 h51 hT (fun W2 hW2 => ?_) n 0 _ hW (by omega)
      have hW3 : ∀ x, x < 7 → W2 x = lN (stD G cs n w (i + 1) x) := fun x hx => by rw [stD_so c1]; exact hW2 x hx
      refine Ev_iinc (v := nI (i + 1)) dX12_goDawdling_124 rfl (nI_1 _) rfl ?_
      refine Ev_goto dX12_goDawdling_127 ?_
      refine Ev_loc (la2 := [some (.ref 31), some (.int (nI (i + 1))), none, none, none]) ⟨rfl, ⟨rfl, trivial⟩⟩ ?_
      exact ih (i + 1) W2 hW3 (by omega)
    · skip
      have c1 : (opN G cs n i) = 0 := (nIinj (a := opN G cs n i) (b := 0) (by omega) (by omega)).mp c1
      refine Ev_aload_n dX12_goDawdling_53 rfl ?_
      refine Ev_get dX12_goDawdling_54 fg_X12_65_12 (gn (by decide) hM) rfl ?_
      refine Ev_iload_n dX12_goDawdling_57 rfl ?_
      refine Ev_dup2 dX12_goDawdling_58 rfl rfl ?_
      refine Ev_laloadN (j := i) dX12_goDawdling_59 (gs h50) (by omega) (by decide) ?_
      refine Ev_topl (y := lN (stD G cs n w i i)) (hW _ (by omega)) ?_
      refine Ev_aload_n dX12_goDawdling_60 rfl ?_
      refine Ev_get dX12_goDawdling_61 fg_X12_69_12 (gn (by decide) hM) rfl ?_
      refine Ev_iload_n dX12_goDawdling_64 rfl ?_
      refine Ev_laloadN (j := i) dX12_goDawdling_65 (gn (by decide) h51) (by omega) (by decide) ?_
      refine Ev_topl (y := lN (w i)) (hT _ (by omega)) ?_
      refine Ev_ldc2 dX12_goDawdling_66 wl_X12_276 ?_
      refine Ev_lmul dX12_goDawdling_69 ?_
      refine Ev_topl (y := lN ((w i) * 2520)) (lmulN _ _) ?_
      refine Ev_ladd dX12_goDawdling_70 ?_
      refine Ev_topl (y := lN ((stD G cs n w i i) + ((w i) * 2520))) (lN_add _ _) ?_
      refine Ev_lastoreN (j := i) dX12_goDawdling_71 (gs h50) (by omega) (by decide) ?_
      refine Ev_iconst (v := 0) dX12_goDawdling_72 (by decide) ?_
      refine Ev_istore_n dX12_goDawdling_73 rfl ?_
      refine Ev_st gss ?_
      refine l_X12_god1 (p := i) (w := w) (A := uz (stD G cs n w i) i (stD G cs n w i i + w i * 2520)) hg hcs hM hG (by omega) h50 h51 hT (fun W2 hW2 => ?_) n 0 _ (vpl hW) (by omega)
      have hW3 : ∀ x, x < 7 → W2 x = lN (stD G cs n w (i + 1) x) := fun x hx => by rw [stD_no c1]; have h8 := hW2 x hx; rw [shN_stay c1 n (Nat.le_refl _)] at h8; exact h8
      refine Ev_iinc (v := nI (i + 1)) dX12_goDawdling_124 rfl (nI_1 _) rfl ?_
      refine Ev_goto dX12_goDawdling_127 ?_
      refine Ev_loc (la2 := [some (.ref 31), some (.int (nI (i + 1))), none, none, none]) ⟨rfl, ⟨rfl, trivial⟩⟩ ?_
      exact ih (i + 1) W2 hW3 (by omega)

set_option maxHeartbeats 4000000 in
set_option maxRecDepth 100000 in
theorem l_X12_god3 {d : Nat} {S : aS} {Q : Option Value → aS → Prop} {flt du lw fr ra rp rs ea dp bm rd tr : Int32} {bi : Int64} {pl n cs : Nat} {G : Nat → Nat → Nat} (hg : GD pl n G) (hcs : cs < 512) (hM : S[31]? = some (mo flt (nI pl) (nI n) du lw fr (nI cs) ra rp rs ea dp bm bi rd tr)) (hG : MN S n G) {F0 T0 : Nat → Int64} {w : Nat → Nat} (h50 : S[50]? = some (lA 7 F0)) (h51 : S[51]? = some (lA 7 T0)) (hF : ∀ x, x < 7 → F0 x = lN (w x)) (k : ∀ W T, (∀ x, x < 7 → W x = lN (stD G cs n w pl x)) → Q none ((S.set 51 (lA 7 T)).set 50 (lA 7 W)))  : ∀ (t i : Nat) , i + t = 7 → Ev none mX12_goDawdling (d + 3) 0 2 [some (.ref 31), some (.int (nI i)), none, none, none] [] ((S.set 51 (lA 7 (mixN F0 T0 i))).set 50 (lA 7 (filN F0 0 i))) Q := by
  have hn9 := hg.2.1
  have hp7 := hg.1
  intro t
  induction t with
  | zero =>
    intro i  hi
    obtain rfl : i = 7 := by omega
    refine Ev_iload_n dX12_goDawdling_2 rfl ?_
    refine Ev_bipush (v := 7) dX12_goDawdling_3 (by decide) ?_
    refine Ev_icmp_ge dX12_goDawdling_5 (fun _ => ?_) (fun c => absurd ((nle (a := 7) (b := 7) (by omega) (by omega)).mpr (by omega)) c)
    refine Ev_iconst (v := 0) dX12_goDawdling_33 (by decide) ?_
    refine Ev_istore_n dX12_goDawdling_34 rfl ?_
    exact l_X12_god2 (S := S.set 51 (lA 7 (mixN F0 T0 7))) (w := w) hg hcs (gn (by decide) hM) (MN.off hG (by decide)) (gn (by decide) h50) (gs h51) (fun x hx => by simp only [mixN, if_pos hx]; exact hF x hx) (fun W hW => k W _ hW) pl 0 (filN F0 0 7) (fun x hx => by simp only [filN, if_pos hx]; rfl) (by omega)
  | succ t ih =>
    intro i  hi
    refine Ev_iload_n dX12_goDawdling_2 rfl ?_
    refine Ev_bipush (v := 7) dX12_goDawdling_3 (by decide) ?_
    refine Ev_icmp_ge dX12_goDawdling_5 (fun c => absurd c (fun z => absurd ((nle (a := 7) (by omega) (by omega)).mp z) (by omega))) (fun _ => ?_)
    refine Ev_aload_n dX12_goDawdling_8 rfl ?_
    refine Ev_get dX12_goDawdling_9 fg_X12_69_12 (gn (by decide) (gn (by decide) hM)) rfl ?_
    refine Ev_iload_n dX12_goDawdling_12 rfl ?_
    refine Ev_aload_n dX12_goDawdling_13 rfl ?_
    refine Ev_get dX12_goDawdling_14 fg_X12_65_12 (gn (by decide) (gn (by decide) hM)) rfl ?_
    refine Ev_iload_n dX12_goDawdling_17 rfl ?_
    refine Ev_laloadN (j := i) dX12_goDawdling_18 (gs (gn (by decide) h50)) (by omega) (by decide) ?_
    refine Ev_topl (y := F0 i) (by simp [filN]) ?_
    refine Ev_lastoreN (j := i) dX12_goDawdling_19 (gn (by decide) (gs h51)) (by omega) (by decide) ?_
    refine Ev_aload_n dX12_goDawdling_20 rfl ?_
    refine Ev_get dX12_goDawdling_21 fg_X12_65_12 (gn (by decide) (gn (by decide) (gn (by decide) hM))) rfl ?_
    refine Ev_iload_n dX12_goDawdling_24 rfl ?_
    refine Ev_lconst (v := 0) dX12_goDawdling_25 (by decide) ?_
    refine Ev_lastoreN (j := i) dX12_goDawdling_26 (gn (by decide) (gs (gn (by decide) h50))) (by omega) (by decide) ?_
    refine Ev_iinc (v := nI (i + 1)) dX12_goDawdling_27 rfl (nI_1 _) rfl ?_
    refine Ev_goto dX12_goDawdling_30 ?_
    refine Ev_st (st4 (by decide)) ?_
    rw [mixN_s, filN_sL]
    exact ih (i + 1) (by omega)

set_option maxHeartbeats 4000000 in
set_option maxRecDepth 100000 in
theorem c_X12_god {d : Nat} {S : aS} {Q : Option Value → aS → Prop} {flt du lw fr ra rp rs ea dp bm rd tr : Int32} {bi : Int64} {pl n cs : Nat} {G : Nat → Nat → Nat} (hg : GD pl n G) (hcs : cs < 512) (hM : S[31]? = some (mo flt (nI pl) (nI n) du lw fr (nI cs) ra rp rs ea dp bm bi rd tr)) (hG : MN S n G) {F0 T0 : Nat → Int64} {w : Nat → Nat} (h50 : S[50]? = some (lA 7 F0)) (h51 : S[51]? = some (lA 7 T0)) (hF : ∀ x, x < 7 → F0 x = lN (w x)) (k : ∀ W T, (∀ x, x < 7 → W x = lN (stD G cs n w pl x)) → Q none ((S.set 51 (lA 7 T)).set 50 (lA 7 W)))  : Mth mX12_goDawdling (d + 3) 0 [.ref 31] S Q := by
  refine Mth_of (by decide) rfl ?_
  refine Ev_iconst (v := 0) dX12_goDawdling_0 (by decide) ?_
  refine Ev_istore_n dX12_goDawdling_1 rfl ?_
  have h0 := l_X12_god3 (S := S) (d := d) (Q := Q) hg hcs hM hG h50 h51 hF k 7 0 (by omega)
  rw [mixN_0, filN_0, gid h51, gid h50] at h0
  exact h0

set_option maxHeartbeats 4000000 in
set_option maxRecDepth 100000 in
theorem c_X12_dawdle_bad {d : Nat} {S : aS} {Q : Option Value → aS → Prop} {flt du lw fr ra rp rs ea dp bm rd tr : Int32} {bi : Int64} {pl n cs : Nat} {G : Nat → Nat → Nat} (hg : GD pl n G) (hcs : cs < 512) (hM : S[31]? = some (mo flt (nI pl) (nI n) du lw fr (nI cs) ra rp rs ea dp bm bi rd tr)) (hG : MN S n G) {x y v : Int32} (hx : ¬ ((0 ≤ y.toInt ∧ y.toInt < pl) ∧ (0 ≤ x.toInt ∧ x.toInt ≤ 5) ∧ (0 ≤ v.toInt ∧ v.toInt ≤ 1))) (k : Q (some (.long (-9223372036854775808))) S) : Mth mX12_dawdle (d + 5) 0 [.ref 31, .int x, .int y, .int v] S Q := by
  have hn9 := hg.2.1
  have hp7 := hg.1
  refine Mth_of (by decide) rfl ?_
  refine Ev_aload_n dX12_dawdle_0 rfl ?_
  refine Ev_iload_n dX12_dawdle_1 rfl ?_
  refine Ev_callV (bc := 0) (b := 0) dX12_dawdle_2 cv_X12_178 rfl hM (Nat.le_of_ble_eq_true rfl) (by omega) ?_
  refine c_X12_noPlace hp7 hn9 hM (fun q1 => ?_) (fun q1 => ?_)
  · skip
    refine Ev_if_ne dX12_dawdle_5 (fun _ => ?_) (fun c => absurd c (by decide))
    refine Ev_callS (bc := 0) (b := 0) dX12_dawdle_30 cs_X12_90 rfl (Nat.le_of_ble_eq_true rfl) (by omega) ?_
    refine c_X12_lost ?_
    refine Ev_lret dX12_dawdle_33 rfl ?_
    exact k
  · skip
    refine Ev_if_ne dX12_dawdle_5 (fun c => absurd (by decide) c) (fun _ => ?_)
    refine Ev_iload_n dX12_dawdle_8 rfl ?_
    refine Ev_i2l dX12_dawdle_9 ?_
    refine Ev_lconst (v := 0) dX12_dawdle_10 (by decide) ?_
    refine Ev_ldc2 dX12_dawdle_11 wl_X12_252 ?_
    refine Ev_callS (bc := 0) (b := 0) dX12_dawdle_14 cs_X12_97 rfl (Nat.le_of_ble_eq_true rfl) (by omega) ?_
    refine c_X12_in (x := _) (y := 0) (z := 5) (x64 _) rfl rfl (fun q2 => ?_) (fun q2 => ?_)
    · skip
      refine Ev_if_eq dX12_dawdle_17 (fun c => absurd c (by decide)) (fun _ => ?_)
      refine Ev_iload_n dX12_dawdle_20 rfl ?_
      refine Ev_i2l dX12_dawdle_21 ?_
      refine Ev_lconst (v := 0) dX12_dawdle_22 (by decide) ?_
      refine Ev_lconst (v := 1) dX12_dawdle_23 (by decide) ?_
      refine Ev_callS (bc := 0) (b := 0) dX12_dawdle_24 cs_X12_97 rfl (Nat.le_of_ble_eq_true rfl) (by omega) ?_
      refine c_X12_in (x := _) (y := 0) (z := 1) (x64 _) rfl rfl (fun q3 => ?_) (fun q3 => ?_)
      · skip
        refine Ev_if_ne dX12_dawdle_27 (fun _ => ?_) (fun c => absurd c (by decide))
        exact absurd ⟨q1, q2, q3⟩ hx
      · skip
        refine Ev_if_ne dX12_dawdle_27 (fun c => absurd (by decide) c) (fun _ => ?_)
        refine Ev_callS (bc := 0) (b := 0) dX12_dawdle_30 cs_X12_90 rfl (Nat.le_of_ble_eq_true rfl) (by omega) ?_
        refine c_X12_lost ?_
        refine Ev_lret dX12_dawdle_33 rfl ?_
        exact k
    · skip
      refine Ev_if_eq dX12_dawdle_17 (fun _ => ?_) (fun c => absurd (by decide) c)
      refine Ev_callS (bc := 0) (b := 0) dX12_dawdle_30 cs_X12_90 rfl (Nat.le_of_ble_eq_true rfl) (by omega) ?_
      refine c_X12_lost ?_
      refine Ev_lret dX12_dawdle_33 rfl ?_
      exact k

set_option maxHeartbeats 4000000 in
set_option maxRecDepth 100000 in
theorem l_X12_daw2 {d : Nat} {S : aS} {Q : Option Value → aS → Prop} {flt du lw fr ra rp rs ea dp bm rd tr : Int32} {bi : Int64} {pl n cs : Nat} {G : Nat → Nat → Nat} (hg : GD pl n G) (hcs : cs < 512) (hM : S[31]? = some (mo flt (nI pl) (nI n) du lw fr (nI cs) ra rp rs ea dp bm bi rd tr)) (hG : MN S n G) {m p : Nat} (hm : m ≤ 5) (hp : p < pl) {v : Int32} {F0 T0 : Nat → Int64} (h50 : S[50]? = some (lA 7 F0)) (h51 : S[51]? = some (lA 7 T0)) (hdw : dwN G cs n pl m p < 2 ^ 63) (k : ∀ T W, Q (some (.long (lN ((if v = 0 then dwN G cs n pl m p else 2520 ^ m) / Nat.gcd (dwN G cs n pl m p) (2520 ^ m))))) ((S.set 51 (lA 7 T)).set 50 (lA 7 W)))  : ∀ (t i : Nat) (W T : Nat → Int64) (hW : ∀ x, x < 7 → W x = lN (dwN G cs n pl i x)), i + t = m → Ev none mX12_dawdle (d + 5) 0 73 [some (.ref 31), some (.int (nI m)), some (.int (nI p)), some (.int v), some (.long (lN (2520 ^ i))), none, some (.int (nI i))] [] ((S.set 51 (lA 7 T)).set 50 (lA 7 W)) Q := by
  have hn9 := hg.2.1
  have hp7 := hg.1
  intro t
  induction t with
  | zero =>
    intro i W T hW hi
    obtain rfl : i = m := by omega
    have hten : 2520 ^ i < 2 ^ 63 := Nat.lt_of_le_of_lt (Nat.pow_le_pow_right (by decide) hm) (by decide)
    refine Ev_iload dX12_dawdle_73 rfl ?_
    refine Ev_iload_n dX12_dawdle_75 rfl ?_
    refine Ev_icmp_ge dX12_dawdle_76 (fun _ => ?_) (fun c => absurd ((nle (by omega) (by omega)).mpr (Nat.le_refl _)) c)
    refine Ev_aload_n dX12_dawdle_97 rfl ?_
    refine Ev_get dX12_dawdle_98 fg_X12_65_12 (gn (by decide) (gn (by decide) hM)) rfl ?_
    refine Ev_iload_n dX12_dawdle_101 rfl ?_
    refine Ev_laloadN (j := p) dX12_dawdle_102 (gs (gn (by decide) h50)) (by omega) (by decide) ?_
    refine Ev_topl (y := lN (dwN G cs n pl i p)) (hW _ (by omega)) ?_
    refine Ev_lload dX12_dawdle_103 rfl ?_
    refine Ev_iload_n dX12_dawdle_105 rfl ?_
    refine Ev_callS (bc := 0) (b := 0) dX12_dawdle_106 cs_X12_220 rfl (Nat.le_of_ble_eq_true rfl) (by omega) ?_
    refine c_X12_told hdw (Nat.pow_pos (by decide)) hten ?_
    refine Ev_lret dX12_dawdle_109 rfl ?_
    exact k T W
  | succ t ih =>
    intro i W T hW hi
    refine Ev_iload dX12_dawdle_73 rfl ?_
    refine Ev_iload_n dX12_dawdle_75 rfl ?_
    refine Ev_icmp_ge dX12_dawdle_76 (fun c => absurd c (fun z => absurd ((nle (by omega) (by omega)).mp z) (by omega))) (fun _ => ?_)
    refine Ev_aload_n dX12_dawdle_79 rfl ?_
    refine Ev_callV (bc := 0) (b := 0) dX12_dawdle_80 cv_X12_278 rfl (gn (by decide) (gn (by decide) hM)) (Nat.le_of_ble_eq_true rfl) (by omega) ?_
    refine c_X12_god (w := dwN G cs n pl i) hg hcs (gn (by decide) (gn (by decide) hM)) (MN.off (MN.off hG (by decide)) (by decide)) (gs (gn (by decide) h50)) (gn (by decide) (gs h51)) hW (fun W2 T2 hW2 => ?_)
    refine Ev_lload dX12_dawdle_83 rfl ?_
    refine Ev_ldc2 dX12_dawdle_85 wl_X12_276 ?_
    refine Ev_lmul dX12_dawdle_88 ?_
    refine Ev_topl (y := lN ((2520 ^ i) * 2520)) (lmulN _ _) ?_
    refine Ev_lstore dX12_dawdle_89 rfl ?_
    refine Ev_iinc (v := nI (i + 1)) dX12_dawdle_91 rfl (nI_1 _) rfl ?_
    refine Ev_goto dX12_dawdle_94 ?_
    refine Ev_st (st4 (by decide)) ?_
    exact (Nat.pow_succ (n := 2520) (m := i)) ▸ ih (i + 1) W2 T2 hW2 (by omega)

set_option maxHeartbeats 4000000 in
set_option maxRecDepth 100000 in
theorem l_X12_daw1 {d : Nat} {S : aS} {Q : Option Value → aS → Prop} {flt du lw fr ra rp rs ea dp bm rd tr : Int32} {bi : Int64} {pl n cs : Nat} {G : Nat → Nat → Nat} (hg : GD pl n G) (hcs : cs < 512) (hM : S[31]? = some (mo flt (nI pl) (nI n) du lw fr (nI cs) ra rp rs ea dp bm bi rd tr)) (hG : MN S n G) {m p : Nat} (hm : m ≤ 5) (hp : p < pl) {v : Int32} {F0 T0 : Nat → Int64} (h50 : S[50]? = some (lA 7 F0)) (h51 : S[51]? = some (lA 7 T0)) (hdw : dwN G cs n pl m p < 2 ^ 63) (k : ∀ T W, Q (some (.long (lN ((if v = 0 then dwN G cs n pl m p else 2520 ^ m) / Nat.gcd (dwN G cs n pl m p) (2520 ^ m))))) ((S.set 51 (lA 7 T)).set 50 (lA 7 W)))  : ∀ (t i : Nat) , i + t = 7 → Ev none mX12_dawdle (d + 5) 0 40 [some (.ref 31), some (.int (nI m)), some (.int (nI p)), some (.int v), some (.long 1), none, some (.int (nI i))] [] (S.set 50 (lA 7 (mixN gD F0 i))) Q := by
  have hn9 := hg.2.1
  have hp7 := hg.1
  intro t
  induction t with
  | zero =>
    intro i  hi
    obtain rfl : i = 7 := by omega
    refine Ev_iload dX12_dawdle_40 rfl ?_
    refine Ev_bipush (v := 7) dX12_dawdle_42 (by decide) ?_
    refine Ev_icmp_ge dX12_dawdle_44 (fun _ => ?_) (fun c => absurd ((nle (a := 7) (b := 7) (by omega) (by omega)).mpr (by omega)) c)
    refine Ev_iconst (v := 0) dX12_dawdle_70 (by decide) ?_
    refine Ev_istore dX12_dawdle_71 rfl ?_
    have h0 := l_X12_daw2 (S := S) (d := d) (Q := Q) hg hcs hM hG hm hp h50 h51 hdw k m 0 (mixN gD F0 7) T0 (fun x hx => by simp only [mixN, if_pos hx, gD, dwN]; split <;> rfl) (by omega)
    rw [gid h51] at h0
    exact h0
  | succ t ih =>
    intro i  hi
    refine Ev_iload dX12_dawdle_40 rfl ?_
    refine Ev_bipush (v := 7) dX12_dawdle_42 (by decide) ?_
    refine Ev_icmp_ge dX12_dawdle_44 (fun c => absurd c (fun z => absurd ((nle (a := 7) (by omega) (by omega)).mp z) (by omega))) (fun _ => ?_)
    refine Ev_aload_n dX12_dawdle_47 rfl ?_
    refine Ev_get dX12_dawdle_48 fg_X12_65_12 (gn (by decide) hM) rfl ?_
    refine Ev_iload dX12_dawdle_51 rfl ?_
    refine Ev_iload dX12_dawdle_53 rfl ?_
    refine Ev_if_ne dX12_dawdle_55 (fun c1 => ?_) (fun c1 => ?_)
    · skip
      have c1 : ¬ (i = 0) := fun z => c1 ((nIinj (a := i) (b := 0) (by omega) (by omega)).mpr z)
      refine Ev_lconst (v := 0) dX12_dawdle_62 (by decide) ?_
      refine Ev_lastoreN (j := i) dX12_dawdle_63 (gs h50) (by omega) (by decide) ?_
      refine Ev_iinc (v := nI (i + 1)) dX12_dawdle_64 rfl (nI_1 _) rfl ?_
      refine Ev_goto dX12_dawdle_67 ?_
      refine Ev_st gss ?_
      rw [show vp_updL (mixN gD F0 i) i 0 = mixN gD F0 (i + 1) from by rw [← mixN_s, show gD i = 0 from if_neg c1]]
      exact ih (i + 1) (by omega)
    · skip
      have c1 : i = 0 := (nIinj (a := i) (b := 0) (by omega) (by omega)).mp c1
      refine Ev_lconst (v := 1) dX12_dawdle_58 (by decide) ?_
      refine Ev_goto dX12_dawdle_59 ?_
      refine Ev_lastoreN (j := i) dX12_dawdle_63 (gs h50) (by omega) (by decide) ?_
      refine Ev_iinc (v := nI (i + 1)) dX12_dawdle_64 rfl (nI_1 _) rfl ?_
      refine Ev_goto dX12_dawdle_67 ?_
      refine Ev_st gss ?_
      rw [show vp_updL (mixN gD F0 i) i 1 = mixN gD F0 (i + 1) from by rw [← mixN_s, show gD i = 1 from if_pos c1]]
      exact ih (i + 1) (by omega)

set_option maxHeartbeats 4000000 in
set_option maxRecDepth 100000 in
theorem c_X12_dawdle {d : Nat} {S : aS} {Q : Option Value → aS → Prop} {flt du lw fr ra rp rs ea dp bm rd tr : Int32} {bi : Int64} {pl n cs : Nat} {G : Nat → Nat → Nat} (hg : GD pl n G) (hcs : cs < 512) (hM : S[31]? = some (mo flt (nI pl) (nI n) du lw fr (nI cs) ra rp rs ea dp bm bi rd tr)) (hG : MN S n G) {m p : Nat} (hm : m ≤ 5) (hp : p < pl) {v : Int32} (hv : 0 ≤ v.toInt ∧ v.toInt ≤ 1) {F0 T0 : Nat → Int64} (h50 : S[50]? = some (lA 7 F0)) (h51 : S[51]? = some (lA 7 T0)) (hdw : dwN G cs n pl m p < 2 ^ 63) (k : ∀ T W, Q (some (.long (lN ((if v = 0 then dwN G cs n pl m p else 2520 ^ m) / Nat.gcd (dwN G cs n pl m p) (2520 ^ m))))) ((S.set 51 (lA 7 T)).set 50 (lA 7 W)))  : Mth mX12_dawdle (d + 5) 0 [.ref 31, .int (nI m), .int (nI p), .int v] S Q := by
  have hn9 := hg.2.1
  have hp7 := hg.1
  refine Mth_of (by decide) rfl ?_
  refine Ev_aload_n dX12_dawdle_0 rfl ?_
  refine Ev_iload_n dX12_dawdle_1 rfl ?_
  refine Ev_callV (bc := 0) (b := 0) dX12_dawdle_2 cv_X12_178 rfl hM (Nat.le_of_ble_eq_true rfl) (by omega) ?_
  refine c_X12_noPlace hp7 hn9 hM (fun q => absurd q (not_not_intro (by rw [nIt (by omega)]; omega))) (fun _ => ?_)
  refine Ev_if_ne dX12_dawdle_5 (fun c => absurd (by decide) c) (fun _ => ?_)
  refine Ev_iload_n dX12_dawdle_8 rfl ?_
  refine Ev_i2l dX12_dawdle_9 ?_
  refine Ev_topl (y := lN m) (nl (by omega)) ?_
  refine Ev_lconst (v := 0) dX12_dawdle_10 (by decide) ?_
  refine Ev_ldc2 dX12_dawdle_11 wl_X12_252 ?_
  refine Ev_callS (bc := 0) (b := 0) dX12_dawdle_14 cs_X12_97 rfl (Nat.le_of_ble_eq_true rfl) (by omega) ?_
  refine c_X12_in (x := (m : Int)) (y := 0) (z := 5) (lN_toInt (by omega)) rfl rfl (fun _ => ?_) (fun q => absurd (by omega) q)
  refine Ev_if_eq dX12_dawdle_17 (fun c => absurd c (by decide)) (fun _ => ?_)
  refine Ev_iload_n dX12_dawdle_20 rfl ?_
  refine Ev_i2l dX12_dawdle_21 ?_
  refine Ev_lconst (v := 0) dX12_dawdle_22 (by decide) ?_
  refine Ev_lconst (v := 1) dX12_dawdle_23 (by decide) ?_
  refine Ev_callS (bc := 0) (b := 0) dX12_dawdle_24 cs_X12_97 rfl (Nat.le_of_ble_eq_true rfl) (by omega) ?_
  refine c_X12_in (x := _) (y := 0) (z := 1) (x64 _) rfl rfl (fun _ => ?_) (fun q => absurd hv q)
  refine Ev_if_ne dX12_dawdle_27 (fun _ => ?_) (fun c => absurd c (by decide))
  refine Ev_lconst (v := 1) dX12_dawdle_34 (by decide) ?_
  refine Ev_lstore dX12_dawdle_35 rfl ?_
  refine Ev_iconst (v := 0) dX12_dawdle_37 (by decide) ?_
  refine Ev_istore dX12_dawdle_38 rfl ?_
  have h0 := l_X12_daw1 (S := S) (d := d) (Q := Q) hg hcs hM hG hm hp h50 h51 hdw k 7 0 (by omega)
  rw [mixN_0, gid h50] at h0
  exact h0

