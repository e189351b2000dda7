/-! ===== dawdling: its numbers, and the reference's side ===== -/
def isG (G : Nat → Nat → Nat) (cs p k : Nat) : Nat := if (gt G cs k p).isSome then 1 else 0
def opN (G : Nat → Nat → Nat) (cs n p : Nat) : Nat := sumN (isG G cs p) n
def shN (G : Nat → Nat → Nat) (cs p e : Nat) (A : Nat → Nat) : Nat → Nat → Nat
  | 0 => A
  | k + 1 => match gt G cs k p with
    | none => shN G cs p e A k
    | some q => uz (shN G cs p e A k) q (shN G cs p e A k q + e)
def stD (G : Nat → Nat → Nat) (cs n : Nat) (w : Nat → Nat) : Nat → Nat → Nat
  | 0 => fun _ => 0
  | p + 1 => if opN G cs n p = 0 then uz (stD G cs n w p) p (stD G cs n w p p + w p * 2520) else shN G cs p (w p * (2520 / opN G cs n p)) (stD G cs n w p) n
def dwN (G : Nat → Nat → Nat) (cs n pl : Nat) : Nat → Nat → Nat
  | 0 => fun x => if x = 0 then 1 else 0
  | s + 1 => stD G cs n (dwN G cs n pl s) pl
theorem shN_no {G : Nat → Nat → Nat} {cs p e i : Nat} {A : Nat → Nat} (h : gt G cs i p = none) : shN G cs p e A (i + 1) = shN G cs p e A i := by simp only [shN, h]
theorem shN_so {G : Nat → Nat → Nat} {cs p e i q : Nat} {A : Nat → Nat} (h : gt G cs i p = some q) : shN G cs p e A (i + 1) = uz (shN G cs p e A i) q (shN G cs p e A i q + e) := by simp only [shN, h]
theorem isG_no {G : Nat → Nat → Nat} {cs p i : Nat} (h : gt G cs i p = none) : isG G cs p i = 0 := by simp [isG, h]
theorem isG_so {G : Nat → Nat → Nat} {cs p i q : Nat} (h : gt G cs i p = some q) : isG G cs p i = 1 := by simp [isG, h]
theorem isG_le (G : Nat → Nat → Nat) (cs p i : Nat) : isG G cs p i ≤ 1 := by unfold isG; split <;> omega
theorem sumN_ge {f : Nat → Nat} {k : Nat} : ∀ (n : Nat), k < n → f k ≤ sumN f n
  | 0, h => by omega
  | n + 1, h => by
    simp only [sumN]
    by_cases e : k = n
    · subst e; omega
    · have := sumN_ge (f := f) n (show k < n by omega); omega
theorem opN_le {G : Nat → Nat → Nat} {cs n p : Nat} : opN G cs n p ≤ n := by
  have := sumN_le (f := isG G cs p) (b := 1) n (fun j _ => isG_le _ _ _ _)
  unfold opN
  omega
theorem opN_pos {G : Nat → Nat → Nat} {cs n p k q : Nat} (hk : k < n) (h : gt G cs k p = some q) : opN G cs n p ≠ 0 := by
  have := sumN_ge (f := isG G cs p) n hk
  rw [isG_so h] at this
  unfold opN
  omega
theorem shN_stay {G : Nat → Nat → Nat} {cs n p e : Nat} {A : Nat → Nat} (h : opN G cs n p = 0) : ∀ m, m ≤ n → shN G cs p e A m = A
  | 0, _ => rfl
  | m + 1, hm => by
    cases hg : gt G cs m p with
    | none => rw [shN_no hg]; exact shN_stay h m (by omega)
    | some q => exact absurd h (opN_pos (show m < n by omega) hg)
def mixN (F T : Nat → Int64) (i : Nat) : Nat → Int64 := fun x => if x < i then F x else T x
theorem mixN_0 (F T : Nat → Int64) : mixN F T 0 = T := by funext j; simp [mixN]
theorem mixN_s (F T : Nat → Int64) (i : Nat) : vp_updL (mixN F T i) i (F i) = mixN F T (i + 1) := by
  funext j
  simp only [vp_updL, mixN]
  split
  · next h => subst h; rw [if_pos (by omega)]
  · split
    · rw [if_pos (by omega)]
    · rw [if_neg (by omega)]
theorem st4 {S : aS} {a b : Nat} {x y x2 y2 : aE} (h : a ≠ b) : (((S.set a x).set b y).set a x2).set b y2 = (S.set a x2).set b y2 := by
  rw [List.set_comm y x2 (fun z => h z.symm), List.set_set, List.set_set]
theorem vpl {F : Nat → Int64} {A : Nat → Nat} {q v : Nat} (hF : ∀ x, x < 7 → F x = lN (A x)) : ∀ x, x < 7 → vp_updL F q (lN v) x = lN (uz A q v x) := by
  intro x hx
  simp only [vp_updL, uz]
  split
  · rfl
  · exact hF x hx

set_option maxHeartbeats 4000000 in
set_option maxRecDepth 100000 in
theorem l_X12_openAt {d : Nat} {S : aS} {Q : Option Value → aS → Prop} {flt du lw fr ra rp rs ea dp bm rd tr : Int32} {bi : Int64} {pl n cs : Nat} {G : Nat → Nat → Nat} (hg : GD pl n G) (hcs : cs < 512) (hM : S[31]? = some (mo flt (nI pl) (nI n) du lw fr (nI cs) ra rp rs ea dp bm bi rd tr)) (hG : MN S n G) {p : Nat} (hp : p < 7) (k : Q (some (.int (nI (opN G cs n p)))) S) : ∀ (t i : Nat) , i + t = n → Ev none mX12_openAt (d + 2) 0 4 [some (.ref 31), some (.int (nI p)), some (.int (nI (sumN (isG G cs p) i))), some (.int (nI i))] [] S Q := by
  have hn9 := hg.2.1
  have hp7 := hg.1
  intro t
  induction t with
  | zero =>
    intro i  hi
    obtain rfl : i = n := by omega
    refine Ev_iload_n dX12_openAt_4 rfl ?_
    refine Ev_aload_n dX12_openAt_5 rfl ?_
    refine Ev_get dX12_openAt_6 fg_X12_101_12 hM rfl ?_
    refine Ev_icmp_ge dX12_openAt_9 (fun _ => ?_) (fun c => absurd ((nle (by omega) (by omega)).mpr (Nat.le_refl _)) c)
    refine Ev_iload_n dX12_openAt_35 rfl ?_
    refine Ev_iret dX12_openAt_36 rfl rfl ?_
    exact k
  | succ t ih =>
    intro i  hi
    refine Ev_iload_n dX12_openAt_4 rfl ?_
    refine Ev_aload_n dX12_openAt_5 rfl ?_
    refine Ev_get dX12_openAt_6 fg_X12_101_12 hM rfl ?_
    refine Ev_icmp_ge dX12_openAt_9 (fun c => absurd c (fun z => absurd ((nle (by omega) (by omega)).mp z) (by omega))) (fun _ => ?_)
    refine Ev_iload_n dX12_openAt_12 rfl ?_
    refine Ev_aload_n dX12_openAt_13 rfl ?_
    refine Ev_iload_n dX12_openAt_14 rfl ?_
    refine Ev_iload_n dX12_openAt_15 rfl ?_
    refine Ev_callV (bc := 0) (b := 0) dX12_openAt_16 cv_X12_196 rfl hM (Nat.le_of_ble_eq_true rfl) (by omega) ?_
    refine c_X12_goesTo hg hcs hM hG (show i < n by omega) (by omega) ?_
    cases hgt : gt G cs i p with
    | none =>
      refine Ev_topi (y := (-9)) rfl ?_
      refine Ev_if_ge dX12_openAt_19 (fun c => absurd c (by decide)) (fun _ => ?_)
      refine Ev_iconst (v := 0) dX12_openAt_22 (by decide) ?_
      refine Ev_goto dX12_openAt_23 ?_
      refine Ev_iadd dX12_openAt_27 ?_
      refine Ev_topi (y := nI ((sumN (isG G cs p) i) + 0)) (nI_add _ _) ?_
      refine Ev_istore_n dX12_openAt_28 rfl ?_
      refine Ev_iinc (v := nI (i + 1)) dX12_openAt_29 rfl (nI_1 _) rfl ?_
      refine Ev_goto dX12_openAt_32 ?_
      exact (show sumN (isG G cs p) (i + 1) = sumN (isG G cs p) i + 0 from by simp only [sumN, isG_no hgt]) ▸ ih (i + 1) (by omega)
    | some p2 =>
      have hp2 := (gt_some hg (show i < n by omega) hgt).2.1
      refine Ev_topi (y := nI p2) rfl ?_
      refine Ev_if_ge dX12_openAt_19 (fun _ => ?_) (fun c => absurd ((nle (a := 0) (by omega) (by omega)).mpr (Nat.zero_le _)) c)
      refine Ev_iconst (v := 1) dX12_openAt_26 (by decide) ?_
      refine Ev_iadd dX12_openAt_27 ?_
      refine Ev_topi (y := nI ((sumN (isG G cs p) i) + 1)) (nI_add _ _) ?_
      refine Ev_istore_n dX12_openAt_28 rfl ?_
      refine Ev_iinc (v := nI (i + 1)) dX12_openAt_29 rfl (nI_1 _) rfl ?_
      refine Ev_goto dX12_openAt_32 ?_
      exact (show sumN (isG G cs p) (i + 1) = sumN (isG G cs p) i + 1 from by simp only [sumN, isG_so hgt]) ▸ ih (i + 1) (by omega)

set_option maxHeartbeats 4000000 in
set_option maxRecDepth 100000 in
theorem c_X12_openAt {d : Nat} {S : aS} {Q : Option Value → aS → Prop} {flt du lw fr ra rp rs ea dp bm rd tr : Int32} {bi : Int64} {pl n cs : Nat} {G : Nat → Nat → Nat} (hg : GD pl n G) (hcs : cs < 512) (hM : S[31]? = some (mo flt (nI pl) (nI n) du lw fr (nI cs) ra rp rs ea dp bm bi rd tr)) (hG : MN S n G) {p : Nat} (hp : p < 7) (k : Q (some (.int (nI (opN G cs n p)))) S) : Mth mX12_openAt (d + 2) 0 [.ref 31, .int (nI p)] S Q := by
  refine Mth_of (by decide) rfl ?_
  refine Ev_iconst (v := 0) dX12_openAt_0 (by decide) ?_
  refine Ev_istore_n dX12_openAt_1 rfl ?_
  refine Ev_iconst (v := 0) dX12_openAt_2 (by decide) ?_
  refine Ev_istore_n dX12_openAt_3 rfl ?_
  exact l_X12_openAt hg hcs hM hG hp k n 0 (by omega)

set_option maxHeartbeats 4000000 in
set_option maxRecDepth 100000 in
theorem l_X12_god1 {d : Nat} {S : aS} {Q : Option Value → aS → Prop} {flt du lw fr ra rp rs ea dp bm rd tr : Int32} {bi : Int64} {pl n cs : Nat} {G : Nat → Nat → Nat} (hg : GD pl n G) (hcs : cs < 512) (hM : S[31]? = some (mo flt (nI pl) (nI n) du lw fr (nI cs) ra rp rs ea dp bm bi rd tr)) (hG : MN S n G) {p : Nat} (hp : p < 7) {W0 T : Nat → Int64} {w A : Nat → Nat} (h50 : S[50]? = some (lA 7 W0)) (h51 : S[51]? = some (lA 7 T)) (hT : ∀ x, x < 7 → T x = lN (w x)) (k : ∀ W, (∀ x, x < 7 → W x = lN (shN G cs p (w p * (2520 / opN G cs n p)) A n x)) → Ev none mX12_goDawdling (d + 3) 0 124 [some (.ref 31), some (.int (nI p)), some (.int (nI (opN G cs n p))), some (.int (nI n)), none] [] (S.set 50 (lA 7 W)) Q)  : ∀ (t i : Nat) (W : Nat → Int64) (hW : ∀ x, x < 7 → W x = lN (shN G cs p (w p * (2520 / opN G cs n p)) A i x)), i + t = n → Ev none mX12_goDawdling (d + 3) 0 74 [some (.ref 31), some (.int (nI p)), some (.int (nI (opN G cs n p))), some (.int (nI i)), none] [] (S.set 50 (lA 7 W)) Q := by
  have hn9 := hg.2.1
  have hp7 := hg.1
  intro t
  induction t with
  | zero =>
    intro i W hW hi
    obtain rfl : i = n := by omega
    refine Ev_iload_n dX12_goDawdling_74 rfl ?_
    refine Ev_aload_n dX12_goDawdling_75 rfl ?_
    refine Ev_get dX12_goDawdling_76 fg_X12_101_12 (gn (by decide) hM) rfl ?_
    refine Ev_icmp_ge dX12_goDawdling_79 (fun _ => ?_) (fun c => absurd ((nle (by omega) (by omega)).mpr (Nat.le_refl _)) c)
    exact k W hW
  | succ t ih =>
    intro i W hW hi
    have hop := opN_le (G := G) (cs := cs) (n := n) (p := p)
    refine Ev_iload_n dX12_goDawdling_74 rfl ?_
    refine Ev_aload_n dX12_goDawdling_75 rfl ?_
    refine Ev_get dX12_goDawdling_76 fg_X12_101_12 (gn (by decide) hM) rfl ?_
    refine Ev_icmp_ge dX12_goDawdling_79 (fun c => absurd c (fun z => absurd ((nle (by omega) (by omega)).mp z) (by omega))) (fun _ => ?_)
    refine Ev_aload_n dX12_goDawdling_82 rfl ?_
    refine Ev_iload_n dX12_goDawdling_83 rfl ?_
    refine Ev_iload_n dX12_goDawdling_84 rfl ?_
    refine Ev_callV (bc := 0) (b := 0) dX12_goDawdling_85 cv_X12_196 rfl (gn (by decide) hM) (Nat.le_of_ble_eq_true rfl) (by omega) ?_
    refine c_X12_goesTo hg hcs (gn (by decide) hM) (MN.off hG (by decide)) (show i < n by omega) (by omega) ?_
    cases hgt : gt G cs i p with
    | none =>
      refine Ev_topi (y := (-9)) rfl ?_
      refine Ev_istore dX12_goDawdling_88 rfl ?_
      refine Ev_iload dX12_goDawdling_90 rfl ?_
      refine Ev_if_lt dX12_goDawdling_92 (fun _ => ?_) (fun c => absurd (by decide) c)
      refine Ev_iinc (v := nI (i + 1)) dX12_goDawdling_118 rfl (nI_1 _) rfl ?_
      refine Ev_goto dX12_goDawdling_121 ?_
      refine Ev_loc (la2 := [some (.ref 31), some (.int (nI p)), some (.int (nI (opN G cs n p))), some (.int (nI (i + 1))), none]) ⟨rfl, ⟨rfl, ⟨rfl, ⟨rfl, trivial⟩⟩⟩⟩ ?_
      refine Ev_loc (la2 := [some (.ref 31), some (.int (nI p)), some (.int (nI (opN G cs n p))), some (.int (nI (i + 1))), none]) ⟨rfl, ⟨rfl, ⟨rfl, ⟨rfl, trivial⟩⟩⟩⟩ ?_
      exact ih (i + 1) W (fun x hx => by rw [shN_no hgt]; exact hW x hx) (by omega)
    | some p2 =>
      have hp2 := (gt_some hg (show i < n by omega) hgt).2.1
      refine Ev_topi (y := nI p2) rfl ?_
      refine Ev_istore dX12_goDawdling_88 rfl ?_
      refine Ev_iload dX12_goDawdling_90 rfl ?_
      refine Ev_if_lt dX12_goDawdling_92 (fun c => absurd c (fun z => absurd ((nlt (b := 0) (by omega) (by omega)).mp z) (Nat.not_lt_zero _))) (fun _ => ?_)
      refine Ev_aload_n dX12_goDawdling_95 rfl ?_
      refine Ev_get dX12_goDawdling_96 fg_X12_65_12 (gn (by decide) hM) rfl ?_
      refine Ev_iload dX12_goDawdling_99 rfl ?_
      refine Ev_dup2 dX12_goDawdling_101 rfl rfl ?_
      refine Ev_laloadN (j := p2) dX12_goDawdling_102 (gs h50) (by omega) (by decide) ?_
      refine Ev_topl (y := lN (shN G cs p (w p * (2520 / opN G cs n p)) A i p2)) (hW _ (by omega)) ?_
      refine Ev_aload_n dX12_goDawdling_103 rfl ?_
      refine Ev_get dX12_goDawdling_104 fg_X12_69_12 (gn (by decide) hM) rfl ?_
      refine Ev_iload_n dX12_goDawdling_107 rfl ?_
      refine Ev_laloadN (j := p) dX12_goDawdling_108 (gn (by decide) h51) (by omega) (by decide) ?_
      refine Ev_topl (y := lN (w p)) (hT _ (by omega)) ?_
      refine Ev_sipush (v := 2520) dX12_goDawdling_109 (by decide) ?_
      refine Ev_iload_n dX12_goDawdling_112 rfl ?_
      refine Ev_idiv dX12_goDawdling_113 (fun z => opN_pos (show i < n by omega) hgt ((nIinj (b := 0) (by omega) (by decide)).mp z)) ?_
      refine Ev_topi (y := nI (2520 / opN G cs n p)) (pk_div (a := 2520) (by decide) (Nat.pos_of_ne_zero (opN_pos (show i < n by omega) hgt)) (by omega)) ?_
      refine Ev_i2l dX12_goDawdling_114 ?_
      refine Ev_topl (y := lN (2520 / opN G cs n p)) (nl (Nat.lt_of_le_of_lt (Nat.div_le_self _ _) (by decide))) ?_
      refine Ev_lmul dX12_goDawdling_115 ?_
      refine Ev_topl (y := lN ((w p) * (2520 / opN G cs n p))) (lmulN _ _) ?_
      refine Ev_ladd dX12_goDawdling_116 ?_
      refine Ev_topl (y := lN ((shN G cs p (w p * (2520 / opN G cs n p)) A i p2) + ((w p) * (2520 / opN G cs n p)))) (lN_add _ _) ?_
      refine Ev_lastoreN (j := p2) dX12_goDawdling_117 (gs h50) (by omega) (by decide) ?_
      refine Ev_iinc (v := nI (i + 1)) dX12_goDawdling_118 rfl (nI_1 _) rfl ?_
      refine Ev_goto dX12_goDawdling_121 ?_
      refine Ev_loc (la2 := [some (.ref 31), some (.int (nI p)), some (.int (nI (opN G cs n p))), some (.int (nI (i + 1))), none]) ⟨rfl, ⟨rfl, ⟨rfl, ⟨rfl, trivial⟩⟩⟩⟩ ?_
      refine Ev_loc (la2 := [some (.ref 31), some (.int (nI p)), some (.int (nI (opN G cs n p))), some (.int (nI (i + 1))), none]) ⟨rfl, ⟨rfl, ⟨rfl, ⟨rfl, trivial⟩⟩⟩⟩ ?_
      exact Ev_st gss (ih (i + 1) _ (fun x hx => by rw [shN_so hgt]; exact vpl hW x hx) (by omega))

