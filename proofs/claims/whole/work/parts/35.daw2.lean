set_option maxHeartbeats 4000000 in
set_option maxRecDepth 100000 in
theorem l_X0_waysFrom {d : Nat} {S : aS} {Q : Option Value → aS → Prop} {pl n q : Nat} {du lw fr : Int32} (hp7 : pl ≤ 7) (hn9 : n ≤ 9) (hq : q ≤ 8) (hN : S[10]? = some (nt (nI pl) (nI n) du lw fr (nI q))) {cs : Nat} {G : Nat → Nat → Nat} (hg : GD pl n G) {sa : Nat → Option Nat} {ad : Nat → Nat} (hA : S[11]? = some (rA 4 9 sa)) (hsa : ∀ j, j < n → sa j = some (ad j)) {fz : Int} (hC : CN S n G cs fz ad) (hD : S[27]? = some (.inr (0, [.ref 28, .ref 29]))) {p : Nat} (hp : p < 7) (k : Q (some (.int (nI (opN G cs n p)))) S)  : ∀ (t i : Nat) , i + t = n → Ev none mX0_waysFrom (d + 2) 0 5 [some (.ref 27), some (.ref 10), some (.int (nI p)), some (.int (nI (sumN (isG G cs p) i))), some (.int (nI i)), none] [] S Q := by
  intro t
  induction t with
  | zero =>
    intro i  hi
    obtain rfl : i = n := by omega
    refine Ev_iload dX0_waysFrom_5 rfl ?_
    refine Ev_aload_n dX0_waysFrom_7 rfl ?_
    refine Ev_get dX0_waysFrom_8 fg_X0_54_2 hN rfl ?_
    refine Ev_icmp_ge dX0_waysFrom_11 (fun _ => ?_) (fun c => absurd ((nle (by omega) (by omega)).mpr (Nat.le_refl _)) c)
    refine Ev_iload_n dX0_waysFrom_45 rfl ?_
    refine Ev_iret dX0_waysFrom_46 rfl rfl ?_
    exact k
  | succ t ih =>
    intro i  hi
    refine Ev_iload dX0_waysFrom_5 rfl ?_
    refine Ev_aload_n dX0_waysFrom_7 rfl ?_
    refine Ev_get dX0_waysFrom_8 fg_X0_54_2 hN rfl ?_
    refine Ev_icmp_ge dX0_waysFrom_11 (fun c => absurd c (fun z => absurd ((nle (by omega) (by omega)).mp z) (by omega))) (fun _ => ?_)
    refine Ev_aload_n dX0_waysFrom_14 rfl ?_
    refine Ev_iload dX0_waysFrom_15 rfl ?_
    refine Ev_callV (bc := 0) (b := 0) dX0_waysFrom_17 cv_X0_57 rfl hN (Nat.le_of_ble_eq_true rfl) (by omega) ?_
    refine c_X2_stretchAt hp7 hn9 hq hN hA hsa (j := i) (by omega) ?_
    refine Ev_astore dX0_waysFrom_20 rfl ?_
    refine Ev_aload dX0_waysFrom_22 rfl ?_
    refine Ev_ifnull dX0_waysFrom_24 ?_
    refine Ev_aload dX0_waysFrom_27 rfl ?_
    refine Ev_iload_n dX0_waysFrom_29 rfl ?_
    refine Ev_callO (bc := 0) (b := 0) dX0_waysFrom_30 (co3_X0_61 (kc3 _)) rfl (hC _ (by omega)).1 (Nat.le_of_ble_eq_true rfl) (by omega) ?_
    refine c_leads hg (show i < n by omega) (by omega) (hC _ (by omega)).1 (fun p2 hgt => ?_) (fun hgt => ?_)
    · skip
      have hp2 := (gt_some hg (show i < n by omega) hgt).2.1
      refine Ev_if_eq dX0_waysFrom_33 (fun c => absurd c (by decide)) (fun _ => ?_)
      refine Ev_iinc (v := nI (sumN (isG G cs p) i + 1)) dX0_waysFrom_36 rfl (nI_1 _) rfl ?_
      refine Ev_iinc (v := nI (i + 1)) dX0_waysFrom_39 rfl (nI_1 _) rfl ?_
      refine Ev_goto dX0_waysFrom_42 ?_
      refine Ev_loc (la2 := [some (.ref 27), some (.ref 10), some (.int (nI p)), some (.int (nI (sumN (isG G cs p) i + 1))), some (.int (nI (i + 1))), none]) ⟨rfl, ⟨rfl, ⟨rfl, ⟨rfl, ⟨rfl, trivial⟩⟩⟩⟩⟩ ?_
      exact (show sumN (isG G cs p) (i + 1) = sumN (isG G cs p) i + 1 from by simp only [sumN, isG_so hgt]) ▸ ih (i + 1) (by omega)
    · skip
      refine Ev_if_eq dX0_waysFrom_33 (fun _ => ?_) (fun c => absurd (by decide) c)
      refine Ev_iinc (v := nI (i + 1)) dX0_waysFrom_39 rfl (nI_1 _) rfl ?_
      refine Ev_goto dX0_waysFrom_42 ?_
      refine Ev_loc (la2 := [some (.ref 27), some (.ref 10), some (.int (nI p)), some (.int (nI (sumN (isG G cs p) i))), some (.int (nI (i + 1))), none]) ⟨rfl, ⟨rfl, ⟨rfl, ⟨rfl, ⟨rfl, trivial⟩⟩⟩⟩⟩ ?_
      exact (show sumN (isG G cs p) (i + 1) = sumN (isG G cs p) i from by simp only [sumN, isG_no hgt]; rfl) ▸ ih (i + 1) (by omega)

set_option maxHeartbeats 4000000 in
set_option maxRecDepth 100000 in
theorem c_X0_waysFrom {d : Nat} {S : aS} {Q : Option Value → aS → Prop} {pl n q : Nat} {du lw fr : Int32} (hp7 : pl ≤ 7) (hn9 : n ≤ 9) (hq : q ≤ 8) (hN : S[10]? = some (nt (nI pl) (nI n) du lw fr (nI q))) {cs : Nat} {G : Nat → Nat → Nat} (hg : GD pl n G) {sa : Nat → Option Nat} {ad : Nat → Nat} (hA : S[11]? = some (rA 4 9 sa)) (hsa : ∀ j, j < n → sa j = some (ad j)) {fz : Int} (hC : CN S n G cs fz ad) (hD : S[27]? = some (.inr (0, [.ref 28, .ref 29]))) {p : Nat} (hp : p < 7) (k : Q (some (.int (nI (opN G cs n p)))) S)  : Mth mX0_waysFrom (d + 2) 0 [.ref 27, .ref 10, .int (nI p)] S Q := by
  refine Mth_of (by decide) rfl ?_
  refine Ev_iconst (v := 0) dX0_waysFrom_0 (by decide) ?_
  refine Ev_istore_n dX0_waysFrom_1 rfl ?_
  refine Ev_iconst (v := 0) dX0_waysFrom_2 (by decide) ?_
  refine Ev_istore dX0_waysFrom_3 rfl ?_
  exact l_X0_waysFrom hp7 hn9 hq hN hg hA hsa hC hD hp k n 0 (by omega)

set_option maxHeartbeats 4000000 in
set_option maxRecDepth 100000 in
theorem c_X0_add {d : Nat} {S : aS} {Q : Option Value → aS → Prop} (hD : S[27]? = some (.inr (0, [.ref 28, .ref 29]))) {F : Nat → Int64} {A : Nat → Nat} (h29 : S[29]? = some (lA 7 F)) (hF : ∀ x, x < 7 → F x = lN (A x)) {p v : Nat} (hp : p < 7) (k : Q none (S.set 29 (lA 7 (vp_updL F p (lN (A p + v)))))) : Mth mX0_add (d + 1) 0 [.ref 27, .int (nI p), .long (lN v)] S Q := by
  refine Mth_of (by decide) rfl ?_
  refine Ev_iload_n dX0_add_0 rfl ?_
  refine Ev_iconst (v := 0) dX0_add_1 (by decide) ?_
  refine Ev_bipush (v := 6) dX0_add_2 (by decide) ?_
  refine Ev_callS (bc := 0) (b := 0) dX0_add_4 cs_X0_40 rfl (Nat.le_of_ble_eq_true rfl) (by omega) ?_
  refine c_X11_isWithin (fun _ => ?_) (fun q => absurd q (not_not_intro (by rw [nIt (by omega)]; exact ⟨by rw [z32_0]; omega, by rw [show (6 : Int32).toInt = 6 from rfl]; omega⟩)))
  refine Ev_if_eq dX0_add_7 (fun c => absurd c (by decide)) (fun _ => ?_)
  refine Ev_aload_n dX0_add_10 rfl ?_
  refine Ev_get dX0_add_11 fg_X0_15_0 hD rfl ?_
  refine Ev_iload_n dX0_add_14 rfl ?_
  refine Ev_dup2 dX0_add_15 rfl rfl ?_
  refine Ev_laloadN (j := p) dX0_add_16 h29 (by omega) (by decide) ?_
  refine Ev_topl (y := lN (A p)) (hF _ (by omega)) ?_
  refine Ev_lload_n dX0_add_17 rfl ?_
  refine Ev_ladd dX0_add_18 ?_
  refine Ev_topl (y := lN ((A p) + v)) (lN_add _ _) ?_
  refine Ev_lastoreN (j := p) dX0_add_19 h29 (by omega) (by decide) ?_
  refine Ev_vret dX0_add_20 rfl ?_
  exact k

set_option maxHeartbeats 4000000 in
set_option maxRecDepth 100000 in
theorem l_X0_share {d : Nat} {S : aS} {Q : Option Value → aS → Prop} {pl n q : Nat} {du lw fr : Int32} (hp7 : pl ≤ 7) (hn9 : n ≤ 9) (hq : q ≤ 8) (hN : S[10]? = some (nt (nI pl) (nI n) du lw fr (nI q))) {cs : Nat} {G : Nat → Nat → Nat} (hg : GD pl n G) {sa : Nat → Option Nat} {ad : Nat → Nat} (hA : S[11]? = some (rA 4 9 sa)) (hsa : ∀ j, j < n → sa j = some (ad j)) {fz : Int} (hC : CN S n G cs fz ad) (hD : S[27]? = some (.inr (0, [.ref 28, .ref 29]))) {p : Nat} (hp : p < 7) {e : Nat} {N F0 : Nat → Int64} {w A : Nat → Nat} (h28 : S[28]? = some (lA 7 N)) (h29 : S[29]? = some (lA 7 F0)) (hNw : ∀ x, x < 7 → N x = lN (w x)) (k : ∀ F, (∀ x, x < 7 → F x = lN (shN G cs p e A n x)) → Q none (S.set 29 (lA 7 F)))  : ∀ (t i : Nat) (F : Nat → Int64) (hF : ∀ x, x < 7 → F x = lN (shN G cs p e A i x)), i + t = n → Ev none mX0_share (d + 3) 0 45 [some (.ref 27), some (.ref 10), some (.int (nI p)), some (.int (nI (opN G cs n p))), some (.long (lN e)), none, some (.int (nI i)), none] [] (S.set 29 (lA 7 F)) Q := by
  intro t
  induction t with
  | zero =>
    intro i F hF hi
    obtain rfl : i = n := by omega
    refine Ev_iload dX0_share_45 rfl ?_
    refine Ev_aload_n dX0_share_47 rfl ?_
    refine Ev_get dX0_share_48 fg_X0_54_2 (gn (by decide) hN) rfl ?_
    refine Ev_icmp_ge dX0_share_51 (fun _ => ?_) (fun c => absurd ((nle (by omega) (by omega)).mpr (Nat.le_refl _)) c)
    refine Ev_vret dX0_share_94 rfl ?_
    exact k F hF
  | succ t ih =>
    intro i F hF hi
    refine Ev_iload dX0_share_45 rfl ?_
    refine Ev_aload_n dX0_share_47 rfl ?_
    refine Ev_get dX0_share_48 fg_X0_54_2 (gn (by decide) hN) rfl ?_
    refine Ev_icmp_ge dX0_share_51 (fun c => absurd c (fun z => absurd ((nle (by omega) (by omega)).mp z) (by omega))) (fun _ => ?_)
    refine Ev_aload_n dX0_share_54 rfl ?_
    refine Ev_iload dX0_share_55 rfl ?_
    refine Ev_callV (bc := 0) (b := 0) dX0_share_57 cv_X0_57 rfl (gn (by decide) hN) (Nat.le_of_ble_eq_true rfl) (by omega) ?_
    refine c_X2_stretchAt hp7 hn9 hq (gn (by decide) hN) (gn (by decide) hA) hsa (j := i) (by omega) ?_
    refine Ev_astore dX0_share_60 rfl ?_
    refine Ev_aload dX0_share_62 rfl ?_
    refine Ev_ifnull dX0_share_64 ?_
    refine Ev_aload dX0_share_67 rfl ?_
    refine Ev_iload_n dX0_share_69 rfl ?_
    refine Ev_callO (bc := 0) (b := 0) dX0_share_70 (co3_X0_61 (kc3 _)) rfl ((CN.off hC (by decide)) _ (by omega)).1 (Nat.le_of_ble_eq_true rfl) (by omega) ?_
    refine c_leads hg (show i < n by omega) (by omega) ((CN.off hC (by decide)) _ (by omega)).1 (fun p2 hgt => ?_) (fun hgt => ?_)
    · skip
      have hp2 := (gt_some hg (show i < n by omega) hgt).2.1
      refine Ev_if_eq dX0_share_73 (fun c => absurd c (by decide)) (fun _ => ?_)
      refine Ev_aload_n dX0_share_76 rfl ?_
      refine Ev_aload dX0_share_77 rfl ?_
      refine Ev_iload_n dX0_share_79 rfl ?_
      refine Ev_callO (bc := 0) (b := 0) dX0_share_80 (co3_X0_67 (kc3 _)) rfl ((CN.off hC (by decide)) _ (by omega)).1 (Nat.le_of_ble_eq_true rfl) (by omega) ?_
      refine c_other hg (show i < n by omega) ((CN.off hC (by decide)) _ (by omega)).1 hgt ?_
      refine Ev_lload dX0_share_83 rfl ?_
      refine Ev_callV (bc := 0) (b := 0) dX0_share_85 cv_X0_50 rfl (gn (by decide) hD) (Nat.le_of_ble_eq_true rfl) (by omega) ?_
      refine c_X0_add (gn (by decide) hD) (gs h29) hF (by omega) ?_
      refine Ev_iinc (v := nI (i + 1)) dX0_share_88 rfl (nI_1 _) rfl ?_
      refine Ev_goto dX0_share_91 ?_
      refine Ev_loc (la2 := [some (.ref 27), some (.ref 10), some (.int (nI p)), some (.int (nI (opN G cs n p))), some (.long (lN e)), none, some (.int (nI (i + 1))), none]) ⟨rfl, ⟨rfl, ⟨rfl, ⟨rfl, ⟨rfl, ⟨rfl, trivial⟩⟩⟩⟩⟩⟩ ?_
      refine Ev_loc (la2 := [some (.ref 27), some (.ref 10), some (.int (nI p)), some (.int (nI (opN G cs n p))), some (.long (lN e)), none, some (.int (nI (i + 1))), none]) ⟨rfl, ⟨rfl, ⟨rfl, ⟨rfl, ⟨rfl, ⟨rfl, trivial⟩⟩⟩⟩⟩⟩ ?_
      exact Ev_st gss (ih (i + 1) _ (fun x hx => by rw [shN_so hgt]; exact vpl hF x hx) (by omega))
    · skip
      refine Ev_if_eq dX0_share_73 (fun _ => ?_) (fun c => absurd (by decide) c)
      refine Ev_iinc (v := nI (i + 1)) dX0_share_88 rfl (nI_1 _) rfl ?_
      refine Ev_goto dX0_share_91 ?_
      refine Ev_loc (la2 := [some (.ref 27), some (.ref 10), some (.int (nI p)), some (.int (nI (opN G cs n p))), some (.long (lN e)), none, some (.int (nI (i + 1))), none]) ⟨rfl, ⟨rfl, ⟨rfl, ⟨rfl, ⟨rfl, ⟨rfl, trivial⟩⟩⟩⟩⟩⟩ ?_
      refine Ev_loc (la2 := [some (.ref 27), some (.ref 10), some (.int (nI p)), some (.int (nI (opN G cs n p))), some (.long (lN e)), none, some (.int (nI (i + 1))), none]) ⟨rfl, ⟨rfl, ⟨rfl, ⟨rfl, ⟨rfl, ⟨rfl, trivial⟩⟩⟩⟩⟩⟩ ?_
      exact ih (i + 1) F (fun x hx => by rw [shN_no hgt]; exact hF x hx) (by omega)

set_option maxHeartbeats 4000000 in
set_option maxRecDepth 100000 in
theorem c_X0_share {d : Nat} {S : aS} {Q : Option Value → aS → Prop} {pl n q : Nat} {du lw fr : Int32} (hp7 : pl ≤ 7) (hn9 : n ≤ 9) (hq : q ≤ 8) (hN : S[10]? = some (nt (nI pl) (nI n) du lw fr (nI q))) {cs : Nat} {G : Nat → Nat → Nat} (hg : GD pl n G) {sa : Nat → Option Nat} {ad : Nat → Nat} (hA : S[11]? = some (rA 4 9 sa)) (hsa : ∀ j, j < n → sa j = some (ad j)) {fz : Int} (hC : CN S n G cs fz ad) (hD : S[27]? = some (.inr (0, [.ref 28, .ref 29]))) {p : Nat} (hp : p < 7) {N F0 : Nat → Int64} {w : Nat → Nat} (h28 : S[28]? = some (lA 7 N)) (h29 : S[29]? = some (lA 7 F0)) (hNw : ∀ x, x < 7 → N x = lN (w x)) (hF0 : ∀ x, x < 7 → F0 x = lN (stD G cs n w p x)) (k : ∀ F, (∀ x, x < 7 → F x = lN (stD G cs n w (p + 1) x)) → Q none (S.set 29 (lA 7 F)))  : Mth mX0_share (d + 3) 0 [.ref 27, .ref 10, .int (nI p)] S Q := by
  have hop := opN_le (G := G) (cs := cs) (n := n) (p := p)
  refine Mth_of (by decide) rfl ?_
  refine Ev_aload_n dX0_share_0 rfl ?_
  refine Ev_aload_n dX0_share_1 rfl ?_
  refine Ev_iload_n dX0_share_2 rfl ?_
  refine Ev_callV (bc := 0) (b := 0) dX0_share_3 cv_X0_44 rfl hD (Nat.le_of_ble_eq_true rfl) (by omega) ?_
  refine c_X0_waysFrom hp7 hn9 hq hN hg hA hsa hC hD hp ?_
  refine Ev_istore_n dX0_share_6 rfl ?_
  refine Ev_iload_n dX0_share_7 rfl ?_
  refine Ev_if_ne dX0_share_8 (fun c1 => ?_) (fun c1 => ?_)
  · skip
    have c1 : ¬ ((opN G cs n p) = 0) := fun z => c1 ((nIinj (a := opN G cs n p) (b := 0) (by omega) (by omega)).mpr z)
    refine Ev_aload_n dX0_share_27 rfl ?_
    refine Ev_get dX0_share_28 fg_X0_9_0 hD rfl ?_
    refine Ev_iload_n dX0_share_31 rfl ?_
    refine Ev_laloadN (j := p) dX0_share_32 h28 (by omega) (by decide) ?_
    refine Ev_topl (y := lN (w p)) (hNw _ (by omega)) ?_
    refine Ev_sipush (v := 2520) dX0_share_33 (by decide) ?_
    refine Ev_iload_n dX0_share_36 rfl ?_
    refine Ev_idiv dX0_share_37 (fun z => c1 ((nIinj (b := 0) (by omega) (by decide)).mp z)) ?_
    refine Ev_topi (y := nI (2520 / opN G cs n p)) (pk_div (a := 2520) (by decide) (Nat.pos_of_ne_zero c1) (by omega)) ?_
    refine Ev_i2l dX0_share_38 ?_
    refine Ev_topl (y := lN (2520 / opN G cs n p)) (nl (Nat.lt_of_le_of_lt (Nat.div_le_self _ _) (by decide))) ?_
    refine Ev_lmul dX0_share_39 ?_
    refine Ev_topl (y := lN ((w p) * (2520 / opN G cs n p))) (lmulN _ _) ?_
    refine Ev_lstore dX0_share_40 rfl ?_
    refine Ev_iconst (v := 0) dX0_share_42 (by decide) ?_
    refine Ev_istore dX0_share_43 rfl ?_
    have h0 := l_X0_share (S := S) (d := d) (Q := Q) (e := w p * (2520 / opN G cs n p)) (A := stD G cs n w p) hp7 hn9 hq hN hg hA hsa hC hD hp h28 h29 hNw (fun F hF => k F (fun x hx => by rw [stD_so c1]; exact hF x hx)) n 0 F0 hF0 (by omega)
    rw [gid h29] at h0
    exact h0
  · skip
    have c1 : (opN G cs n p) = 0 := (nIinj (a := opN G cs n p) (b := 0) (by omega) (by omega)).mp c1
    refine Ev_aload_n dX0_share_11 rfl ?_
    refine Ev_iload_n dX0_share_12 rfl ?_
    refine Ev_aload_n dX0_share_13 rfl ?_
    refine Ev_get dX0_share_14 fg_X0_9_0 hD rfl ?_
    refine Ev_iload_n dX0_share_17 rfl ?_
    refine Ev_laloadN (j := p) dX0_share_18 h28 (by omega) (by decide) ?_
    refine Ev_topl (y := lN (w p)) (hNw _ (by omega)) ?_
    refine Ev_ldc2 dX0_share_19 wl_X0_48 ?_
    refine Ev_lmul dX0_share_22 ?_
    refine Ev_topl (y := lN ((w p) * 2520)) (lmulN _ _) ?_
    refine Ev_callV (bc := 0) (b := 0) dX0_share_23 cv_X0_50 rfl hD (Nat.le_of_ble_eq_true rfl) (by omega) ?_
    refine c_X0_add hD h29 hF0 hp ?_
    refine Ev_vret dX0_share_26 rfl ?_
    exact k _ (fun x hx => by rw [stD_no c1]; exact vpl hF0 x hx)

set_option maxHeartbeats 4000000 in
set_option maxRecDepth 100000 in
theorem l_X0_parts1 {d : Nat} {S : aS} {Q : Option Value → aS → Prop} {pl n q : Nat} {du lw fr : Int32} (hp7 : pl ≤ 7) (hn9 : n ≤ 9) (hq : q ≤ 8) (hN : S[10]? = some (nt (nI pl) (nI n) du lw fr (nI q))) {cs : Nat} {G : Nat → Nat → Nat} (hg : GD pl n G) {sa : Nat → Option Nat} {ad : Nat → Nat} (hA : S[11]? = some (rA 4 9 sa)) (hsa : ∀ j, j < n → sa j = some (ad j)) {fz : Int} (hC : CN S n G cs fz ad) (hD : S[27]? = some (.inr (0, [.ref 28, .ref 29]))) {m p s : Nat} {N F0 : Nat → Int64} {w : Nat → Nat} (h28 : S[28]? = some (lA 7 N)) (h29 : S[29]? = some (lA 7 F0)) (hNw : ∀ x, x < 7 → N x = lN (w x)) (k : ∀ F, (∀ x, x < 7 → F x = lN (stD G cs n w pl x)) → Ev none mX0_partsAt (d + 4) 0 64 [some (.ref 27), some (.ref 10), some (.int (nI m)), some (.int (nI p)), some (.int (nI s)), some (.int (nI pl))] [] (S.set 29 (lA 7 F)) Q)  : ∀ (t i : Nat) (F : Nat → Int64) (hF : ∀ x, x < 7 → F x = lN (stD G cs n w i x)), i + t = pl → Ev none mX0_partsAt (d + 4) 0 35 [some (.ref 27), some (.ref 10), some (.int (nI m)), some (.int (nI p)), some (.int (nI s)), some (.int (nI i))] [] (S.set 29 (lA 7 F)) Q := by
  intro t
  induction t with
  | zero =>
    intro i F hF hi
    obtain rfl : i = pl := by omega
    refine Ev_iload dX0_partsAt_35 rfl ?_
    refine Ev_aload_n dX0_partsAt_37 rfl ?_
    refine Ev_get dX0_partsAt_38 fg_X0_24_2 (gn (by decide) hN) rfl ?_
    refine Ev_icmp_ge dX0_partsAt_41 (fun _ => ?_) (fun c => absurd ((nle (by omega) (by omega)).mpr (Nat.le_refl _)) c)
    exact k F hF
  | succ t ih =>
    intro i F hF hi
    refine Ev_iload dX0_partsAt_35 rfl ?_
    refine Ev_aload_n dX0_partsAt_37 rfl ?_
    refine Ev_get dX0_partsAt_38 fg_X0_24_2 (gn (by decide) hN) rfl ?_
    refine Ev_icmp_ge dX0_partsAt_41 (fun c => absurd c (fun z => absurd ((nle (by omega) (by omega)).mp z) (by omega))) (fun _ => ?_)
    refine Ev_iload dX0_partsAt_44 rfl ?_
    refine Ev_bipush (v := 7) dX0_partsAt_46 (by decide) ?_
    refine Ev_icmp_ge dX0_partsAt_48 (fun c => absurd c (fun z => absurd ((nle (a := 7) (by omega) (by omega)).mp z) (by omega))) (fun _ => ?_)
    refine Ev_aload_n dX0_partsAt_51 rfl ?_
    refine Ev_aload_n dX0_partsAt_52 rfl ?_
    refine Ev_iload dX0_partsAt_53 rfl ?_
    refine Ev_callV (bc := 0) (b := 0) dX0_partsAt_55 cv_X0_30 rfl (gn (by decide) hD) (Nat.le_of_ble_eq_true rfl) (by omega) ?_
    refine c_X0_share (w := w) hp7 hn9 hq (gn (by decide) hN) hg (gn (by decide) hA) hsa (CN.off hC (by decide)) (gn (by decide) hD) (show i < 7 by omega) (gn (by decide) h28) (gs h29) hNw hF (fun F2 hF2 => ?_)
    refine Ev_iinc (v := nI (i + 1)) dX0_partsAt_58 rfl (nI_1 _) rfl ?_
    refine Ev_goto dX0_partsAt_61 ?_
    exact Ev_st gss (ih (i + 1) F2 hF2 (by omega))

set_option maxHeartbeats 4000000 in
set_option maxRecDepth 100000 in
theorem l_X0_parts2 {d : Nat} {S : aS} {Q : Option Value → aS → Prop} {pl n q : Nat} {du lw fr : Int32} (hp7 : pl ≤ 7) (hn9 : n ≤ 9) (hq : q ≤ 8) (hN : S[10]? = some (nt (nI pl) (nI n) du lw fr (nI q))) {cs : Nat} {G : Nat → Nat → Nat} (hg : GD pl n G) {sa : Nat → Option Nat} {ad : Nat → Nat} (hA : S[11]? = some (rA 4 9 sa)) (hsa : ∀ j, j < n → sa j = some (ad j)) {fz : Int} (hC : CN S n G cs fz ad) (hD : S[27]? = some (.inr (0, [.ref 28, .ref 29]))) {m p : Nat} (hm : m ≤ 5) (hp : p < pl) {N0 X0 : Nat → Int64} (h28 : S[28]? = some (lA 7 N0)) (h29 : S[29]? = some (lA 7 X0)) (k : ∀ X N, Q (some (.long (lN (dwN G cs n pl m p)))) ((S.set 29 (lA 7 X)).set 28 (lA 7 N)))  : ∀ (t i : Nat) (X N : Nat → Int64) (hNw : ∀ x, x < 7 → N x = lN (dwN G cs n pl i x)), i + t = m → Ev none mX0_partsAt (d + 4) 0 18 [some (.ref 27), some (.ref 10), some (.int (nI m)), some (.int (nI p)), some (.int (nI i)), none] [] ((S.set 29 (lA 7 X)).set 28 (lA 7 N)) Q := by
  intro t
  induction t with
  | zero =>
    intro i X N hNw hi
    obtain rfl : i = m := by omega
    refine Ev_iload dX0_partsAt_18 rfl ?_
    refine Ev_iload_n dX0_partsAt_20 rfl ?_
    refine Ev_icmp_ge dX0_partsAt_21 (fun _ => ?_) (fun c => absurd ((nle (by omega) (by omega)).mpr (Nat.le_refl _)) c)
    refine Ev_iload_n dX0_partsAt_85 rfl ?_
    refine Ev_iconst (v := 0) dX0_partsAt_86 (by decide) ?_
    refine Ev_bipush (v := 6) dX0_partsAt_87 (by decide) ?_
    refine Ev_callS (bc := 0) (b := 0) dX0_partsAt_89 cs_X0_40 rfl (Nat.le_of_ble_eq_true rfl) (by omega) ?_
    refine c_X11_isWithin (fun _ => ?_) (fun q => absurd q (not_not_intro (by rw [nIt (by omega)]; exact ⟨by rw [z32_0]; omega, by rw [show (6 : Int32).toInt = 6 from rfl]; omega⟩)))
    refine Ev_if_eq dX0_partsAt_92 (fun c => absurd c (by decide)) (fun _ => ?_)
    refine Ev_aload_n dX0_partsAt_95 rfl ?_
    refine Ev_get dX0_partsAt_96 fg_X0_9_0 (gn (by decide) (gn (by decide) hD)) rfl ?_
    refine Ev_iload_n dX0_partsAt_99 rfl ?_
    refine Ev_laloadN (j := p) dX0_partsAt_100 (gs (gn (by decide) h28)) (by omega) (by decide) ?_
    refine Ev_topl (y := lN (dwN G cs n pl i p)) (hNw _ (by omega)) ?_
    refine Ev_goto dX0_partsAt_101 ?_
    refine Ev_lret dX0_partsAt_105 rfl ?_
    exact k X N
  | succ t ih =>
    intro i X N hNw hi
    refine Ev_iload dX0_partsAt_18 rfl ?_
    refine Ev_iload_n dX0_partsAt_20 rfl ?_
    refine Ev_icmp_ge dX0_partsAt_21 (fun c => absurd c (fun z => absurd ((nle (by omega) (by omega)).mp z) (by omega))) (fun _ => ?_)
    refine Ev_aload_n dX0_partsAt_24 rfl ?_
    refine Ev_get dX0_partsAt_25 fg_X0_15_0 (gn (by decide) (gn (by decide) hD)) rfl ?_
    refine Ev_lconst (v := 0) dX0_partsAt_28 (by decide) ?_
    refine Ev_callS (bc := 0) (b := 0) dX0_partsAt_29 cs_X0_18 rfl (Nat.le_of_ble_eq_true rfl) (by omega) ?_
    refine c_fillL7 (gn (by decide) (gs h29)) ?_
    refine Ev_iconst (v := 0) dX0_partsAt_32 (by decide) ?_
    refine Ev_istore dX0_partsAt_33 rfl ?_
    refine l_X0_parts1 (S := ((S.set 29 (lA 7 X)).set 28 (lA 7 N))) (w := dwN G cs n pl i) hp7 hn9 hq (gn (by decide) (gn (by decide) hN)) hg (gn (by decide) (gn (by decide) hA)) hsa (CN.off (CN.off hC (by decide)) (by decide)) (gn (by decide) (gn (by decide) hD)) (gs (gn (by decide) h28)) (gn (by decide) (gs h29)) hNw (fun F hF => ?_) pl 0 (filN X 0 7) (fun x hx => by simp only [filN, if_pos hx]; rfl) (by omega)
    refine Ev_aload_n dX0_partsAt_64 rfl ?_
    refine Ev_get dX0_partsAt_65 fg_X0_15_0 (gn (by decide) (gn (by decide) (gn (by decide) hD))) rfl ?_
    refine Ev_iconst (v := 0) dX0_partsAt_68 (by decide) ?_
    refine Ev_aload_n dX0_partsAt_69 rfl ?_
    refine Ev_get dX0_partsAt_70 fg_X0_9_0 (gn (by decide) (gn (by decide) (gn (by decide) hD))) rfl ?_
    refine Ev_iconst (v := 0) dX0_partsAt_73 (by decide) ?_
    refine Ev_bipush (v := 7) dX0_partsAt_74 (by decide) ?_
    refine Ev_copyl dX0_partsAt_76 wl_X0_34 (Nat.le_of_ble_eq_true rfl) (gs (gn (by decide) (gs h29))) (gn (by decide) (gs (gn (by decide) h28))) (by decide) (by decide) (by decide) (by decide) (by decide) ?_
    refine Ev_iinc (v := nI (i + 1)) dX0_partsAt_79 rfl (nI_1 _) rfl ?_
    refine Ev_goto dX0_partsAt_82 ?_
    refine Ev_loc (la2 := [some (.ref 27), some (.ref 10), some (.int (nI m)), some (.int (nI p)), some (.int (nI (i + 1))), none]) ⟨rfl, ⟨rfl, ⟨rfl, ⟨rfl, ⟨rfl, trivial⟩⟩⟩⟩⟩ ?_
    refine Ev_loc (la2 := [some (.ref 27), some (.ref 10), some (.int (nI m)), some (.int (nI p)), some (.int (nI (i + 1))), none]) ⟨rfl, ⟨rfl, ⟨rfl, ⟨rfl, ⟨rfl, trivial⟩⟩⟩⟩⟩ ?_
    refine Ev_st (st4 (by decide)) ?_
    exact ih (i + 1) F _ (fun x hx => by show va_cpy F N 0 0 7 x = _; unfold va_cpy; rw [if_pos (by omega)]; simp only [Nat.zero_add, Nat.sub_zero]; exact hF x hx) (by omega)

set_option maxHeartbeats 4000000 in
set_option maxRecDepth 100000 in
theorem c_X0_partsAt {d : Nat} {S : aS} {Q : Option Value → aS → Prop} {pl n q : Nat} {du lw fr : Int32} (hp7 : pl ≤ 7) (hn9 : n ≤ 9) (hq : q ≤ 8) (hN : S[10]? = some (nt (nI pl) (nI n) du lw fr (nI q))) {cs : Nat} {G : Nat → Nat → Nat} (hg : GD pl n G) {sa : Nat → Option Nat} {ad : Nat → Nat} (hA : S[11]? = some (rA 4 9 sa)) (hsa : ∀ j, j < n → sa j = some (ad j)) {fz : Int} (hC : CN S n G cs fz ad) (hD : S[27]? = some (.inr (0, [.ref 28, .ref 29]))) {m p : Nat} (hm : m ≤ 5) (hp : p < pl) {N0 X0 : Nat → Int64} (h28 : S[28]? = some (lA 7 N0)) (h29 : S[29]? = some (lA 7 X0)) (k : ∀ X N, Q (some (.long (lN (dwN G cs n pl m p)))) ((S.set 29 (lA 7 X)).set 28 (lA 7 N)))  : Mth mX0_partsAt (d + 4) 0 [.ref 27, .ref 10, .int (nI m), .int (nI p)] S Q := by
  refine Mth_of (by decide) rfl ?_
  refine Ev_aload_n dX0_partsAt_0 rfl ?_
  refine Ev_get dX0_partsAt_1 fg_X0_9_0 hD rfl ?_
  refine Ev_lconst (v := 0) dX0_partsAt_4 (by decide) ?_
  refine Ev_callS (bc := 0) (b := 0) dX0_partsAt_5 cs_X0_18 rfl (Nat.le_of_ble_eq_true rfl) (by omega) ?_
  refine c_fillL7 h28 ?_
  refine Ev_aload_n dX0_partsAt_8 rfl ?_
  refine Ev_get dX0_partsAt_9 fg_X0_9_0 (gn (by decide) hD) rfl ?_
  refine Ev_iconst (v := 0) dX0_partsAt_12 (by decide) ?_
  refine Ev_lconst (v := 1) dX0_partsAt_13 (by decide) ?_
  refine Ev_lastoreN (j := 0) dX0_partsAt_14 (gs h28) (by omega) (by decide) ?_
  refine Ev_iconst (v := 0) dX0_partsAt_15 (by decide) ?_
  refine Ev_istore dX0_partsAt_16 rfl ?_
  have h0 := l_X0_parts2 (S := S) (d := d) (Q := Q) hp7 hn9 hq hN hg hA hsa hC hD hm hp h28 h29 k m 0 X0 (vp_updL (filN N0 0 7) 0 1) (fun x hx => by simp only [vp_updL, filN, if_pos hx, dwN]; split <;> rfl) (by omega)
  rw [gid h29] at h0
  refine Ev_st gss ?_
  exact h0

set_option maxHeartbeats 4000000 in
set_option maxRecDepth 100000 in
theorem c_X11_dawdle_bad {d : Nat} {S : aS} {Q : Option Value → aS → Prop} {lf : Int32} (hO : S[0]? = some (co lf)) {pl n q : Nat} {du lw fr : Int32} (hp7 : pl ≤ 7) (hn9 : n ≤ 9) (hq : q ≤ 8) (hN : S[10]? = some (nt (nI pl) (nI n) du lw fr (nI q))) {x y v : Int32} (hx : ¬ ((0 ≤ y.toInt ∧ y.toInt < pl) ∧ (0 ≤ x.toInt ∧ x.toInt ≤ 5) ∧ (0 ≤ v.toInt ∧ v.toInt ≤ 1))) (k : Q (some (.long (-9223372036854775808))) S) : Mth mX11_dawdle (d + 6) 0 [.ref 0, .int x, .int y, .int v] S Q := by
  refine Mth_of (by decide) rfl ?_
  refine Ev_aload_n dX11_dawdle_0 rfl ?_
  refine Ev_get dX11_dawdle_1 fg_X11_21_11 hO rfl ?_
  refine Ev_iload_n dX11_dawdle_4 rfl ?_
  refine Ev_callV (bc := 0) (b := 0) dX11_dawdle_5 cv_X11_140 rfl hN (Nat.le_of_ble_eq_true rfl) (by omega) ?_
  refine c_X2_hasPlace hp7 hn9 hq hN (fun q1 => ?_) (fun q1 => ?_)
  · skip
    refine Ev_if_eq dX11_dawdle_8 (fun c => absurd c (by decide)) (fun _ => ?_)
    refine Ev_iload_n dX11_dawdle_11 rfl ?_
    refine Ev_iconst (v := 0) dX11_dawdle_12 (by decide) ?_
    refine Ev_iconst (v := 5) dX11_dawdle_13 (by decide) ?_
    refine Ev_callS (bc := 0) (b := 0) dX11_dawdle_14 cs_X11_72 rfl (Nat.le_of_ble_eq_true rfl) (by omega) ?_
    refine c_X11_isWithin (fun q2 => ?_) (fun q2 => ?_)
    · skip
      refine Ev_if_eq dX11_dawdle_17 (fun c => absurd c (by decide)) (fun _ => ?_)
      refine Ev_iload_n dX11_dawdle_20 rfl ?_
      refine Ev_iconst (v := 0) dX11_dawdle_21 (by decide) ?_
      refine Ev_iconst (v := 1) dX11_dawdle_22 (by decide) ?_
      refine Ev_callS (bc := 0) (b := 0) dX11_dawdle_23 cs_X11_72 rfl (Nat.le_of_ble_eq_true rfl) (by omega) ?_
      refine c_X11_isWithin (fun q3 => ?_) (fun q3 => ?_)
      · skip
        refine Ev_if_ne dX11_dawdle_26 (fun _ => ?_) (fun c => absurd c (by decide))
        exact absurd ⟨q1, q2, q3⟩ hx
      · skip
        refine Ev_if_ne dX11_dawdle_26 (fun c => absurd (by decide) c) (fun _ => ?_)
        refine Ev_ldc2 dX11_dawdle_29 wl_X11_165 ?_
        refine Ev_lret dX11_dawdle_32 rfl ?_
        exact k
    · skip
      refine Ev_if_eq dX11_dawdle_17 (fun _ => ?_) (fun c => absurd (by decide) c)
      refine Ev_ldc2 dX11_dawdle_29 wl_X11_165 ?_
      refine Ev_lret dX11_dawdle_32 rfl ?_
      exact k
  · skip
    refine Ev_if_eq dX11_dawdle_8 (fun _ => ?_) (fun c => absurd (by decide) c)
    refine Ev_ldc2 dX11_dawdle_29 wl_X11_165 ?_
    refine Ev_lret dX11_dawdle_32 rfl ?_
    exact k

set_option maxHeartbeats 4000000 in
set_option maxRecDepth 100000 in
theorem c_X11_dawdle {d : Nat} {S : aS} {Q : Option Value → aS → Prop} {lf : Int32} (hO : S[0]? = some (co lf)) {pl n q : Nat} {du lw fr : Int32} (hp7 : pl ≤ 7) (hn9 : n ≤ 9) (hq : q ≤ 8) (hN : S[10]? = some (nt (nI pl) (nI n) du lw fr (nI q))) {cs : Nat} {G : Nat → Nat → Nat} (hg : GD pl n G) {sa : Nat → Option Nat} {ad : Nat → Nat} (hA : S[11]? = some (rA 4 9 sa)) (hsa : ∀ j, j < n → sa j = some (ad j)) {fz : Int} (hC : CN S n G cs fz ad) (hD : S[27]? = some (.inr (0, [.ref 28, .ref 29]))) {m p : Nat} (hm : m ≤ 5) (hp : p < pl) {N0 X0 : Nat → Int64} (h28 : S[28]? = some (lA 7 N0)) (h29 : S[29]? = some (lA 7 X0)) {v : Int32} (hv : 0 ≤ v.toInt ∧ v.toInt ≤ 1) (hdw : dwN G cs n pl m p < 2 ^ 63) (k : ∀ X N, Q (some (.long (lN ((if v = 0 then dwN G cs n pl m p else 2520 ^ m) / Nat.gcd (dwN G cs n pl m p) (2520 ^ m))))) ((S.set 29 (lA 7 X)).set 28 (lA 7 N)))  : Mth mX11_dawdle (d + 6) 0 [.ref 0, .int (nI m), .int (nI p), .int v] S Q := by
  refine Mth_of (by decide) rfl ?_
  refine Ev_aload_n dX11_dawdle_0 rfl ?_
  refine Ev_get dX11_dawdle_1 fg_X11_21_11 hO rfl ?_
  refine Ev_iload_n dX11_dawdle_4 rfl ?_
  refine Ev_callV (bc := 0) (b := 0) dX11_dawdle_5 cv_X11_140 rfl hN (Nat.le_of_ble_eq_true rfl) (by omega) ?_
  refine c_X2_hasPlace hp7 hn9 hq hN (fun _ => ?_) (fun q => absurd q (not_not_intro (by rw [nIt (by omega)]; omega)))
  refine Ev_if_eq dX11_dawdle_8 (fun c => absurd c (by decide)) (fun _ => ?_)
  refine Ev_iload_n dX11_dawdle_11 rfl ?_
  refine Ev_iconst (v := 0) dX11_dawdle_12 (by decide) ?_
  refine Ev_iconst (v := 5) dX11_dawdle_13 (by decide) ?_
  refine Ev_callS (bc := 0) (b := 0) dX11_dawdle_14 cs_X11_72 rfl (Nat.le_of_ble_eq_true rfl) (by omega) ?_
  refine c_X11_isWithin (fun _ => ?_) (fun q => absurd (by rw [nIt (by omega), z32_0, z32_5]; omega) q)
  refine Ev_if_eq dX11_dawdle_17 (fun c => absurd c (by decide)) (fun _ => ?_)
  refine Ev_iload_n dX11_dawdle_20 rfl ?_
  refine Ev_iconst (v := 0) dX11_dawdle_21 (by decide) ?_
  refine Ev_iconst (v := 1) dX11_dawdle_22 (by decide) ?_
  refine Ev_callS (bc := 0) (b := 0) dX11_dawdle_23 cs_X11_72 rfl (Nat.le_of_ble_eq_true rfl) (by omega) ?_
  refine c_X11_isWithin (fun _ => ?_) (fun q => absurd hv q)
  refine Ev_if_ne dX11_dawdle_26 (fun _ => ?_) (fun c => absurd c (by decide))
  refine Ev_aload_n dX11_dawdle_33 rfl ?_
  refine Ev_get dX11_dawdle_34 fg_X11_49_11 hO rfl ?_
  refine Ev_aload_n dX11_dawdle_37 rfl ?_
  refine Ev_get dX11_dawdle_38 fg_X11_21_11 hO rfl ?_
  refine Ev_iload_n dX11_dawdle_41 rfl ?_
  refine Ev_iload_n dX11_dawdle_42 rfl ?_
  refine Ev_callV (bc := 0) (b := 0) dX11_dawdle_43 cv_X11_218 rfl hD (Nat.le_of_ble_eq_true rfl) (by omega) ?_
  refine c_X0_partsAt hp7 hn9 hq hN hg hA hsa hC hD hm hp h28 h29 (fun X N => ?_)
  refine Ev_lstore dX11_dawdle_46 rfl ?_
  refine Ev_lload dX11_dawdle_48 rfl ?_
  refine Ev_ldc2 dX11_dawdle_50 wl_X11_222 ?_
  refine Ev_iload_n dX11_dawdle_53 rfl ?_
  refine Ev_callS (bc := 0) (b := 0) dX11_dawdle_54 cs_X11_176 rfl (Nat.le_of_ble_eq_true rfl) (by omega) ?_
  refine c_X11_powerOf (c := 2520) (show m ≤ 12 by omega) ?_
  refine Ev_iload_n dX11_dawdle_57 rfl ?_
  refine Ev_callS (bc := 0) (b := 0) dX11_dawdle_58 cs_X11_180 rfl (Nat.le_of_ble_eq_true rfl) (by omega) ?_
  refine c_X11_least hdw (Nat.pow_pos (by decide)) (Nat.pow_le_pow_right (by decide) hm) ?_
  refine Ev_lret dX11_dawdle_61 rfl ?_
  exact k X N

