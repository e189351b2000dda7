/-! ===== the quickest ways, on the component's side ===== -/

set_option maxHeartbeats 4000000 in
set_option maxRecDepth 100000 in
theorem c_X3_shortenTo {d : Nat} {S : aS} {Q : Option Value → aS → Prop} (hD : S[25]? = some (.inr (3, [.ref 26]))) {F : Nat → Int32} {A : Nat → Nat} (h26 : S[26]? = some (iA 7 F)) (hF : ∀ x, x < 7 → F x = nI (A x)) (hA : ∀ x, A x ≤ 1000000) {a b t : Nat} (ha : a < 7) (hb : b < 7) (ht : t ≤ 21) (k : Q none (S.set 26 (iA 7 (upd F b (nI (min (A b) (A a + t))))))) : Mth mX3_shortenTo (d + 1) 0 [.ref 25, .int (nI b), .int (nI a), .int (nI t)] S Q := by
  have hb1 := hA a
  have hb2 := hA b
  refine Mth_of (by decide) rfl ?_
  refine Ev_iload_n dX3_shortenTo_0 rfl ?_
  refine Ev_iconst (v := 0) dX3_shortenTo_1 (by decide) ?_
  refine Ev_bipush (v := 6) dX3_shortenTo_2 (by decide) ?_
  refine Ev_callS (bc := 0) (b := 0) dX3_shortenTo_4 cs_X3_62 rfl (Nat.le_of_ble_eq_true rfl) (by omega) ?_
  refine c_X11_isWithin (fun _ => ?_) (fun q => absurd q (not_not_intro (by rw [nIt (by omega)]; exact ⟨by rw [z32_0]; omega, by rw [show (6 : Int32).toInt = 6 from rfl]; omega⟩)))
  refine Ev_if_eq dX3_shortenTo_7 (fun c => absurd c (by decide)) (fun _ => ?_)
  refine Ev_iload_n dX3_shortenTo_10 rfl ?_
  refine Ev_iconst (v := 0) dX3_shortenTo_11 (by decide) ?_
  refine Ev_bipush (v := 6) dX3_shortenTo_12 (by decide) ?_
  refine Ev_callS (bc := 0) (b := 0) dX3_shortenTo_14 cs_X3_62 rfl (Nat.le_of_ble_eq_true rfl) (by omega) ?_
  refine c_X11_isWithin (fun _ => ?_) (fun q => absurd q (not_not_intro (by rw [nIt (by omega)]; exact ⟨by rw [z32_0]; omega, by rw [show (6 : Int32).toInt = 6 from rfl]; omega⟩)))
  refine Ev_if_eq dX3_shortenTo_17 (fun c => absurd c (by decide)) (fun _ => ?_)
  refine Ev_aload_n dX3_shortenTo_20 rfl ?_
  refine Ev_get dX3_shortenTo_21 fg_X3_9_3 hD rfl ?_
  refine Ev_iload_n dX3_shortenTo_24 rfl ?_
  refine Ev_aload_n dX3_shortenTo_25 rfl ?_
  refine Ev_get dX3_shortenTo_26 fg_X3_9_3 hD rfl ?_
  refine Ev_iload_n dX3_shortenTo_29 rfl ?_
  refine Ev_ialoadN (j := b) dX3_shortenTo_30 h26 (by omega) (by decide) ?_
  refine Ev_topi (y := nI (A b)) (hF _ (by omega)) ?_
  refine Ev_aload_n dX3_shortenTo_31 rfl ?_
  refine Ev_get dX3_shortenTo_32 fg_X3_9_3 hD rfl ?_
  refine Ev_iload_n dX3_shortenTo_35 rfl ?_
  refine Ev_ialoadN (j := a) dX3_shortenTo_36 h26 (by omega) (by decide) ?_
  refine Ev_topi (y := nI (A a)) (hF _ (by omega)) ?_
  refine Ev_iload_n dX3_shortenTo_37 rfl ?_
  refine Ev_iadd dX3_shortenTo_38 ?_
  refine Ev_topi (y := nI ((A a) + t)) (nI_add _ _) ?_
  refine Ev_minN (u := A b) (v := (A a) + t) dX3_shortenTo_39 wm_X3_66 (Nat.le_of_ble_eq_true rfl) (by omega) (by omega) ?_
  refine Ev_iastoreN (j := b) dX3_shortenTo_42 h26 (by omega) (by decide) ?_
  refine Ev_vret dX3_shortenTo_43 rfl ?_
  exact k

set_option maxHeartbeats 4000000 in
set_option maxRecDepth 100000 in
theorem l_X3_shorten {d : Nat} {S : aS} {Q : Option Value → aS → Prop} {pl n q : Nat} {du lw fr : Int32} (hp7 : pl ≤ 7) (hn9 : n ≤ 9) (hq : q ≤ 8) (hN : S[10]? = some (nt (nI pl) (nI n) du lw fr (nI q))) {cs : Nat} {G : Nat → Nat → Nat} (hg : GD pl n G) {sa : Nat → Option Nat} {ad : Nat → Nat} (hA11 : S[11]? = some (rA 4 9 sa)) (hsa : ∀ j, j < n → sa j = some (ad j)) {fz : Int} (hC : CN S n G cs fz ad) (hD : S[25]? = some (.inr (3, [.ref 26]))) {F0 : Nat → Int32} (h26 : S[26]? = some (iA 7 F0)) {A : Nat → Nat} (hA : ∀ x, A x ≤ 1000000) (k : ∀ F, (∀ x, x < 7 → F x = nI (rdA G cs fz A n x)) → Q none (S.set 26 (iA 7 F)))  : ∀ (t i : Nat) (F : Nat → Int32) (hF : ∀ x, x < 7 → F x = nI (rdA G cs fz A i x)), i + t = n → Ev none mX3_shorten (d + 2) 0 2 [some (.ref 25), some (.ref 10), some (.int (nI i)), none] [] (S.set 26 (iA 7 F)) Q := by
  intro t
  induction t with
  | zero =>
    intro i F hF hi
    obtain rfl : i = n := by omega
    refine Ev_iload_n dX3_shorten_2 rfl ?_
    refine Ev_aload_n dX3_shorten_3 rfl ?_
    refine Ev_get dX3_shorten_4 fg_X3_36_2 (gn (by decide) hN) rfl ?_
    refine Ev_icmp_ge dX3_shorten_7 (fun _ => ?_) (fun c => absurd ((nle (by omega) (by omega)).mpr (Nat.le_refl _)) c)
    refine Ev_vret dX3_shorten_65 rfl ?_
    exact k F hF
  | succ t ih =>
    intro i F hF hi
    have had := (hC i (by omega)).2.1
    have hjG := hg.2.2 i (by omega)
    have ht := (tk_le hg fz (show i < n by omega)).1
    have hb1 := rdA_le (G := G) (cs := cs) (fz := fz) hA i (G 1 i)
    have hb2 := rdA_le (G := G) (cs := cs) (fz := fz) hA i (G 2 i)
    have hA1 : ∀ x, (uz (rdA G cs fz A i) (G 2 i) (min (rdA G cs fz A i (G 2 i)) (rdA G cs fz A i (G 1 i) + tk G fz i))) x ≤ 1000000 := by
      intro x
      unfold uz
      split
      · omega
      · exact rdA_le hA i x
    refine Ev_iload_n dX3_shorten_2 rfl ?_
    refine Ev_aload_n dX3_shorten_3 rfl ?_
    refine Ev_get dX3_shorten_4 fg_X3_36_2 (gn (by decide) hN) rfl ?_
    refine Ev_icmp_ge dX3_shorten_7 (fun c => absurd c (fun z => absurd ((nle (by omega) (by omega)).mp z) (by omega))) (fun _ => ?_)
    refine Ev_aload_n dX3_shorten_10 rfl ?_
    refine Ev_iload_n dX3_shorten_11 rfl ?_
    refine Ev_callV (bc := 0) (b := 0) dX3_shorten_12 cv_X3_39 rfl (gn (by decide) hN) (Nat.le_of_ble_eq_true rfl) (by omega) ?_
    refine c_X2_stretchAt hp7 hn9 hq (gn (by decide) hN) (gn (by decide) hA11) hsa (j := i) (by omega) ?_
    refine Ev_astore_n dX3_shorten_15 rfl ?_
    refine Ev_aload_n dX3_shorten_16 rfl ?_
    refine Ev_ifnull dX3_shorten_17 ?_
    refine Ev_aload_n dX3_shorten_20 rfl ?_
    refine Ev_get dX3_shorten_21 (fg3_X3_43 (kc3 _)) ((CN.off hC (by decide)) _ (by omega)).1 rfl ?_
    refine Ev_if_ne dX3_shorten_24 (fun c1 => ?_) (fun c1 => ?_)
    · skip
      have c9 : cs.testBit i = true := by cases hb : cs.testBit i with | true => rfl | false => rw [hb] at c1; exact absurd rfl c1
      refine Ev_iinc (v := nI (i + 1)) dX3_shorten_59 rfl (nI_1 _) rfl ?_
      refine Ev_goto dX3_shorten_62 ?_
      refine Ev_loc (la2 := [some (.ref 25), some (.ref 10), some (.int (nI (i + 1))), none]) ⟨rfl, ⟨rfl, ⟨rfl, trivial⟩⟩⟩ ?_
      exact ih (i + 1) F (fun x hx => by rw [rdA_c c9]; exact hF x hx) (by omega)
    · skip
      have c9 : ¬ cs.testBit i = true := by intro hb; rw [hb] at c1; exact absurd c1 (by decide)
      refine Ev_aload_n dX3_shorten_27 rfl ?_
      refine Ev_aload_n dX3_shorten_28 rfl ?_
      refine Ev_get dX3_shorten_29 (fg3_X3_49 (kc3 _)) ((CN.off hC (by decide)) _ (by omega)).1 rfl ?_
      refine Ev_aload_n dX3_shorten_32 rfl ?_
      refine Ev_get dX3_shorten_33 (fg3_X3_52 (kc3 _)) ((CN.off hC (by decide)) _ (by omega)).1 rfl ?_
      refine Ev_aload_n dX3_shorten_36 rfl ?_
      refine Ev_get dX3_shorten_37 (fg3_X3_55 (kc3 _)) ((CN.off hC (by decide)) _ (by omega)).1 rfl ?_
      refine Ev_callV (bc := 0) (b := 0) dX3_shorten_40 cv_X3_58 rfl (gn (by decide) hD) (Nat.le_of_ble_eq_true rfl) (by omega) ?_
      refine c_X3_shortenTo (gn (by decide) hD) (gs h26) hF (rdA_le hA i) (show G 1 i < 7 by omega) (show G 2 i < 7 by omega) ht ?_
      refine Ev_aload_n dX3_shorten_43 rfl ?_
      refine Ev_aload_n dX3_shorten_44 rfl ?_
      refine Ev_get dX3_shorten_45 (fg3_X3_52 (kc3 _)) (gn (by omega) ((CN.off hC (by decide)) _ (by omega)).1) rfl ?_
      refine Ev_aload_n dX3_shorten_48 rfl ?_
      refine Ev_get dX3_shorten_49 (fg3_X3_49 (kc3 _)) (gn (by omega) ((CN.off hC (by decide)) _ (by omega)).1) rfl ?_
      refine Ev_aload_n dX3_shorten_52 rfl ?_
      refine Ev_get dX3_shorten_53 (fg3_X3_55 (kc3 _)) (gn (by omega) ((CN.off hC (by decide)) _ (by omega)).1) rfl ?_
      refine Ev_callV (bc := 0) (b := 0) dX3_shorten_56 cv_X3_58 rfl (gn (by decide) (gn (by decide) hD)) (Nat.le_of_ble_eq_true rfl) (by omega) ?_
      refine c_X3_shortenTo (A := uz (rdA G cs fz A i) (G 2 i) (min (rdA G cs fz A i (G 2 i)) (rdA G cs fz A i (G 1 i) + tk G fz i))) (gn (by decide) (gn (by decide) hD)) (gs (gs h26)) (updI hF) hA1 (show G 2 i < 7 by omega) (show G 1 i < 7 by omega) ht ?_
      rw [uz_s, uz_n _ _ (show G 1 i ≠ G 2 i by omega)]
      refine Ev_iinc (v := nI (i + 1)) dX3_shorten_59 rfl (nI_1 _) rfl ?_
      refine Ev_goto dX3_shorten_62 ?_
      refine Ev_loc (la2 := [some (.ref 25), some (.ref 10), some (.int (nI (i + 1))), none]) ⟨rfl, ⟨rfl, ⟨rfl, trivial⟩⟩⟩ ?_
      refine Ev_st gss ?_
      refine Ev_st gss ?_
      exact ih (i + 1) _ (fun x hx => by rw [rdA_s c9]; exact rl2 (by omega) hF rfl (by omega) x hx) (by omega)

set_option maxHeartbeats 4000000 in
set_option maxRecDepth 100000 in
theorem c_X3_shorten {d : Nat} {S : aS} {Q : Option Value → aS → Prop} {pl n q : Nat} {du lw fr : Int32} (hp7 : pl ≤ 7) (hn9 : n ≤ 9) (hq : q ≤ 8) (hN : S[10]? = some (nt (nI pl) (nI n) du lw fr (nI q))) {cs : Nat} {G : Nat → Nat → Nat} (hg : GD pl n G) {sa : Nat → Option Nat} {ad : Nat → Nat} (hA11 : S[11]? = some (rA 4 9 sa)) (hsa : ∀ j, j < n → sa j = some (ad j)) {fz : Int} (hC : CN S n G cs fz ad) (hD : S[25]? = some (.inr (3, [.ref 26]))) {F0 : Nat → Int32} (h26 : S[26]? = some (iA 7 F0)) {A : Nat → Nat} (hA : ∀ x, A x ≤ 1000000) (hF0 : ∀ x, x < 7 → F0 x = nI (A x)) (k : ∀ F, (∀ x, x < 7 → F x = nI (rdA G cs fz A n x)) → Q none (S.set 26 (iA 7 F)))  : Mth mX3_shorten (d + 2) 0 [.ref 25, .ref 10] S Q := by
  refine Mth_of (by decide) rfl ?_
  refine Ev_iconst (v := 0) dX3_shorten_0 (by decide) ?_
  refine Ev_istore_n dX3_shorten_1 rfl ?_
  have h0 := l_X3_shorten (S := S) (d := d) (Q := Q) hp7 hn9 hq hN hg hA11 hsa hC hD h26 hA k n 0 F0 hF0 (by omega)
  rw [gid h26] at h0
  exact h0

set_option maxHeartbeats 4000000 in
set_option maxRecDepth 100000 in
theorem l_X3_least {d : Nat} {S : aS} {Q : Option Value → aS → Prop} {pl n q : Nat} {du lw fr : Int32} (hp7 : pl ≤ 7) (hn9 : n ≤ 9) (hq : q ≤ 8) (hN : S[10]? = some (nt (nI pl) (nI n) du lw fr (nI q))) {cs : Nat} {G : Nat → Nat → Nat} (hg : GD pl n G) {sa : Nat → Option Nat} {ad : Nat → Nat} (hA11 : S[11]? = some (rA 4 9 sa)) (hsa : ∀ j, j < n → sa j = some (ad j)) {fz : Int} (hC : CN S n G cs fz ad) (hD : S[25]? = some (.inr (3, [.ref 26]))) {s p : Nat} (hs : s < pl) (hp : p < pl) {F0 : Nat → Int32} (h26 : S[26]? = some (iA 7 F0)) (kn : ∀ F, 1000000 ≤ bfA G cs fz n 1000000 s (pl - 1) p → Q (some (.int (-9))) (S.set 26 (iA 7 F))) (ks : ∀ F, bfA G cs fz n 1000000 s (pl - 1) p < 1000000 → Q (some (.int (nI (bfA G cs fz n 1000000 s (pl - 1) p)))) (S.set 26 (iA 7 F)))  : ∀ (t i : Nat) (F : Nat → Int32) (hi1 : 1 ≤ i) (hF : ∀ x, x < 7 → F x = nI (bfA G cs fz n 1000000 s (i - 1) x)), i + t = pl → Ev none mX3_leastMinutes (d + 3) 0 38 [some (.ref 25), some (.ref 10), some (.int (nI s)), some (.int (nI p)), some (.int (nI i))] [] (S.set 26 (iA 7 F)) Q := by
  intro t
  induction t with
  | zero =>
    intro i F hi1 hF hi
    obtain rfl : i = pl := by omega
    have hbp := bfA_le (G := G) (cs := cs) (fz := fz) (n := n) (M := 1000000) (s := s) (i - 1) p
    refine Ev_iload dX3_leastMinutes_38 rfl ?_
    refine Ev_aload_n dX3_leastMinutes_40 rfl ?_
    refine Ev_get dX3_leastMinutes_41 fg_X3_28_2 (gn (by decide) hN) rfl ?_
    refine Ev_icmp_ge dX3_leastMinutes_44 (fun _ => ?_) (fun c => absurd ((nle (by omega) (by omega)).mpr (Nat.le_refl _)) c)
    refine Ev_aload_n dX3_leastMinutes_58 rfl ?_
    refine Ev_get dX3_leastMinutes_59 fg_X3_9_3 (gn (by decide) hD) rfl ?_
    refine Ev_iload_n dX3_leastMinutes_62 rfl ?_
    refine Ev_ialoadN (j := p) dX3_leastMinutes_63 (gs h26) (by omega) (by decide) ?_
    refine Ev_topi (y := nI (bfA G cs fz n 1000000 s (i - 1) p)) (hF _ (by omega)) ?_
    refine Ev_ldc dX3_leastMinutes_64 wl_X3_21 ?_
    refine Ev_icmp_lt dX3_leastMinutes_66 (fun c1 => ?_) (fun c1 => ?_)
    · skip
      have c1 : (bfA G cs fz n 1000000 s (i - 1) p) < 1000000 := (nlt (a := bfA G cs fz n 1000000 s (i - 1) p) (b := 1000000) (by omega) (by omega)).mp c1
      refine Ev_aload_n dX3_leastMinutes_74 rfl ?_
      refine Ev_get dX3_leastMinutes_75 fg_X3_9_3 (gn (by decide) hD) rfl ?_
      refine Ev_iload_n dX3_leastMinutes_78 rfl ?_
      refine Ev_ialoadN (j := p) dX3_leastMinutes_79 (gs h26) (by omega) (by decide) ?_
      refine Ev_topi (y := nI (bfA G cs fz n 1000000 s (i - 1) p)) (hF _ (by omega)) ?_
      refine Ev_iret dX3_leastMinutes_80 rfl rfl ?_
      exact ks F (by omega)
    · skip
      have c1 : ¬ ((bfA G cs fz n 1000000 s (i - 1) p) < 1000000) := fun z => c1 ((nlt (a := bfA G cs fz n 1000000 s (i - 1) p) (b := 1000000) (by omega) (by omega)).mpr z)
      refine Ev_bipush (v := (-9)) dX3_leastMinutes_69 (by decide) ?_
      refine Ev_goto dX3_leastMinutes_71 ?_
      refine Ev_iret dX3_leastMinutes_80 rfl rfl ?_
      exact kn F (by omega)
  | succ t ih =>
    intro i F hi1 hF hi
    refine Ev_iload dX3_leastMinutes_38 rfl ?_
    refine Ev_aload_n dX3_leastMinutes_40 rfl ?_
    refine Ev_get dX3_leastMinutes_41 fg_X3_28_2 (gn (by decide) hN) rfl ?_
    refine Ev_icmp_ge dX3_leastMinutes_44 (fun c => absurd c (fun z => absurd ((nle (by omega) (by omega)).mp z) (by omega))) (fun _ => ?_)
    refine Ev_aload_n dX3_leastMinutes_47 rfl ?_
    refine Ev_aload_n dX3_leastMinutes_48 rfl ?_
    refine Ev_callV (bc := 0) (b := 0) dX3_leastMinutes_49 cv_X3_32 rfl (gn (by decide) hD) (Nat.le_of_ble_eq_true rfl) (by omega) ?_
    refine c_X3_shorten (A := bfA G cs fz n 1000000 s (i - 1)) hp7 hn9 hq (gn (by decide) hN) hg (gn (by decide) hA11) hsa (CN.off hC (by decide)) (gn (by decide) hD) (gs h26) (bfA_le _) hF (fun F2 hF2 => ?_)
    refine Ev_iinc (v := nI (i + 1)) dX3_leastMinutes_52 rfl (nI_1 _) rfl ?_
    refine Ev_goto dX3_leastMinutes_55 ?_
    exact Ev_st gss (ih (i + 1) F2 (by omega) (fun x hx => by rw [show i + 1 - 1 = (i - 1) + 1 by omega]; exact hF2 x hx) (by omega))

set_option maxHeartbeats 4000000 in
set_option maxRecDepth 100000 in
theorem c_X3_least {d : Nat} {S : aS} {Q : Option Value → aS → Prop} {pl n q : Nat} {du lw fr : Int32} (hp7 : pl ≤ 7) (hn9 : n ≤ 9) (hq : q ≤ 8) (hN : S[10]? = some (nt (nI pl) (nI n) du lw fr (nI q))) {cs : Nat} {G : Nat → Nat → Nat} (hg : GD pl n G) {sa : Nat → Option Nat} {ad : Nat → Nat} (hA11 : S[11]? = some (rA 4 9 sa)) (hsa : ∀ j, j < n → sa j = some (ad j)) {fz : Int} (hC : CN S n G cs fz ad) (hD : S[25]? = some (.inr (3, [.ref 26]))) {s p : Nat} (hs : s < pl) (hp : p < pl) {F0 : Nat → Int32} (h26 : S[26]? = some (iA 7 F0)) (kn : ∀ F, 1000000 ≤ bfA G cs fz n 1000000 s (pl - 1) p → Q (some (.int (-9))) (S.set 26 (iA 7 F))) (ks : ∀ F, bfA G cs fz n 1000000 s (pl - 1) p < 1000000 → Q (some (.int (nI (bfA G cs fz n 1000000 s (pl - 1) p)))) (S.set 26 (iA 7 F)))  : Mth mX3_leastMinutes (d + 3) 0 [.ref 25, .ref 10, .int (nI s), .int (nI p)] S Q := by
  refine Mth_of (by decide) rfl ?_
  refine Ev_aload_n dX3_leastMinutes_0 rfl ?_
  refine Ev_iload_n dX3_leastMinutes_1 rfl ?_
  refine Ev_callV (bc := 0) (b := 0) dX3_leastMinutes_2 cv_X3_15 rfl hN (Nat.le_of_ble_eq_true rfl) (by omega) ?_
  refine c_X2_hasPlace hp7 hn9 hq hN (fun _ => ?_) (fun q => absurd q (not_not_intro (by rw [nIt (by omega)]; omega)))
  refine Ev_if_eq dX3_leastMinutes_5 (fun c => absurd c (by decide)) (fun _ => ?_)
  refine Ev_aload_n dX3_leastMinutes_8 rfl ?_
  refine Ev_iload_n dX3_leastMinutes_9 rfl ?_
  refine Ev_callV (bc := 0) (b := 0) dX3_leastMinutes_10 cv_X3_15 rfl hN (Nat.le_of_ble_eq_true rfl) (by omega) ?_
  refine c_X2_hasPlace hp7 hn9 hq hN (fun _ => ?_) (fun q => absurd q (not_not_intro (by rw [nIt (by omega)]; omega)))
  refine Ev_if_ne dX3_leastMinutes_13 (fun _ => ?_) (fun c => absurd c (by decide))
  refine Ev_aload_n dX3_leastMinutes_19 rfl ?_
  refine Ev_get dX3_leastMinutes_20 fg_X3_9_3 hD rfl ?_
  refine Ev_ldc dX3_leastMinutes_23 wl_X3_21 ?_
  refine Ev_callS (bc := 0) (b := 0) dX3_leastMinutes_25 cs_X3_22 rfl (Nat.le_of_ble_eq_true rfl) (by omega) ?_
  refine c_fillI7 h26 ?_
  refine Ev_aload_n dX3_leastMinutes_28 rfl ?_
  refine Ev_get dX3_leastMinutes_29 fg_X3_9_3 (gn (by decide) hD) rfl ?_
  refine Ev_iload_n dX3_leastMinutes_32 rfl ?_
  refine Ev_iconst (v := 0) dX3_leastMinutes_33 (by decide) ?_
  refine Ev_iastoreN (j := s) dX3_leastMinutes_34 (gs h26) (by omega) (by decide) ?_
  refine Ev_iconst (v := 1) dX3_leastMinutes_35 (by decide) ?_
  refine Ev_istore dX3_leastMinutes_36 rfl ?_
  refine Ev_st gss ?_
  exact l_X3_least (s := s) hp7 hn9 hq hN hg hA11 hsa hC hD hs hp h26 kn ks (pl - 1) 1 _ (Nat.le_refl _) (fun x hx => by simp only [upd, filN, if_pos hx, bfA, Nat.sub_self]; split <;> rfl) (by omega)

set_option maxHeartbeats 4000000 in
set_option maxRecDepth 100000 in
theorem c_X11_quickest_bad {d : Nat} {S : aS} {Q : Option Value → aS → Prop} {lf : Int32} (hO : S[0]? = some (co lf)) {pl n q : Nat} {du lw fr : Int32} (hp7 : pl ≤ 7) (hn9 : n ≤ 9) (hq : q ≤ 8) (hN : S[10]? = some (nt (nI pl) (nI n) du lw fr (nI q))) {x : Int32} (hx : ¬ (0 ≤ x.toInt ∧ x.toInt < pl)) (k : Q (some (.int (-1))) S) : Mth mX11_quickest (d + 4) 0 [.ref 0, .int x] S Q := by
  refine Mth_of (by decide) rfl ?_
  refine Ev_aload_n dX11_quickest_0 rfl ?_
  refine Ev_get dX11_quickest_1 fg_X11_21_11 hO rfl ?_
  refine Ev_iload_n dX11_quickest_4 rfl ?_
  refine Ev_callV (bc := 0) (b := 0) dX11_quickest_5 cv_X11_140 rfl hN (Nat.le_of_ble_eq_true rfl) (by omega) ?_
  refine c_X2_hasPlace hp7 hn9 hq hN (fun q => absurd q hx) (fun _ => ?_)
  refine Ev_if_ne dX11_quickest_8 (fun c => absurd (by decide) c) (fun _ => ?_)
  refine Ev_iconst (v := (-1)) dX11_quickest_11 (by decide) ?_
  refine Ev_iret dX11_quickest_12 rfl rfl ?_
  exact k

set_option maxHeartbeats 4000000 in
set_option maxRecDepth 100000 in
theorem c_X11_via_bad {d : Nat} {S : aS} {Q : Option Value → aS → Prop} {lf : Int32} (hO : S[0]? = some (co lf)) {pl n q : Nat} {du lw fr : Int32} (hp7 : pl ≤ 7) (hn9 : n ≤ 9) (hq : q ≤ 8) (hN : S[10]? = some (nt (nI pl) (nI n) du lw fr (nI q))) {x : Int32} (hx : ¬ (0 ≤ x.toInt ∧ x.toInt < pl)) (k : Q (some (.int (-1))) S) : Mth mX11_via (d + 4) 0 [.ref 0, .int x] S Q := by
  refine Mth_of (by decide) rfl ?_
  refine Ev_aload_n dX11_via_0 rfl ?_
  refine Ev_get dX11_via_1 fg_X11_21_11 hO rfl ?_
  refine Ev_iload_n dX11_via_4 rfl ?_
  refine Ev_callV (bc := 0) (b := 0) dX11_via_5 cv_X11_140 rfl hN (Nat.le_of_ble_eq_true rfl) (by omega) ?_
  refine c_X2_hasPlace hp7 hn9 hq hN (fun q => absurd q hx) (fun _ => ?_)
  refine Ev_if_ne dX11_via_8 (fun c => absurd (by decide) c) (fun _ => ?_)
  refine Ev_iconst (v := (-1)) dX11_via_11 (by decide) ?_
  refine Ev_iret dX11_via_12 rfl rfl ?_
  exact k

set_option maxHeartbeats 4000000 in
set_option maxRecDepth 100000 in
theorem c_X11_quickest {d : Nat} {S : aS} {Q : Option Value → aS → Prop} {lf : Int32} (hO : S[0]? = some (co lf)) {pl n q : Nat} {du lw fr : Int32} (hp7 : pl ≤ 7) (hn9 : n ≤ 9) (hq : q ≤ 8) (hN : S[10]? = some (nt (nI pl) (nI n) du lw fr (nI q))) {cs : Nat} {G : Nat → Nat → Nat} (hg : GD pl n G) {sa : Nat → Option Nat} {ad : Nat → Nat} (hA11 : S[11]? = some (rA 4 9 sa)) (hsa : ∀ j, j < n → sa j = some (ad j)) {fz : Int} (hC : CN S n G cs fz ad) (hD : S[25]? = some (.inr (3, [.ref 26]))) {p : Nat} (hp : p < pl) {F0 : Nat → Int32} (h26 : S[26]? = some (iA 7 F0)) (kn : ∀ F, 1000000 ≤ bfA G cs fz n 1000000 0 (pl - 1) p → Q (some (.int (-9))) (S.set 26 (iA 7 F))) (ks : ∀ F, bfA G cs fz n 1000000 0 (pl - 1) p < 1000000 → Q (some (.int (nI (bfA G cs fz n 1000000 0 (pl - 1) p)))) (S.set 26 (iA 7 F))) : Mth mX11_quickest (d + 4) 0 [.ref 0, .int (nI p)] S Q := by
  refine Mth_of (by decide) rfl ?_
  refine Ev_aload_n dX11_quickest_0 rfl ?_
  refine Ev_get dX11_quickest_1 fg_X11_21_11 hO rfl ?_
  refine Ev_iload_n dX11_quickest_4 rfl ?_
  refine Ev_callV (bc := 0) (b := 0) dX11_quickest_5 cv_X11_140 rfl hN (Nat.le_of_ble_eq_true rfl) (by omega) ?_
  refine c_X2_hasPlace hp7 hn9 hq hN (fun _ => ?_) (fun q => absurd q (not_not_intro (by rw [nIt (by omega)]; omega)))
  refine Ev_if_ne dX11_quickest_8 (fun _ => ?_) (fun c => absurd c (by decide))
  refine Ev_aload_n dX11_quickest_13 rfl ?_
  refine Ev_get dX11_quickest_14 fg_X11_42_11 hO rfl ?_
  refine Ev_aload_n dX11_quickest_17 rfl ?_
  refine Ev_get dX11_quickest_18 fg_X11_21_11 hO rfl ?_
  refine Ev_iconst (v := 0) dX11_quickest_21 (by decide) ?_
  refine Ev_iload_n dX11_quickest_22 rfl ?_
  refine Ev_callV (bc := 0) (b := 0) dX11_quickest_23 cv_X11_184 rfl hD (Nat.le_of_ble_eq_true rfl) (by omega) ?_
  have hbb1 := bfA_le (G := G) (cs := cs) (fz := fz) (n := n) (M := 1000000) (s := 0) (pl - 1) p
  refine c_X3_least (s := 0) (p := p) hp7 hn9 hq hN hg hA11 hsa hC hD (by omega) (by omega) h26 (fun F1 l1 => ?_) (fun F1 l1 => ?_)
  · skip
    refine Ev_iret dX11_quickest_26 rfl rfl ?_
    exact kn F1 l1
  · skip
    refine Ev_iret dX11_quickest_26 rfl rfl ?_
    exact ks F1 l1

theorem nI_n9 {x : Nat} (h : x < 2147483648) : ¬ nI x = -9 := by
  intro z
  have h1 := nIt h
  rw [z] at h1
  have h2 : (-9 : Int32).toInt = -9 := by decide
  omega

set_option maxHeartbeats 4000000 in
set_option maxRecDepth 100000 in
theorem c_X11_via {d : Nat} {S : aS} {Q : Option Value → aS → Prop} {lf : Int32} (hO : S[0]? = some (co lf)) {pl n q : Nat} {du lw fr : Int32} (hp7 : pl ≤ 7) (hn9 : n ≤ 9) (hq : q ≤ 8) (hN : S[10]? = some (nt (nI pl) (nI n) du lw fr (nI q))) {cs : Nat} {G : Nat → Nat → Nat} (hg : GD pl n G) {sa : Nat → Option Nat} {ad : Nat → Nat} (hA11 : S[11]? = some (rA 4 9 sa)) (hsa : ∀ j, j < n → sa j = some (ad j)) {fz : Int} (hC : CN S n G cs fz ad) (hD : S[25]? = some (.inr (3, [.ref 26]))) {p : Nat} (hp : p < pl) {F0 : Nat → Int32} (h26 : S[26]? = some (iA 7 F0)) (kn : ∀ F, 1000000 ≤ bfA G cs fz n 1000000 0 (pl - 1) p ∨ 1000000 ≤ bfA G cs fz n 1000000 p (pl - 1) (pl - 1) → Q (some (.int (-9))) (S.set 26 (iA 7 F))) (ks : ∀ F, bfA G cs fz n 1000000 0 (pl - 1) p < 1000000 → bfA G cs fz n 1000000 p (pl - 1) (pl - 1) < 1000000 → Q (some (.int (nI (bfA G cs fz n 1000000 0 (pl - 1) p + bfA G cs fz n 1000000 p (pl - 1) (pl - 1))))) (S.set 26 (iA 7 F))) : Mth mX11_via (d + 4) 0 [.ref 0, .int (nI p)] S Q := by
  refine Mth_of (by decide) rfl ?_
  refine Ev_aload_n dX11_via_0 rfl ?_
  refine Ev_get dX11_via_1 fg_X11_21_11 hO rfl ?_
  refine Ev_iload_n dX11_via_4 rfl ?_
  refine Ev_callV (bc := 0) (b := 0) dX11_via_5 cv_X11_140 rfl hN (Nat.le_of_ble_eq_true rfl) (by omega) ?_
  refine c_X2_hasPlace hp7 hn9 hq hN (fun _ => ?_) (fun q => absurd q (not_not_intro (by rw [nIt (by omega)]; omega)))
  refine Ev_if_ne dX11_via_8 (fun _ => ?_) (fun c => absurd c (by decide))
  refine Ev_aload_n dX11_via_13 rfl ?_
  refine Ev_get dX11_via_14 fg_X11_42_11 hO rfl ?_
  refine Ev_aload_n dX11_via_17 rfl ?_
  refine Ev_get dX11_via_18 fg_X11_21_11 hO rfl ?_
  refine Ev_iconst (v := 0) dX11_via_21 (by decide) ?_
  refine Ev_iload_n dX11_via_22 rfl ?_
  refine Ev_callV (bc := 0) (b := 0) dX11_via_23 cv_X11_184 rfl hD (Nat.le_of_ble_eq_true rfl) (by omega) ?_
  have hbb1 := bfA_le (G := G) (cs := cs) (fz := fz) (n := n) (M := 1000000) (s := 0) (pl - 1) p
  refine c_X3_least (s := 0) (p := p) hp7 hn9 hq hN hg hA11 hsa hC hD (by omega) (by omega) h26 (fun F1 l1 => ?_) (fun F1 l1 => ?_)
  · skip
    refine Ev_istore_n dX11_via_26 rfl ?_
    refine Ev_aload_n dX11_via_27 rfl ?_
    refine Ev_get dX11_via_28 fg_X11_42_11 (gn (by decide) hO) rfl ?_
    refine Ev_aload_n dX11_via_31 rfl ?_
    refine Ev_get dX11_via_32 fg_X11_21_11 (gn (by decide) hO) rfl ?_
    refine Ev_iload_n dX11_via_35 rfl ?_
    refine Ev_aload_n dX11_via_36 rfl ?_
    refine Ev_get dX11_via_37 fg_X11_21_11 (gn (by decide) hO) rfl ?_
    refine Ev_callV (bc := 0) (b := 0) dX11_via_40 cv_X11_188 rfl (gn (by decide) hN) (Nat.le_of_ble_eq_true rfl) (by omega) ?_
    refine c_X2_home hp7 hn9 hq (gn (by decide) hN) (by omega) ?_
    refine Ev_callV (bc := 0) (b := 0) dX11_via_43 cv_X11_184 rfl (gn (by decide) hD) (Nat.le_of_ble_eq_true rfl) (by omega) ?_
    have hbb2 := bfA_le (G := G) (cs := cs) (fz := fz) (n := n) (M := 1000000) (s := p) (pl - 1) (pl - 1)
    refine c_X3_least (s := p) (p := pl - 1) hp7 hn9 hq (gn (by decide) hN) hg (gn (by decide) hA11) hsa (CN.off hC (by decide)) (gn (by decide) hD) (by omega) (by omega) (gs h26) (fun F2 l2 => ?_) (fun F2 l2 => ?_)
    · skip
      refine Ev_st gss ?_
      refine Ev_istore_n dX11_via_46 rfl ?_
      refine Ev_iload_n dX11_via_47 rfl ?_
      refine Ev_bipush (v := (-9)) dX11_via_48 (by decide) ?_
      refine Ev_icmp_eq dX11_via_50 (fun _ => ?_) (fun c => absurd (by decide) c)
      refine Ev_bipush (v := (-9)) dX11_via_59 (by decide) ?_
      refine Ev_goto dX11_via_61 ?_
      refine Ev_iret dX11_via_67 rfl rfl ?_
      exact kn _ (by omega)
    · skip
      refine Ev_st gss ?_
      refine Ev_istore_n dX11_via_46 rfl ?_
      refine Ev_iload_n dX11_via_47 rfl ?_
      refine Ev_bipush (v := (-9)) dX11_via_48 (by decide) ?_
      refine Ev_icmp_eq dX11_via_50 (fun _ => ?_) (fun c => absurd (by decide) c)
      refine Ev_bipush (v := (-9)) dX11_via_59 (by decide) ?_
      refine Ev_goto dX11_via_61 ?_
      refine Ev_iret dX11_via_67 rfl rfl ?_
      exact kn _ (by omega)
  · skip
    refine Ev_istore_n dX11_via_26 rfl ?_
    refine Ev_aload_n dX11_via_27 rfl ?_
    refine Ev_get dX11_via_28 fg_X11_42_11 (gn (by decide) hO) rfl ?_
    refine Ev_aload_n dX11_via_31 rfl ?_
    refine Ev_get dX11_via_32 fg_X11_21_11 (gn (by decide) hO) rfl ?_
    refine Ev_iload_n dX11_via_35 rfl ?_
    refine Ev_aload_n dX11_via_36 rfl ?_
    refine Ev_get dX11_via_37 fg_X11_21_11 (gn (by decide) hO) rfl ?_
    refine Ev_callV (bc := 0) (b := 0) dX11_via_40 cv_X11_188 rfl (gn (by decide) hN) (Nat.le_of_ble_eq_true rfl) (by omega) ?_
    refine c_X2_home hp7 hn9 hq (gn (by decide) hN) (by omega) ?_
    refine Ev_callV (bc := 0) (b := 0) dX11_via_43 cv_X11_184 rfl (gn (by decide) hD) (Nat.le_of_ble_eq_true rfl) (by omega) ?_
    have hbb3 := bfA_le (G := G) (cs := cs) (fz := fz) (n := n) (M := 1000000) (s := p) (pl - 1) (pl - 1)
    refine c_X3_least (s := p) (p := pl - 1) hp7 hn9 hq (gn (by decide) hN) hg (gn (by decide) hA11) hsa (CN.off hC (by decide)) (gn (by decide) hD) (by omega) (by omega) (gs h26) (fun F3 l3 => ?_) (fun F3 l3 => ?_)
    · skip
      refine Ev_st gss ?_
      refine Ev_istore_n dX11_via_46 rfl ?_
      refine Ev_iload_n dX11_via_47 rfl ?_
      refine Ev_bipush (v := (-9)) dX11_via_48 (by decide) ?_
      refine Ev_icmp_eq dX11_via_50 (fun c => absurd c (nI_n9 (by omega))) (fun _ => ?_)
      refine Ev_iload_n dX11_via_53 rfl ?_
      refine Ev_bipush (v := (-9)) dX11_via_54 (by decide) ?_
      refine Ev_icmp_ne dX11_via_56 (fun c => absurd (by decide) c) (fun _ => ?_)
      refine Ev_bipush (v := (-9)) dX11_via_59 (by decide) ?_
      refine Ev_goto dX11_via_61 ?_
      refine Ev_iret dX11_via_67 rfl rfl ?_
      exact kn _ (by omega)
    · skip
      refine Ev_st gss ?_
      refine Ev_istore_n dX11_via_46 rfl ?_
      refine Ev_iload_n dX11_via_47 rfl ?_
      refine Ev_bipush (v := (-9)) dX11_via_48 (by decide) ?_
      refine Ev_icmp_eq dX11_via_50 (fun c => absurd c (nI_n9 (by omega))) (fun _ => ?_)
      refine Ev_iload_n dX11_via_53 rfl ?_
      refine Ev_bipush (v := (-9)) dX11_via_54 (by decide) ?_
      refine Ev_icmp_ne dX11_via_56 (fun _ => ?_) (fun c => absurd c (nI_n9 (by omega)))
      refine Ev_iload_n dX11_via_64 rfl ?_
      refine Ev_iload_n dX11_via_65 rfl ?_
      refine Ev_iadd dX11_via_66 ?_
      refine Ev_topi (y := nI ((bfA G cs fz n 1000000 0 (pl - 1) p) + (bfA G cs fz n 1000000 p (pl - 1) (pl - 1)))) (nI_add _ _) ?_
      refine Ev_iret dX11_via_67 rfl rfl ?_
      exact ks _ (by omega) (by omega)

