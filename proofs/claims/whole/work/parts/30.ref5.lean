/-! ===== told walks, on the reference's side ===== -/
def paN (G : Nat → Nat → Nat) (cs : Nat) (r : Nat → Nat) : Nat → Option Nat
  | 0 => some 0
  | m + 1 => (paN G cs r m).bind (fun p => gt G cs (r m) p)
def rc (c : Nat → Int32) (y : Nat) : Nat := (c y).toInt.toNat
def inR (n : Nat) (v : Int32) : Prop := 0 ≤ v.toInt ∧ v.toInt < n
theorem inR_rc {n : Nat} {c : Nat → Int32} {y : Nat} (h : inR n (c y)) : c y = nI (rc c y) ∧ rc c y < n := by
  obtain ⟨h1, h2⟩ := h
  exact ⟨(toN h1).1, by unfold rc; omega⟩
theorem paN_lt {G : Nat → Nat → Nat} {cs pl n : Nat} {r : Nat → Nat} (hg : GD pl n G) (hp : 0 < pl) : ∀ (m p : Nat), (∀ y, y < m → r y < n) → paN G cs r m = some p → p < pl
  | 0, p, _, h => by cases h; exact hp
  | m + 1, p, hr, h => by
    simp only [paN] at h
    cases e : paN G cs r m with
    | none => rw [e] at h; cases h
    | some p0 =>
      rw [e] at h
      exact (gt_some hg (hr m (by omega)) h).2.1
theorem paN_s {G : Nat → Nat → Nat} {cs p q m : Nat} {r : Nat → Nat} (h : paN G cs r m = some p) (h2 : gt G cs (r m) p = some q) : paN G cs r (m + 1) = some q := by simp only [paN, h]; exact h2

set_option maxHeartbeats 4000000 in
set_option maxRecDepth 100000 in
theorem c_X12_readsWalk_big {d : Nat} {S : aS} {Q : Option Value → aS → Prop} {flt du lw fr ra rp rs ea dp bm rd tr : Int32} {bi : Int64} {pl n cs : Nat} {G : Nat → Nat → Nat} (hg : GD pl n G) (hcs : cs < 512) (hM : S[31]? = some (mo flt (nI pl) (nI n) du lw fr (nI cs) ra rp rs ea dp bm bi rd tr)) (hG : MN S n G) {o m : Nat} (hm : 12 < m) (hm2 : m ≤ 1000) (k : Q (some (.int (-2))) S) : Mth mX12_readsWalk (d + 2) 0 [.ref 31, .int (nI o), .int (nI m)] S Q := by
  refine Mth_of (by decide) rfl ?_
  refine Ev_iload_n dX12_readsWalk_0 rfl ?_
  refine Ev_bipush (v := 12) dX12_readsWalk_1 (by decide) ?_
  refine Ev_icmp_le dX12_readsWalk_3 (fun c => absurd c (fun z => absurd ((nle (b := 12) (by omega) (by decide)).mp z) (by omega))) (fun _ => ?_)
  refine Ev_bipush (v := (-2)) dX12_readsWalk_6 (by decide) ?_
  refine Ev_iret dX12_readsWalk_8 rfl rfl ?_
  exact k

set_option maxHeartbeats 4000000 in
set_option maxRecDepth 100000 in
theorem l_X12_readsWalk2 {d : Nat} {S : aS} {Q : Option Value → aS → Prop} {flt du lw fr ra rp rs ea dp bm rd tr : Int32} {bi : Int64} {pl n cs : Nat} {G : Nat → Nat → Nat} (hg : GD pl n G) (hcs : cs < 512) (hM : S[31]? = some (mo flt (nI pl) (nI n) du lw fr (nI cs) ra rp rs ea dp bm bi rd tr)) (hG : MN S n G) {o m : Nat} (hm : m ≤ 12) {rw1 : Nat → Int32} {r : Nat → Nat} (hr : S[44]? = some (iA 12 rw1)) (hrow : ∀ y, y < m → rw1 y = nI (r y) ∧ r y < n) (hp0 : 0 < pl) (kf : ∀ x p, x < m → paN G cs r x = some p → gt G cs (r x) p = none → Q (some (.int (-100 - nI x))) S) (ks : ∀ p, paN G cs r m = some p → Q (some (.int 0)) (S.set 31 (mo flt (nI pl) (nI n) du lw fr (nI cs) ra rp rs (nI p) dp bm bi rd tr)))  : ∀ (t i : Nat) (p : Nat) (hpa : paN G cs r i = some p), i + t = m → Ev none mX12_readsWalk (d + 2) 0 56 [some (.ref 31), some (.int (nI o)), some (.int (nI m)), some (.int (nI p)), some (.int (nI i))] [] S Q := by
  have hn9 := hg.2.1
  have hp7 := hg.1
  intro t
  induction t with
  | zero =>
    intro i p hpa hi
    obtain rfl : i = m := by omega
    refine Ev_iload dX12_readsWalk_56 rfl ?_
    refine Ev_iload_n dX12_readsWalk_58 rfl ?_
    refine Ev_icmp_ge dX12_readsWalk_59 (fun _ => ?_) (fun c => absurd ((nle (by omega) (by omega)).mpr (Nat.le_refl _)) c)
    refine Ev_aload_n dX12_readsWalk_91 rfl ?_
    refine Ev_iload_n dX12_readsWalk_92 rfl ?_
    refine Ev_put dX12_readsWalk_93 fr_X12_199_12 hM rfl rfl rfl ?_
    refine Ev_iconst (v := 0) dX12_readsWalk_96 (by decide) ?_
    refine Ev_iret dX12_readsWalk_97 rfl rfl ?_
    exact ks p hpa
  | succ t ih =>
    intro i p hpa hi
    have hpl := paN_lt hg hp0 i p (fun y hy => (hrow y (by omega)).2) hpa
    refine Ev_iload dX12_readsWalk_56 rfl ?_
    refine Ev_iload_n dX12_readsWalk_58 rfl ?_
    refine Ev_icmp_ge dX12_readsWalk_59 (fun c => absurd c (fun z => absurd ((nle (by omega) (by omega)).mp z) (by omega))) (fun _ => ?_)
    refine Ev_aload_n dX12_readsWalk_62 rfl ?_
    refine Ev_aload_n dX12_readsWalk_63 rfl ?_
    refine Ev_get dX12_readsWalk_64 fg_X12_46_12 hM rfl ?_
    refine Ev_iload dX12_readsWalk_67 rfl ?_
    refine Ev_ialoadN (j := i) dX12_readsWalk_69 hr (by omega) (by decide) ?_
    refine Ev_topi (y := nI (r i)) (hrow _ (by omega)).1 ?_
    refine Ev_iload_n dX12_readsWalk_70 rfl ?_
    refine Ev_callV (bc := 0) (b := 0) dX12_readsWalk_71 cv_X12_196 rfl hM (Nat.le_of_ble_eq_true rfl) (by omega) ?_
    refine c_X12_goesTo hg hcs hM hG (hrow i (by omega)).2 (by omega) ?_
    cases hgt : gt G cs (r i) p with
    | none =>
      refine Ev_topi (y := (-9)) rfl ?_
      refine Ev_istore_n dX12_readsWalk_74 rfl ?_
      refine Ev_iload_n dX12_readsWalk_75 rfl ?_
      refine Ev_if_ge dX12_readsWalk_76 (fun c => absurd c (by decide)) (fun _ => ?_)
      refine Ev_bipush (v := (-100)) dX12_readsWalk_79 (by decide) ?_
      refine Ev_iload dX12_readsWalk_81 rfl ?_
      refine Ev_isub dX12_readsWalk_83 ?_
      refine Ev_iret dX12_readsWalk_84 rfl rfl ?_
      exact kf i p (by omega) hpa hgt
    | some p2 =>
      have hp2 := (gt_some hg (hrow i (by omega)).2 hgt).2.1
      refine Ev_topi (y := nI p2) rfl ?_
      refine Ev_istore_n dX12_readsWalk_74 rfl ?_
      refine Ev_iload_n dX12_readsWalk_75 rfl ?_
      refine Ev_if_ge dX12_readsWalk_76 (fun _ => ?_) (fun c => absurd ((nle (a := 0) (by omega) (by omega)).mpr (Nat.zero_le _)) c)
      refine Ev_iinc (v := nI (i + 1)) dX12_readsWalk_85 rfl (nI_1 _) rfl ?_
      refine Ev_goto dX12_readsWalk_88 ?_
      exact ih (i + 1) p2 (paN_s hpa hgt) (by omega)

set_option maxHeartbeats 4000000 in
set_option maxRecDepth 100000 in
theorem l_X12_readsWalk1 {d : Nat} {S : aS} {Q : Option Value → aS → Prop} {flt du lw fr ra rp rs ea dp bm rd tr : Int32} {bi : Int64} {pl n cs : Nat} {G : Nat → Nat → Nat} (hg : GD pl n G) (hcs : cs < 512) (hM : S[31]? = some (mo flt (nI pl) (nI n) du lw fr (nI cs) ra rp rs ea dp bm bi rd tr)) (hG : MN S n G) {o m : Nat} (hom : o + m ≤ 240) {rw0 fc : Nat → Int32} (hr : S[44]? = some (iA 12 rw0)) (hc : S[54]? = some (iA 240 fc)) (hp0 : 0 < pl) (hm : m ≤ 12) (ku : ∀ g x, x < m → ¬ inR n (fc (o + x)) → Q (some (.int (-1))) (S.set 44 (iA 12 g))) (kf : ∀ g x p, x < m → (∀ y, y < m → inR n (fc (o + y))) → paN G cs (rc (fun y => fc (o + y))) x = some p → gt G cs (rc (fun y => fc (o + y)) x) p = none → Q (some (.int (-100 - nI x))) (S.set 44 (iA 12 g))) (ks : ∀ g p, (∀ y, y < m → inR n (fc (o + y))) → (∀ y, y < m → g y = nI (rc (fun y => fc (o + y)) y)) → paN G cs (rc (fun y => fc (o + y))) m = some p → Q (some (.int 0)) ((S.set 44 (iA 12 g)).set 31 (mo flt (nI pl) (nI n) du lw fr (nI cs) ra rp rs (nI p) dp bm bi rd tr)))  : ∀ (t i : Nat) (hin : ∀ y, y < i → inR n (fc (o + y))), i + t = m → Ev none mX12_readsWalk (d + 2) 0 11 [some (.ref 31), some (.int (nI o)), some (.int (nI m)), some (.int (nI i)), none] [] (S.set 44 (iA 12 (cpN fc rw0 o 0 i))) Q := by
  have hn9 := hg.2.1
  have hp7 := hg.1
  intro t
  induction t with
  | zero =>
    intro i hin hi
    obtain rfl : i = m := by omega
    refine Ev_iload_n dX12_readsWalk_11 rfl ?_
    refine Ev_iload_n dX12_readsWalk_12 rfl ?_
    refine Ev_icmp_ge dX12_readsWalk_13 (fun _ => ?_) (fun c => absurd ((nle (by omega) (by omega)).mpr (Nat.le_refl _)) c)
    refine Ev_iconst (v := 0) dX12_readsWalk_51 (by decide) ?_
    refine Ev_istore_n dX12_readsWalk_52 rfl ?_
    refine Ev_iconst (v := 0) dX12_readsWalk_53 (by decide) ?_
    refine Ev_istore dX12_readsWalk_54 rfl ?_
    refine l_X12_readsWalk2 (r := rc (fun y => fc (o + y))) hg hcs (gn (by decide) hM) (MN.off hG (by decide)) hm (gs hr) (fun y hy => ⟨by have h9 := cpN_in (g := fc) (f := rw0) (so := o) (dz := 0) i y hy; rw [Nat.zero_add] at h9; rw [h9]; exact (inR_rc (c := (fun y => fc (o + y))) (hin y hy)).1, (inR_rc (c := (fun y => fc (o + y))) (hin y hy)).2⟩) hp0 (fun x p hx h1 h2 => kf _ x p hx hin h1 h2) (fun p h1 => ks _ p hin (fun y hy => by have h9 := cpN_in (g := fc) (f := rw0) (so := o) (dz := 0) i y hy; rw [Nat.zero_add] at h9; rw [h9]; exact (inR_rc (c := (fun y => fc (o + y))) (hin y hy)).1) h1) i 0 0 rfl (by omega)
  | succ t ih =>
    intro i hin hi
    refine Ev_iload_n dX12_readsWalk_11 rfl ?_
    refine Ev_iload_n dX12_readsWalk_12 rfl ?_
    refine Ev_icmp_ge dX12_readsWalk_13 (fun c => absurd c (fun z => absurd ((nle (by omega) (by omega)).mp z) (by omega))) (fun _ => ?_)
    refine Ev_aload_n dX12_readsWalk_16 rfl ?_
    refine Ev_get dX12_readsWalk_17 fg_X12_46_12 (gn (by decide) hM) rfl ?_
    refine Ev_iload_n dX12_readsWalk_20 rfl ?_
    refine Ev_aload_n dX12_readsWalk_21 rfl ?_
    refine Ev_get dX12_readsWalk_22 fg_X12_78_12 (gn (by decide) hM) rfl ?_
    refine Ev_iload_n dX12_readsWalk_25 rfl ?_
    refine Ev_iload_n dX12_readsWalk_26 rfl ?_
    refine Ev_iadd dX12_readsWalk_27 ?_
    refine Ev_topi (y := nI (o + i)) (nI_add _ _) ?_
    refine Ev_ialoadN (j := o + i) dX12_readsWalk_28 (gn (by decide) hc) (by omega) (by decide) ?_
    refine Ev_iastoreN (j := i) dX12_readsWalk_29 (gs hr) (by omega) (by decide) ?_
    refine Ev_aload_n dX12_readsWalk_30 rfl ?_
    refine Ev_aload_n dX12_readsWalk_31 rfl ?_
    refine Ev_get dX12_readsWalk_32 fg_X12_46_12 (gn (by decide) (gn (by decide) hM)) rfl ?_
    refine Ev_iload_n dX12_readsWalk_35 rfl ?_
    refine Ev_ialoadN (j := i) dX12_readsWalk_36 (gs (gs hr)) (by omega) (by decide) ?_
    refine Ev_topi (y := fc (o + i)) (upd_s _ _ _) ?_
    refine Ev_callV (bc := 0) (b := 0) dX12_readsWalk_37 cv_X12_167 rfl (gn (by decide) (gn (by decide) hM)) (Nat.le_of_ble_eq_true rfl) (by omega) ?_
    refine c_X12_noStretch hp7 hn9 (gn (by decide) (gn (by decide) hM)) (fun q1 => ?_) (fun q1 => ?_)
    · skip
      refine Ev_if_eq dX12_readsWalk_40 (fun c => absurd c (by decide)) (fun _ => ?_)
      refine Ev_iconst (v := (-1)) dX12_readsWalk_43 (by decide) ?_
      refine Ev_iret dX12_readsWalk_44 rfl rfl ?_
      rw [gss]
      exact ku _ i (by omega) q1
    · skip
      refine Ev_if_eq dX12_readsWalk_40 (fun _ => ?_) (fun c => absurd (by decide) c)
      refine Ev_iinc (v := nI (i + 1)) dX12_readsWalk_45 rfl (nI_1 _) rfl ?_
      refine Ev_goto dX12_readsWalk_48 ?_
      exact Ev_st gss ((show cpN fc rw0 o 0 (i + 1) = upd (cpN fc rw0 o 0 i) i (fc (o + i)) from by simp only [cpN, Nat.zero_add]) ▸ ih (i + 1) (fun y hy => by by_cases e : y = i; (subst e; exact Classical.not_not.mp (fun z => z q1)); exact hin y (by omega)) (by omega))

set_option maxHeartbeats 4000000 in
set_option maxRecDepth 100000 in
theorem c_X12_readsWalk {d : Nat} {S : aS} {Q : Option Value → aS → Prop} {flt du lw fr ra rp rs ea dp bm rd tr : Int32} {bi : Int64} {pl n cs : Nat} {G : Nat → Nat → Nat} (hg : GD pl n G) (hcs : cs < 512) (hM : S[31]? = some (mo flt (nI pl) (nI n) du lw fr (nI cs) ra rp rs ea dp bm bi rd tr)) (hG : MN S n G) {o m : Nat} (hom : o + m ≤ 240) {rw0 fc : Nat → Int32} (hr : S[44]? = some (iA 12 rw0)) (hc : S[54]? = some (iA 240 fc)) (hp0 : 0 < pl) (hm : m ≤ 12) (ku : ∀ g x, x < m → ¬ inR n (fc (o + x)) → Q (some (.int (-1))) (S.set 44 (iA 12 g))) (kf : ∀ g x p, x < m → (∀ y, y < m → inR n (fc (o + y))) → paN G cs (rc (fun y => fc (o + y))) x = some p → gt G cs (rc (fun y => fc (o + y)) x) p = none → Q (some (.int (-100 - nI x))) (S.set 44 (iA 12 g))) (ks : ∀ g p, (∀ y, y < m → inR n (fc (o + y))) → (∀ y, y < m → g y = nI (rc (fun y => fc (o + y)) y)) → paN G cs (rc (fun y => fc (o + y))) m = some p → Q (some (.int 0)) ((S.set 44 (iA 12 g)).set 31 (mo flt (nI pl) (nI n) du lw fr (nI cs) ra rp rs (nI p) dp bm bi rd tr)))  : Mth mX12_readsWalk (d + 2) 0 [.ref 31, .int (nI o), .int (nI m)] S Q := by
  refine Mth_of (by decide) rfl ?_
  refine Ev_iload_n dX12_readsWalk_0 rfl ?_
  refine Ev_bipush (v := 12) dX12_readsWalk_1 (by decide) ?_
  refine Ev_icmp_le dX12_readsWalk_3 (fun _ => ?_) (fun c => absurd ((nle (b := 12) (by omega) (by decide)).mpr hm) c)
  refine Ev_iconst (v := 0) dX12_readsWalk_9 (by decide) ?_
  refine Ev_istore_n dX12_readsWalk_10 rfl ?_
  have h0 := l_X12_readsWalk1 (S := S) (d := d) (Q := Q) hg hcs hM hG hom hr hc hp0 hm ku kf ks m 0 (fun y hy => absurd hy (by omega)) (by omega)
  rw [show cpN fc rw0 o 0 0 = rw0 from rfl, gid hr] at h0
  exact h0

theorem m100 {x : Nat} (h : x < 100) : ((-100 : Int32) - nI x).toInt = -100 - (x : Int) := xsub rfl (nIt (by omega)) (by omega)
theorem m100n {x : Nat} (h : x < 100) : ¬ (0 : Int32) ≤ -100 - nI x := by rw [xle, m100 h, z32_0]; omega

set_option maxHeartbeats 4000000 in
set_option maxRecDepth 100000 in
theorem c_X12_walk_unk {d : Nat} {S : aS} {Q : Option Value → aS → Prop} {flt du lw fr ra rp rs ea dp bm rd tr : Int32} {bi : Int64} {pl n cs : Nat} {G : Nat → Nat → Nat} (hg : GD pl n G) (hcs : cs < 512) (hM : S[31]? = some (mo flt (nI pl) (nI n) du lw fr (nI cs) ra rp rs ea dp bm bi rd tr)) (hG : MN S n G) {x : Int32} (hk : ¬ (0 ≤ x.toInt ∧ x.toInt ≤ 3)) {w i n9 v : Int32} (k : Q (some (.int (-1))) (S.set 31 (mo 0 (nI pl) (nI n) du lw fr (nI cs) ra rp rs ea dp bm bi rd tr))) : Mth mX12_walk (d + 5) 0 [.ref 31, .int x, .int w, .int i, .int n9, .int v] S Q := by
  refine Mth_of (by decide) rfl ?_
  refine Ev_iload_n dX12_walk_0 rfl ?_
  refine Ev_callS (bc := 0) (b := 0) dX12_walk_1 cs_X12_133 rfl (Nat.le_of_ble_eq_true rfl) (by omega) ?_
  refine c_X12_noSheet (fun _ => ?_) (fun q => absurd q hk)
  refine Ev_if_eq dX12_walk_4 (fun c => absurd c (by decide)) (fun _ => ?_)
  refine Ev_aload_n dX12_walk_7 rfl ?_
  refine Ev_iconst (v := (-1)) dX12_walk_8 (by decide) ?_
  refine Ev_callV (bc := 0) (b := 0) dX12_walk_9 cv_X12_137 rfl hM (Nat.le_of_ble_eq_true rfl) (by omega) ?_
  refine c_X12_refused hM ?_
  refine Ev_iret dX12_walk_12 rfl rfl ?_
  exact k

set_option maxHeartbeats 4000000 in
set_option maxRecDepth 100000 in
theorem c_X12_walk_lane {d : Nat} {S : aS} {Q : Option Value → aS → Prop} {flt du lw fr ra rp rs ea dp bm rd tr : Int32} {bi : Int64} {pl n cs : Nat} {G : Nat → Nat → Nat} (hg : GD pl n G) (hcs : cs < 512) (hM : S[31]? = some (mo flt (nI pl) (nI n) du lw fr (nI cs) ra rp rs ea dp bm bi rd tr)) (hG : MN S n G) {kk : Nat} (hk : kk < 4) {w i n9 v : Int32} (hw : ¬ (0 ≤ w.toInt ∧ w.toInt ≤ 2)) (k : Q (some (.int (-2))) (S.set 31 (mo 0 (nI pl) (nI n) du lw fr (nI cs) ra rp rs ea dp bm bi rd tr))) : Mth mX12_walk (d + 5) 0 [.ref 31, .int (nI kk), .int w, .int i, .int n9, .int v] S Q := by
  refine Mth_of (by decide) rfl ?_
  refine Ev_iload_n dX12_walk_0 rfl ?_
  refine Ev_callS (bc := 0) (b := 0) dX12_walk_1 cs_X12_133 rfl (Nat.le_of_ble_eq_true rfl) (by omega) ?_
  refine c_X12_noSheet (fun q => absurd q (not_not_intro (by rw [nIt (by omega)]; omega))) (fun _ => ?_)
  refine Ev_if_eq dX12_walk_4 (fun _ => ?_) (fun c => absurd (by decide) c)
  refine Ev_iload_n dX12_walk_13 rfl ?_
  refine Ev_i2l dX12_walk_14 ?_
  refine Ev_lconst (v := 0) dX12_walk_15 (by decide) ?_
  refine Ev_ldc2 dX12_walk_16 wl_X12_140 ?_
  refine Ev_callS (bc := 0) (b := 0) dX12_walk_19 cs_X12_97 rfl (Nat.le_of_ble_eq_true rfl) (by omega) ?_
  refine c_X12_in (x := _) (y := 0) (z := 2) (x64 _) rfl rfl (fun q => absurd q hw) (fun _ => ?_)
  refine Ev_if_eq dX12_walk_22 (fun _ => ?_) (fun c => absurd (by decide) c)
  refine Ev_aload_n dX12_walk_38 rfl ?_
  refine Ev_bipush (v := (-2)) dX12_walk_39 (by decide) ?_
  refine Ev_callV (bc := 0) (b := 0) dX12_walk_41 cv_X12_137 rfl hM (Nat.le_of_ble_eq_true rfl) (by omega) ?_
  refine c_X12_refused hM ?_
  refine Ev_iret dX12_walk_44 rfl rfl ?_
  exact k

set_option maxHeartbeats 4000000 in
set_option maxRecDepth 100000 in
theorem c_X12_walk_what {d : Nat} {S : aS} {Q : Option Value → aS → Prop} {flt du lw fr ra rp rs ea dp bm rd tr : Int32} {bi : Int64} {pl n cs : Nat} {G : Nat → Nat → Nat} (hg : GD pl n G) (hcs : cs < 512) (hM : S[31]? = some (mo flt (nI pl) (nI n) du lw fr (nI cs) ra rp rs ea dp bm bi rd tr)) (hG : MN S n G) {kk : Nat} (hk : kk < 4) {w i n9 v : Int32} (hw : 0 ≤ w.toInt ∧ w.toInt ≤ 2) (hv : ¬ (0 ≤ v.toInt ∧ v.toInt ≤ 3)) (k : Q (some (.int (-2))) (S.set 31 (mo 0 (nI pl) (nI n) du lw fr (nI cs) ra rp rs ea dp bm bi rd tr))) : Mth mX12_walk (d + 5) 0 [.ref 31, .int (nI kk), .int w, .int i, .int n9, .int v] S Q := by
  refine Mth_of (by decide) rfl ?_
  refine Ev_iload_n dX12_walk_0 rfl ?_
  refine Ev_callS (bc := 0) (b := 0) dX12_walk_1 cs_X12_133 rfl (Nat.le_of_ble_eq_true rfl) (by omega) ?_
  refine c_X12_noSheet (fun q => absurd q (not_not_intro (by rw [nIt (by omega)]; omega))) (fun _ => ?_)
  refine Ev_if_eq dX12_walk_4 (fun _ => ?_) (fun c => absurd (by decide) c)
  refine Ev_iload_n dX12_walk_13 rfl ?_
  refine Ev_i2l dX12_walk_14 ?_
  refine Ev_lconst (v := 0) dX12_walk_15 (by decide) ?_
  refine Ev_ldc2 dX12_walk_16 wl_X12_140 ?_
  refine Ev_callS (bc := 0) (b := 0) dX12_walk_19 cs_X12_97 rfl (Nat.le_of_ble_eq_true rfl) (by omega) ?_
  refine c_X12_in (x := _) (y := 0) (z := 2) (x64 _) rfl rfl (fun _ => ?_) (fun q => absurd hw q)
  refine Ev_if_eq dX12_walk_22 (fun c => absurd c (by decide)) (fun _ => ?_)
  refine Ev_iload dX12_walk_25 rfl ?_
  refine Ev_i2l dX12_walk_27 ?_
  refine Ev_lconst (v := 0) dX12_walk_28 (by decide) ?_
  refine Ev_ldc2 dX12_walk_29 wl_X12_202 ?_
  refine Ev_callS (bc := 0) (b := 0) dX12_walk_32 cs_X12_97 rfl (Nat.le_of_ble_eq_true rfl) (by omega) ?_
  refine c_X12_in (x := _) (y := 0) (z := 3) (x64 _) rfl rfl (fun q => absurd q hv) (fun _ => ?_)
  refine Ev_if_ne dX12_walk_35 (fun c => absurd (by decide) c) (fun _ => ?_)
  refine Ev_aload_n dX12_walk_38 rfl ?_
  refine Ev_bipush (v := (-2)) dX12_walk_39 (by decide) ?_
  refine Ev_callV (bc := 0) (b := 0) dX12_walk_41 cv_X12_137 rfl hM (Nat.le_of_ble_eq_true rfl) (by omega) ?_
  refine c_X12_refused hM ?_
  refine Ev_iret dX12_walk_44 rfl rfl ?_
  exact k

set_option maxHeartbeats 4000000 in
set_option maxRecDepth 100000 in
theorem c_X12_walk_none {d : Nat} {S : aS} {Q : Option Value → aS → Prop} {flt du lw fr ra rp rs ea dp bm rd tr : Int32} {bi : Int64} {pl n cs : Nat} {G : Nat → Nat → Nat} (hg : GD pl n G) (hcs : cs < 512) (hM : S[31]? = some (mo flt (nI pl) (nI n) du lw fr (nI cs) ra rp rs ea dp bm bi rd tr)) (hG : MN S n G) {kk : Nat} (hk : kk < 4) {w i n9 v : Int32} (hw : 0 ≤ w.toInt ∧ w.toInt ≤ 2) (hv : 0 ≤ v.toInt ∧ v.toInt ≤ 3) (hn0 : n = 0) (k : Q (some (.int (-3))) (S.set 31 (mo 0 (nI pl) (nI n) du lw fr (nI cs) ra rp rs ea dp bm bi rd tr))) : Mth mX12_walk (d + 5) 0 [.ref 31, .int (nI kk), .int w, .int i, .int n9, .int v] S Q := by
  refine Mth_of (by decide) rfl ?_
  refine Ev_iload_n dX12_walk_0 rfl ?_
  refine Ev_callS (bc := 0) (b := 0) dX12_walk_1 cs_X12_133 rfl (Nat.le_of_ble_eq_true rfl) (by omega) ?_
  refine c_X12_noSheet (fun q => absurd q (not_not_intro (by rw [nIt (by omega)]; omega))) (fun _ => ?_)
  refine Ev_if_eq dX12_walk_4 (fun _ => ?_) (fun c => absurd (by decide) c)
  refine Ev_iload_n dX12_walk_13 rfl ?_
  refine Ev_i2l dX12_walk_14 ?_
  refine Ev_lconst (v := 0) dX12_walk_15 (by decide) ?_
  refine Ev_ldc2 dX12_walk_16 wl_X12_140 ?_
  refine Ev_callS (bc := 0) (b := 0) dX12_walk_19 cs_X12_97 rfl (Nat.le_of_ble_eq_true rfl) (by omega) ?_
  refine c_X12_in (x := _) (y := 0) (z := 2) (x64 _) rfl rfl (fun _ => ?_) (fun q => absurd hw q)
  refine Ev_if_eq dX12_walk_22 (fun c => absurd c (by decide)) (fun _ => ?_)
  refine Ev_iload dX12_walk_25 rfl ?_
  refine Ev_i2l dX12_walk_27 ?_
  refine Ev_lconst (v := 0) dX12_walk_28 (by decide) ?_
  refine Ev_ldc2 dX12_walk_29 wl_X12_202 ?_
  refine Ev_callS (bc := 0) (b := 0) dX12_walk_32 cs_X12_97 rfl (Nat.le_of_ble_eq_true rfl) (by omega) ?_
  refine c_X12_in (x := _) (y := 0) (z := 3) (x64 _) rfl rfl (fun _ => ?_) (fun q => absurd hv q)
  refine Ev_if_ne dX12_walk_35 (fun _ => ?_) (fun c => absurd c (by decide))
  refine Ev_aload_n dX12_walk_45 rfl ?_
  refine Ev_get dX12_walk_46 fg_X12_101_12 hM rfl ?_
  refine Ev_if_ne dX12_walk_49 (fun c => absurd (by rw [hn0]; rfl) c) (fun _ => ?_)
  refine Ev_aload_n dX12_walk_52 rfl ?_
  refine Ev_bipush (v := (-3)) dX12_walk_53 (by decide) ?_
  refine Ev_callV (bc := 0) (b := 0) dX12_walk_55 cv_X12_137 rfl hM (Nat.le_of_ble_eq_true rfl) (by omega) ?_
  refine c_X12_refused hM ?_
  refine Ev_iret dX12_walk_58 rfl rfl ?_
  exact k

set_option maxHeartbeats 4000000 in
set_option maxRecDepth 100000 in
theorem c_X12_walk_cast {d : Nat} {S : aS} {Q : Option Value → aS → Prop} {flt du lw fr ra rp rs ea dp bm rd tr : Int32} {bi : Int64} {pl n cs : Nat} {G : Nat → Nat → Nat} (hg : GD pl n G) (hcs : cs < 512) (hM : S[31]? = some (mo flt (nI pl) (nI n) du lw fr (nI cs) ra rp rs ea dp bm bi rd tr)) (hG : MN S n G) {fs fl fc : Nat → Int32} (hs : S[52]? = some (iA 4 fs)) (hl : S[53]? = some (iA 4 fl)) (hc : S[54]? = some (iA 240 fc)) {kk : Nat} (hk : kk < 4) {z : Int} (hz : fs kk = iZ z) (hzr : -1 ≤ z ∧ z ≤ 60) {w i n9 v : Int32} (hw : 0 ≤ w.toInt ∧ w.toInt ≤ 2) (hv : 0 ≤ v.toInt ∧ v.toInt ≤ 3) (hn0 : n ≠ 0) (hn : 0 ≤ z) (hne : ¬ fl kk = w) (k : Q (some (.int (-12))) (S.set 31 (mo 2 (nI pl) (nI n) du lw fr (nI cs) ra rp rs ea dp bm bi rd tr))) : Mth mX12_walk (d + 5) 0 [.ref 31, .int (nI kk), .int w, .int i, .int n9, .int v] S Q := by
  have hn9 := hg.2.1
  have hp7 := hg.1
  refine Mth_of (by decide) rfl ?_
  refine Ev_iload_n dX12_walk_0 rfl ?_
  refine Ev_callS (bc := 0) (b := 0) dX12_walk_1 cs_X12_133 rfl (Nat.le_of_ble_eq_true rfl) (by omega) ?_
  refine c_X12_noSheet (fun q => absurd q (not_not_intro (by rw [nIt (by omega)]; omega))) (fun _ => ?_)
  refine Ev_if_eq dX12_walk_4 (fun _ => ?_) (fun c => absurd (by decide) c)
  refine Ev_iload_n dX12_walk_13 rfl ?_
  refine Ev_i2l dX12_walk_14 ?_
  refine Ev_lconst (v := 0) dX12_walk_15 (by decide) ?_
  refine Ev_ldc2 dX12_walk_16 wl_X12_140 ?_
  refine Ev_callS (bc := 0) (b := 0) dX12_walk_19 cs_X12_97 rfl (Nat.le_of_ble_eq_true rfl) (by omega) ?_
  refine c_X12_in (x := _) (y := 0) (z := 2) (x64 _) rfl rfl (fun _ => ?_) (fun q => absurd hw q)
  refine Ev_if_eq dX12_walk_22 (fun c => absurd c (by decide)) (fun _ => ?_)
  refine Ev_iload dX12_walk_25 rfl ?_
  refine Ev_i2l dX12_walk_27 ?_
  refine Ev_lconst (v := 0) dX12_walk_28 (by decide) ?_
  refine Ev_ldc2 dX12_walk_29 wl_X12_202 ?_
  refine Ev_callS (bc := 0) (b := 0) dX12_walk_32 cs_X12_97 rfl (Nat.le_of_ble_eq_true rfl) (by omega) ?_
  refine c_X12_in (x := _) (y := 0) (z := 3) (x64 _) rfl rfl (fun _ => ?_) (fun q => absurd hv q)
  refine Ev_if_ne dX12_walk_35 (fun _ => ?_) (fun c => absurd c (by decide))
  refine Ev_aload_n dX12_walk_45 rfl ?_
  refine Ev_get dX12_walk_46 fg_X12_101_12 hM rfl ?_
  refine Ev_if_ne dX12_walk_49 (fun _ => ?_) (fun c => absurd c (fun z => hn0 ((nIinj (b := 0) (by omega) (by decide)).mp z)))
  refine Ev_aload_n dX12_walk_59 rfl ?_
  refine Ev_iload_n dX12_walk_60 rfl ?_
  refine Ev_iload_n dX12_walk_61 rfl ?_
  refine Ev_iload_n dX12_walk_62 rfl ?_
  refine Ev_iload dX12_walk_63 rfl ?_
  refine Ev_i2l dX12_walk_65 ?_
  refine Ev_callV (bc := 0) (b := 0) dX12_walk_66 cv_X12_142 rfl hM (Nat.le_of_ble_eq_true rfl) (by omega) ?_
  refine c_X12_barred_cast (y := n9.toInt) hM hs hl hc hk hz hzr (x64 _) (by have := xr32 n9; omega) hn hne ?_
  refine Ev_istore dX12_walk_69 rfl ?_
  refine Ev_iload dX12_walk_71 rfl ?_
  refine Ev_if_ge dX12_walk_73 (fun c => absurd c (by decide)) (fun _ => ?_)
  refine Ev_iload dX12_walk_76 rfl ?_
  refine Ev_iret dX12_walk_78 rfl rfl ?_
  exact k

set_option maxHeartbeats 4000000 in
set_option maxRecDepth 100000 in
theorem c_X12_walk_n {d : Nat} {S : aS} {Q : Option Value → aS → Prop} {flt du lw fr ra rp rs ea dp bm rd tr : Int32} {bi : Int64} {pl n cs : Nat} {G : Nat → Nat → Nat} (hg : GD pl n G) (hcs : cs < 512) (hM : S[31]? = some (mo flt (nI pl) (nI n) du lw fr (nI cs) ra rp rs ea dp bm bi rd tr)) (hG : MN S n G) {fs fl fc : Nat → Int32} (hs : S[52]? = some (iA 4 fs)) (hl : S[53]? = some (iA 4 fl)) (hc : S[54]? = some (iA 240 fc)) {kk : Nat} (hk : kk < 4) {z : Int} (hz : fs kk = iZ z) (hzr : -1 ≤ z ∧ z ≤ 60) {w i n9 v : Int32} (hw : 0 ≤ w.toInt ∧ w.toInt ≤ 2) (hv : 0 ≤ v.toInt ∧ v.toInt ≤ 3) (hn0 : n ≠ 0) (hn : z < 0) (k : Q (some (.int (-11))) (S.set 31 (mo 1 (nI pl) (nI n) du lw fr (nI cs) ra rp rs ea dp bm bi rd tr))) : Mth mX12_walk (d + 5) 0 [.ref 31, .int (nI kk), .int w, .int i, .int n9, .int v] S Q := by
  have hn9 := hg.2.1
  have hp7 := hg.1
  refine Mth_of (by decide) rfl ?_
  refine Ev_iload_n dX12_walk_0 rfl ?_
  refine Ev_callS (bc := 0) (b := 0) dX12_walk_1 cs_X12_133 rfl (Nat.le_of_ble_eq_true rfl) (by omega) ?_
  refine c_X12_noSheet (fun q => absurd q (not_not_intro (by rw [nIt (by omega)]; omega))) (fun _ => ?_)
  refine Ev_if_eq dX12_walk_4 (fun _ => ?_) (fun c => absurd (by decide) c)
  refine Ev_iload_n dX12_walk_13 rfl ?_
  refine Ev_i2l dX12_walk_14 ?_
  refine Ev_lconst (v := 0) dX12_walk_15 (by decide) ?_
  refine Ev_ldc2 dX12_walk_16 wl_X12_140 ?_
  refine Ev_callS (bc := 0) (b := 0) dX12_walk_19 cs_X12_97 rfl (Nat.le_of_ble_eq_true rfl) (by omega) ?_
  refine c_X12_in (x := _) (y := 0) (z := 2) (x64 _) rfl rfl (fun _ => ?_) (fun q => absurd hw q)
  refine Ev_if_eq dX12_walk_22 (fun c => absurd c (by decide)) (fun _ => ?_)
  refine Ev_iload dX12_walk_25 rfl ?_
  refine Ev_i2l dX12_walk_27 ?_
  refine Ev_lconst (v := 0) dX12_walk_28 (by decide) ?_
  refine Ev_ldc2 dX12_walk_29 wl_X12_202 ?_
  refine Ev_callS (bc := 0) (b := 0) dX12_walk_32 cs_X12_97 rfl (Nat.le_of_ble_eq_true rfl) (by omega) ?_
  refine c_X12_in (x := _) (y := 0) (z := 3) (x64 _) rfl rfl (fun _ => ?_) (fun q => absurd hv q)
  refine Ev_if_ne dX12_walk_35 (fun _ => ?_) (fun c => absurd c (by decide))
  refine Ev_aload_n dX12_walk_45 rfl ?_
  refine Ev_get dX12_walk_46 fg_X12_101_12 hM rfl ?_
  refine Ev_if_ne dX12_walk_49 (fun _ => ?_) (fun c => absurd c (fun z => hn0 ((nIinj (b := 0) (by omega) (by decide)).mp z)))
  refine Ev_aload_n dX12_walk_59 rfl ?_
  refine Ev_iload_n dX12_walk_60 rfl ?_
  refine Ev_iload_n dX12_walk_61 rfl ?_
  refine Ev_iload_n dX12_walk_62 rfl ?_
  refine Ev_iload dX12_walk_63 rfl ?_
  refine Ev_i2l dX12_walk_65 ?_
  refine Ev_callV (bc := 0) (b := 0) dX12_walk_66 cv_X12_142 rfl hM (Nat.le_of_ble_eq_true rfl) (by omega) ?_
  refine c_X12_barred_n (y := n9.toInt) hM hs hl hc hk hz hzr (x64 _) (by have := xr32 n9; omega) hn ?_
  refine Ev_istore dX12_walk_69 rfl ?_
  refine Ev_iload dX12_walk_71 rfl ?_
  refine Ev_if_ge dX12_walk_73 (fun c => absurd c (by decide)) (fun _ => ?_)
  refine Ev_iload dX12_walk_76 rfl ?_
  refine Ev_iret dX12_walk_78 rfl rfl ?_
  exact k

set_option maxHeartbeats 4000000 in
set_option maxRecDepth 100000 in
theorem c_X12_walk_size {d : Nat} {S : aS} {Q : Option Value → aS → Prop} {flt du lw fr ra rp rs ea dp bm rd tr : Int32} {bi : Int64} {pl n cs : Nat} {G : Nat → Nat → Nat} (hg : GD pl n G) (hcs : cs < 512) (hM : S[31]? = some (mo flt (nI pl) (nI n) du lw fr (nI cs) ra rp rs ea dp bm bi rd tr)) (hG : MN S n G) {fs fl fc : Nat → Int32} (hs : S[52]? = some (iA 4 fs)) (hl : S[53]? = some (iA 4 fl)) (hc : S[54]? = some (iA 240 fc)) {kk : Nat} (hk : kk < 4) {z : Int} (hz : fs kk = iZ z) (hzr : -1 ≤ z ∧ z ≤ 60) {w i n9 v : Int32} (hw : 0 ≤ w.toInt ∧ w.toInt ≤ 2) (hv : 0 ≤ v.toInt ∧ v.toInt ≤ 3) (hn0 : n ≠ 0) (hn : 0 ≤ z) (heq : fl kk = w) (hs4 : n9.toInt < 0) (k : Q (some (.int (-14))) (S.set 31 (mo 4 (nI pl) (nI n) du lw fr (nI cs) ra rp rs ea dp bm bi rd tr))) : Mth mX12_walk (d + 5) 0 [.ref 31, .int (nI kk), .int w, .int i, .int n9, .int v] S Q := by
  have hn9 := hg.2.1
  have hp7 := hg.1
  refine Mth_of (by decide) rfl ?_
  refine Ev_iload_n dX12_walk_0 rfl ?_
  refine Ev_callS (bc := 0) (b := 0) dX12_walk_1 cs_X12_133 rfl (Nat.le_of_ble_eq_true rfl) (by omega) ?_
  refine c_X12_noSheet (fun q => absurd q (not_not_intro (by rw [nIt (by omega)]; omega))) (fun _ => ?_)
  refine Ev_if_eq dX12_walk_4 (fun _ => ?_) (fun c => absurd (by decide) c)
  refine Ev_iload_n dX12_walk_13 rfl ?_
  refine Ev_i2l dX12_walk_14 ?_
  refine Ev_lconst (v := 0) dX12_walk_15 (by decide) ?_
  refine Ev_ldc2 dX12_walk_16 wl_X12_140 ?_
  refine Ev_callS (bc := 0) (b := 0) dX12_walk_19 cs_X12_97 rfl (Nat.le_of_ble_eq_true rfl) (by omega) ?_
  refine c_X12_in (x := _) (y := 0) (z := 2) (x64 _) rfl rfl (fun _ => ?_) (fun q => absurd hw q)
  refine Ev_if_eq dX12_walk_22 (fun c => absurd c (by decide)) (fun _ => ?_)
  refine Ev_iload dX12_walk_25 rfl ?_
  refine Ev_i2l dX12_walk_27 ?_
  refine Ev_lconst (v := 0) dX12_walk_28 (by decide) ?_
  refine Ev_ldc2 dX12_walk_29 wl_X12_202 ?_
  refine Ev_callS (bc := 0) (b := 0) dX12_walk_32 cs_X12_97 rfl (Nat.le_of_ble_eq_true rfl) (by omega) ?_
  refine c_X12_in (x := _) (y := 0) (z := 3) (x64 _) rfl rfl (fun _ => ?_) (fun q => absurd hv q)
  refine Ev_if_ne dX12_walk_35 (fun _ => ?_) (fun c => absurd c (by decide))
  refine Ev_aload_n dX12_walk_45 rfl ?_
  refine Ev_get dX12_walk_46 fg_X12_101_12 hM rfl ?_
  refine Ev_if_ne dX12_walk_49 (fun _ => ?_) (fun c => absurd c (fun z => hn0 ((nIinj (b := 0) (by omega) (by decide)).mp z)))
  refine Ev_aload_n dX12_walk_59 rfl ?_
  refine Ev_iload_n dX12_walk_60 rfl ?_
  refine Ev_iload_n dX12_walk_61 rfl ?_
  refine Ev_iload_n dX12_walk_62 rfl ?_
  refine Ev_iload dX12_walk_63 rfl ?_
  refine Ev_i2l dX12_walk_65 ?_
  refine Ev_callV (bc := 0) (b := 0) dX12_walk_66 cv_X12_142 rfl hM (Nat.le_of_ble_eq_true rfl) (by omega) ?_
  refine c_X12_barred_size (y := n9.toInt) hM hs hl hc hk hz hzr (x64 _) (by have := xr32 n9; omega) hn heq hs4 ?_
  refine Ev_istore dX12_walk_69 rfl ?_
  refine Ev_iload dX12_walk_71 rfl ?_
  refine Ev_if_ge dX12_walk_73 (fun c => absurd c (by decide)) (fun _ => ?_)
  refine Ev_iload dX12_walk_76 rfl ?_
  refine Ev_iret dX12_walk_78 rfl rfl ?_
  exact k

set_option maxHeartbeats 4000000 in
set_option maxRecDepth 100000 in
theorem c_X12_walk_ix {d : Nat} {S : aS} {Q : Option Value → aS → Prop} {flt du lw fr ra rp rs ea dp bm rd tr : Int32} {bi : Int64} {pl n cs : Nat} {G : Nat → Nat → Nat} (hg : GD pl n G) (hcs : cs < 512) (hM : S[31]? = some (mo flt (nI pl) (nI n) du lw fr (nI cs) ra rp rs ea dp bm bi rd tr)) (hG : MN S n G) {fs fl fc : Nat → Int32} (hs : S[52]? = some (iA 4 fs)) (hl : S[53]? = some (iA 4 fl)) (hc : S[54]? = some (iA 240 fc)) {kk : Nat} (hk : kk < 4) {z : Int} (hz : fs kk = iZ z) (hzr : -1 ≤ z ∧ z ≤ 60) {w i n9 v : Int32} (hw : 0 ≤ w.toInt ∧ w.toInt ≤ 2) (hv : 0 ≤ v.toInt ∧ v.toInt ≤ 3) (hn0 : n ≠ 0) (hn : 0 ≤ z) (heq : fl kk = w) (hs4 : 0 ≤ n9.toInt) (hi : ¬ (0 ≤ i.toInt ∧ i.toInt + n9.toInt ≤ z)) (k : Q (some (.int (-13))) (S.set 31 (mo 3 (nI pl) (nI n) du lw fr (nI cs) ra rp rs ea dp bm bi rd tr))) : Mth mX12_walk (d + 5) 0 [.ref 31, .int (nI kk), .int w, .int i, .int n9, .int v] S Q := by
  have hn9 := hg.2.1
  have hp7 := hg.1
  refine Mth_of (by decide) rfl ?_
  refine Ev_iload_n dX12_walk_0 rfl ?_
  refine Ev_callS (bc := 0) (b := 0) dX12_walk_1 cs_X12_133 rfl (Nat.le_of_ble_eq_true rfl) (by omega) ?_
  refine c_X12_noSheet (fun q => absurd q (not_not_intro (by rw [nIt (by omega)]; omega))) (fun _ => ?_)
  refine Ev_if_eq dX12_walk_4 (fun _ => ?_) (fun c => absurd (by decide) c)
  refine Ev_iload_n dX12_walk_13 rfl ?_
  refine Ev_i2l dX12_walk_14 ?_
  refine Ev_lconst (v := 0) dX12_walk_15 (by decide) ?_
  refine Ev_ldc2 dX12_walk_16 wl_X12_140 ?_
  refine Ev_callS (bc := 0) (b := 0) dX12_walk_19 cs_X12_97 rfl (Nat.le_of_ble_eq_true rfl) (by omega) ?_
  refine c_X12_in (x := _) (y := 0) (z := 2) (x64 _) rfl rfl (fun _ => ?_) (fun q => absurd hw q)
  refine Ev_if_eq dX12_walk_22 (fun c => absurd c (by decide)) (fun _ => ?_)
  refine Ev_iload dX12_walk_25 rfl ?_
  refine Ev_i2l dX12_walk_27 ?_
  refine Ev_lconst (v := 0) dX12_walk_28 (by decide) ?_
  refine Ev_ldc2 dX12_walk_29 wl_X12_202 ?_
  refine Ev_callS (bc := 0) (b := 0) dX12_walk_32 cs_X12_97 rfl (Nat.le_of_ble_eq_true rfl) (by omega) ?_
  refine c_X12_in (x := _) (y := 0) (z := 3) (x64 _) rfl rfl (fun _ => ?_) (fun q => absurd hv q)
  refine Ev_if_ne dX12_walk_35 (fun _ => ?_) (fun c => absurd c (by decide))
  refine Ev_aload_n dX12_walk_45 rfl ?_
  refine Ev_get dX12_walk_46 fg_X12_101_12 hM rfl ?_
  refine Ev_if_ne dX12_walk_49 (fun _ => ?_) (fun c => absurd c (fun z => hn0 ((nIinj (b := 0) (by omega) (by decide)).mp z)))
  refine Ev_aload_n dX12_walk_59 rfl ?_
  refine Ev_iload_n dX12_walk_60 rfl ?_
  refine Ev_iload_n dX12_walk_61 rfl ?_
  refine Ev_iload_n dX12_walk_62 rfl ?_
  refine Ev_iload dX12_walk_63 rfl ?_
  refine Ev_i2l dX12_walk_65 ?_
  refine Ev_callV (bc := 0) (b := 0) dX12_walk_66 cv_X12_142 rfl hM (Nat.le_of_ble_eq_true rfl) (by omega) ?_
  refine c_X12_barred_ix (y := n9.toInt) hM hs hl hc hk hz hzr (x64 _) (by have := xr32 n9; omega) hn heq hs4 hi ?_
  refine Ev_istore dX12_walk_69 rfl ?_
  refine Ev_iload dX12_walk_71 rfl ?_
  refine Ev_if_ge dX12_walk_73 (fun c => absurd c (by decide)) (fun _ => ?_)
  refine Ev_iload dX12_walk_76 rfl ?_
  refine Ev_iret dX12_walk_78 rfl rfl ?_
  exact k

set_option maxHeartbeats 4000000 in
set_option maxRecDepth 100000 in
theorem c_X12_walk_big {d : Nat} {S : aS} {Q : Option Value → aS → Prop} {flt du lw fr ra rp rs ea dp bm rd tr : Int32} {bi : Int64} {pl n cs : Nat} {G : Nat → Nat → Nat} (hg : GD pl n G) (hcs : cs < 512) (hM : S[31]? = some (mo flt (nI pl) (nI n) du lw fr (nI cs) ra rp rs ea dp bm bi rd tr)) (hG : MN S n G) {fs fl fc : Nat → Int32} (hs : S[52]? = some (iA 4 fs)) (hl : S[53]? = some (iA 4 fl)) (hc : S[54]? = some (iA 240 fc)) {kk : Nat} (hk : kk < 4) {z : Int} (hz : fs kk = iZ z) (hzr : -1 ≤ z ∧ z ≤ 60) {ii m : Nat} {w : Int32} {v : Int32} (hw : 0 ≤ w.toInt ∧ w.toInt ≤ 2) (hv : 0 ≤ v.toInt ∧ v.toInt ≤ 3) (hn0 : n ≠ 0) (hn : 0 ≤ z) (heq : fl kk = w) (hiz : (ii : Int) + m ≤ z) (hm : 12 < m) (k : Q (some (.int (-2))) (S.set 31 (mo 0 (nI pl) (nI n) du lw fr (nI cs) ra rp rs ea dp bm bi rd tr))) : Mth mX12_walk (d + 5) 0 [.ref 31, .int (nI kk), .int w, .int (nI ii), .int (nI m), .int v] S Q := by
  have hn9 := hg.2.1
  have hp7 := hg.1
  refine Mth_of (by decide) rfl ?_
  refine Ev_iload_n dX12_walk_0 rfl ?_
  refine Ev_callS (bc := 0) (b := 0) dX12_walk_1 cs_X12_133 rfl (Nat.le_of_ble_eq_true rfl) (by omega) ?_
  refine c_X12_noSheet (fun q => absurd q (not_not_intro (by rw [nIt (by omega)]; omega))) (fun _ => ?_)
  refine Ev_if_eq dX12_walk_4 (fun _ => ?_) (fun c => absurd (by decide) c)
  refine Ev_iload_n dX12_walk_13 rfl ?_
  refine Ev_i2l dX12_walk_14 ?_
  refine Ev_lconst (v := 0) dX12_walk_15 (by decide) ?_
  refine Ev_ldc2 dX12_walk_16 wl_X12_140 ?_
  refine Ev_callS (bc := 0) (b := 0) dX12_walk_19 cs_X12_97 rfl (Nat.le_of_ble_eq_true rfl) (by omega) ?_
  refine c_X12_in (x := _) (y := 0) (z := 2) (x64 _) rfl rfl (fun _ => ?_) (fun q => absurd hw q)
  refine Ev_if_eq dX12_walk_22 (fun c => absurd c (by decide)) (fun _ => ?_)
  refine Ev_iload dX12_walk_25 rfl ?_
  refine Ev_i2l dX12_walk_27 ?_
  refine Ev_lconst (v := 0) dX12_walk_28 (by decide) ?_
  refine Ev_ldc2 dX12_walk_29 wl_X12_202 ?_
  refine Ev_callS (bc := 0) (b := 0) dX12_walk_32 cs_X12_97 rfl (Nat.le_of_ble_eq_true rfl) (by omega) ?_
  refine c_X12_in (x := _) (y := 0) (z := 3) (x64 _) rfl rfl (fun _ => ?_) (fun q => absurd hv q)
  refine Ev_if_ne dX12_walk_35 (fun _ => ?_) (fun c => absurd c (by decide))
  refine Ev_aload_n dX12_walk_45 rfl ?_
  refine Ev_get dX12_walk_46 fg_X12_101_12 hM rfl ?_
  refine Ev_if_ne dX12_walk_49 (fun _ => ?_) (fun c => absurd c (fun z => hn0 ((nIinj (b := 0) (by omega) (by decide)).mp z)))
  refine Ev_aload_n dX12_walk_59 rfl ?_
  refine Ev_iload_n dX12_walk_60 rfl ?_
  refine Ev_iload_n dX12_walk_61 rfl ?_
  refine Ev_iload_n dX12_walk_62 rfl ?_
  refine Ev_iload dX12_walk_63 rfl ?_
  refine Ev_i2l dX12_walk_65 ?_
  refine Ev_topl (y := lN m) (nl (by omega)) ?_
  refine Ev_callV (bc := 0) (b := 0) dX12_walk_66 cv_X12_142 rfl hM (Nat.le_of_ble_eq_true rfl) (by omega) ?_
  refine c_X12_barred_o (y := (m : Int)) hM hs hl hc hk hz hzr (lN_toInt (by omega)) (by omega) hn heq (by omega) (by rw [nIt (by omega)]; omega) ?_
  refine Ev_istore dX12_walk_69 rfl ?_
  refine Ev_iload dX12_walk_71 rfl ?_
  refine Ev_if_ge dX12_walk_73 (fun _ => ?_) (fun c => absurd (by decide) c)
  refine Ev_aload_n dX12_walk_79 rfl ?_
  refine Ev_bipush (v := 60) dX12_walk_80 (by decide) ?_
  refine Ev_iload_n dX12_walk_82 rfl ?_
  refine Ev_imul dX12_walk_83 ?_
  refine Ev_topi (y := nI (60 * kk)) (nmul _ _) ?_
  refine Ev_iload_n dX12_walk_84 rfl ?_
  refine Ev_iadd dX12_walk_85 ?_
  refine Ev_topi (y := nI ((60 * kk) + ii)) (nI_add _ _) ?_
  refine Ev_iload dX12_walk_86 rfl ?_
  refine Ev_callV (bc := 0) (b := 0) dX12_walk_88 cv_X12_204 rfl hM (Nat.le_of_ble_eq_true rfl) (by omega) ?_
  refine c_X12_readsWalk_big hg hcs hM hG hm (by omega) ?_
  refine Ev_istore dX12_walk_91 rfl ?_
  refine Ev_iload dX12_walk_93 rfl ?_
  refine Ev_if_ge dX12_walk_95 (fun c => absurd c (by decide)) (fun _ => ?_)
  refine Ev_aload_n dX12_walk_98 rfl ?_
  refine Ev_iload dX12_walk_99 rfl ?_
  refine Ev_callV (bc := 0) (b := 0) dX12_walk_101 cv_X12_137 rfl hM (Nat.le_of_ble_eq_true rfl) (by omega) ?_
  refine c_X12_refused hM ?_
  refine Ev_iret dX12_walk_104 rfl rfl ?_
  exact k

set_option maxHeartbeats 4000000 in
set_option maxRecDepth 100000 in
theorem c_X12_walk_0 {d : Nat} {S : aS} {Q : Option Value → aS → Prop} {flt du lw fr ra rp rs ea dp bm rd tr : Int32} {bi : Int64} {pl n cs : Nat} {G : Nat → Nat → Nat} (hg : GD pl n G) (hcs : cs < 512) (hM : S[31]? = some (mo flt (nI pl) (nI n) du lw fr (nI cs) ra rp rs ea dp bm bi rd tr)) (hG : MN S n G) {fs fl fc : Nat → Int32} (hs : S[52]? = some (iA 4 fs)) (hl : S[53]? = some (iA 4 fl)) (hc : S[54]? = some (iA 240 fc)) {kk : Nat} (hk : kk < 4) {z : Int} (hz : fs kk = iZ z) (hzr : -1 ≤ z ∧ z ≤ 60) {ii m : Nat} {w : Int32} (hw : 0 ≤ w.toInt ∧ w.toInt ≤ 2) (hn0 : n ≠ 0) (hn : 0 ≤ z) (heq : fl kk = w) (hiz : (ii : Int) + m ≤ z) {rw0 : Nat → Int32} (hr : S[44]? = some (iA 12 rw0)) (hp0 : 0 < pl) (hdu : 0 ≤ du.toInt ∧ du.toInt ≤ 99) (hm : m ≤ 12) (ku : ∀ g x, x < m → ¬ inR n (fc (60 * kk + ii + x)) → Q (some (.int (-1))) ((S.set 44 (iA 12 g)).set 31 (mo 0 (nI pl) (nI n) du lw fr (nI cs) ra rp rs ea dp bm bi rd tr))) (kf : ∀ g x p, x < m → (∀ y, y < m → inR n (fc (60 * kk + ii + y))) → paN G cs (rc (fun y => fc (60 * kk + ii + y))) x = some p → gt G cs (rc (fun y => fc (60 * kk + ii + y)) x) p = none → Q (some (.int (-100 - nI x))) ((S.set 44 (iA 12 g)).set 31 (mo 0 (nI pl) (nI n) du lw fr (nI cs) ra rp rs ea dp bm bi rd tr))) (ks : ∀ g p, (∀ y, y < m → inR n (fc (60 * kk + ii + y))) → (∀ y, y < m → g y = nI (rc (fun y => fc (60 * kk + ii + y)) y)) → paN G cs (rc (fun y => fc (60 * kk + ii + y))) m = some p → Q (some (.int (nI p))) ((S.set 44 (iA 12 g)).set 31 (mo 0 (nI pl) (nI n) du lw fr (nI cs) ra rp rs (nI p) dp bm bi rd tr)))  : Mth mX12_walk (d + 5) 0 [.ref 31, .int (nI kk), .int w, .int (nI ii), .int (nI m), .int 0] S Q := by
  have hn9 := hg.2.1
  have hp7 := hg.1
  have hv : (0 : Int) ≤ (0 : Int32).toInt ∧ (0 : Int32).toInt ≤ 3 := by decide
  refine Mth_of (by decide) rfl ?_
  refine Ev_iload_n dX12_walk_0 rfl ?_
  refine Ev_callS (bc := 0) (b := 0) dX12_walk_1 cs_X12_133 rfl (Nat.le_of_ble_eq_true rfl) (by omega) ?_
  refine c_X12_noSheet (fun q => absurd q (not_not_intro (by rw [nIt (by omega)]; omega))) (fun _ => ?_)
  refine Ev_if_eq dX12_walk_4 (fun _ => ?_) (fun c => absurd (by decide) c)
  refine Ev_iload_n dX12_walk_13 rfl ?_
  refine Ev_i2l dX12_walk_14 ?_
  refine Ev_lconst (v := 0) dX12_walk_15 (by decide) ?_
  refine Ev_ldc2 dX12_walk_16 wl_X12_140 ?_
  refine Ev_callS (bc := 0) (b := 0) dX12_walk_19 cs_X12_97 rfl (Nat.le_of_ble_eq_true rfl) (by omega) ?_
  refine c_X12_in (x := _) (y := 0) (z := 2) (x64 _) rfl rfl (fun _ => ?_) (fun q => absurd hw q)
  refine Ev_if_eq dX12_walk_22 (fun c => absurd c (by decide)) (fun _ => ?_)
  refine Ev_iload dX12_walk_25 rfl ?_
  refine Ev_i2l dX12_walk_27 ?_
  refine Ev_topl (y := 0) (by decide) ?_
  refine Ev_lconst (v := 0) dX12_walk_28 (by decide) ?_
  refine Ev_ldc2 dX12_walk_29 wl_X12_202 ?_
  refine Ev_callS (bc := 0) (b := 0) dX12_walk_32 cs_X12_97 rfl (Nat.le_of_ble_eq_true rfl) (by omega) ?_
  refine c_X12_in (x := 0) (y := 0) (z := 3) rfl rfl rfl (fun _ => ?_) (fun q => absurd (by decide) q)
  refine Ev_if_ne dX12_walk_35 (fun _ => ?_) (fun c => absurd c (by decide))
  refine Ev_aload_n dX12_walk_45 rfl ?_
  refine Ev_get dX12_walk_46 fg_X12_101_12 hM rfl ?_
  refine Ev_if_ne dX12_walk_49 (fun _ => ?_) (fun c => absurd c (fun z => hn0 ((nIinj (b := 0) (by omega) (by decide)).mp z)))
  refine Ev_aload_n dX12_walk_59 rfl ?_
  refine Ev_iload_n dX12_walk_60 rfl ?_
  refine Ev_iload_n dX12_walk_61 rfl ?_
  refine Ev_iload_n dX12_walk_62 rfl ?_
  refine Ev_iload dX12_walk_63 rfl ?_
  refine Ev_i2l dX12_walk_65 ?_
  refine Ev_topl (y := lN m) (nl (by omega)) ?_
  refine Ev_callV (bc := 0) (b := 0) dX12_walk_66 cv_X12_142 rfl hM (Nat.le_of_ble_eq_true rfl) (by omega) ?_
  refine c_X12_barred_o (y := (m : Int)) hM hs hl hc hk hz hzr (lN_toInt (by omega)) (by omega) hn heq (by omega) (by rw [nIt (by omega)]; omega) ?_
  refine Ev_istore dX12_walk_69 rfl ?_
  refine Ev_iload dX12_walk_71 rfl ?_
  refine Ev_if_ge dX12_walk_73 (fun _ => ?_) (fun c => absurd (by decide) c)
  refine Ev_aload_n dX12_walk_79 rfl ?_
  refine Ev_bipush (v := 60) dX12_walk_80 (by decide) ?_
  refine Ev_iload_n dX12_walk_82 rfl ?_
  refine Ev_imul dX12_walk_83 ?_
  refine Ev_topi (y := nI (60 * kk)) (nmul _ _) ?_
  refine Ev_iload_n dX12_walk_84 rfl ?_
  refine Ev_iadd dX12_walk_85 ?_
  refine Ev_topi (y := nI ((60 * kk) + ii)) (nI_add _ _) ?_
  refine Ev_iload dX12_walk_86 rfl ?_
  refine Ev_callV (bc := 0) (b := 0) dX12_walk_88 cv_X12_204 rfl hM (Nat.le_of_ble_eq_true rfl) (by omega) ?_
  refine c_X12_readsWalk (o := 60 * kk + ii) hg hcs hM hG (by omega) hr hc hp0 hm (fun g x hx hxn => ?_) (fun g x p hx hin hpa hgt => ?_) (fun g p hin hgr hpa => ?_)
  · skip
    refine Ev_istore dX12_walk_91 rfl ?_
    refine Ev_iload dX12_walk_93 rfl ?_
    refine Ev_if_ge dX12_walk_95 (fun c => absurd c (by decide)) (fun _ => ?_)
    refine Ev_aload_n dX12_walk_98 rfl ?_
    refine Ev_iload dX12_walk_99 rfl ?_
    refine Ev_callV (bc := 0) (b := 0) dX12_walk_101 cv_X12_137 rfl (gn (by decide) hM) (Nat.le_of_ble_eq_true rfl) (by omega) ?_
    refine c_X12_refused (gn (by decide) hM) ?_
    refine Ev_iret dX12_walk_104 rfl rfl ?_
    exact ku g x hx hxn
  · skip
    refine Ev_istore dX12_walk_91 rfl ?_
    refine Ev_iload dX12_walk_93 rfl ?_
    refine Ev_if_ge dX12_walk_95 (fun c => absurd c (m100n (by omega))) (fun _ => ?_)
    refine Ev_aload_n dX12_walk_98 rfl ?_
    refine Ev_iload dX12_walk_99 rfl ?_
    refine Ev_callV (bc := 0) (b := 0) dX12_walk_101 cv_X12_137 rfl (gn (by decide) hM) (Nat.le_of_ble_eq_true rfl) (by omega) ?_
    refine c_X12_refused (gn (by decide) hM) ?_
    refine Ev_iret dX12_walk_104 rfl rfl ?_
    exact kf g x p hx hin hpa hgt
  · skip
    have hrw : ∀ y, y < m → g y = nI (rc (fun y => fc (60 * kk + ii + y)) y) ∧ rc (fun y => fc (60 * kk + ii + y)) y < n := fun y hy => ⟨hgr y hy, (inR_rc (c := (fun y => fc (60 * kk + ii + y))) (hin y hy)).2⟩
    have hpl := paN_lt hg hp0 m p (fun y hy => (hrw y hy).2) hpa
    refine Ev_istore dX12_walk_91 rfl ?_
    refine Ev_iload dX12_walk_93 rfl ?_
    refine Ev_if_ge dX12_walk_95 (fun _ => ?_) (fun c => absurd (by decide) c)
    refine Ev_aload_n dX12_walk_105 rfl ?_
    refine Ev_iload dX12_walk_106 rfl ?_
    refine Ev_if_ne dX12_walk_108 (fun c => absurd (by decide) c) (fun _ => ?_)
    refine Ev_aload_n dX12_walk_111 rfl ?_
    refine Ev_get dX12_walk_112 fg_X12_199_12 (gs (gn (by decide) hM)) rfl ?_
    refine Ev_goto dX12_walk_115 ?_
    refine Ev_callV (bc := 0) (b := 0) dX12_walk_157 cv_X12_137 rfl (gs (gn (by decide) hM)) (Nat.le_of_ble_eq_true rfl) (by omega) ?_
    refine c_X12_refused (gs (gn (by decide) hM)) ?_
    refine Ev_st gss ?_
    refine Ev_iret dX12_walk_160 rfl rfl ?_
    exact ks g p hin hgr hpa

set_option maxHeartbeats 4000000 in
set_option maxRecDepth 100000 in
theorem c_X12_walk_1 {d : Nat} {S : aS} {Q : Option Value → aS → Prop} {flt du lw fr ra rp rs ea dp bm rd tr : Int32} {bi : Int64} {pl n cs : Nat} {G : Nat → Nat → Nat} (hg : GD pl n G) (hcs : cs < 512) (hM : S[31]? = some (mo flt (nI pl) (nI n) du lw fr (nI cs) ra rp rs ea dp bm bi rd tr)) (hG : MN S n G) {fs fl fc : Nat → Int32} (hs : S[52]? = some (iA 4 fs)) (hl : S[53]? = some (iA 4 fl)) (hc : S[54]? = some (iA 240 fc)) {kk : Nat} (hk : kk < 4) {z : Int} (hz : fs kk = iZ z) (hzr : -1 ≤ z ∧ z ≤ 60) {ii m : Nat} {w : Int32} (hw : 0 ≤ w.toInt ∧ w.toInt ≤ 2) (hn0 : n ≠ 0) (hn : 0 ≤ z) (heq : fl kk = w) (hiz : (ii : Int) + m ≤ z) {rw0 : Nat → Int32} (hr : S[44]? = some (iA 12 rw0)) (hp0 : 0 < pl) (hdu : 0 ≤ du.toInt ∧ du.toInt ≤ 99) (hm : m ≤ 12) (ku : ∀ g x, x < m → ¬ inR n (fc (60 * kk + ii + x)) → Q (some (.int (-1))) ((S.set 44 (iA 12 g)).set 31 (mo 0 (nI pl) (nI n) du lw fr (nI cs) ra rp rs ea dp bm bi rd tr))) (kf : ∀ g x p, x < m → (∀ y, y < m → inR n (fc (60 * kk + ii + y))) → paN G cs (rc (fun y => fc (60 * kk + ii + y))) x = some p → gt G cs (rc (fun y => fc (60 * kk + ii + y)) x) p = none → Q (some (.int (-100 - nI x))) ((S.set 44 (iA 12 g)).set 31 (mo 0 (nI pl) (nI n) du lw fr (nI cs) ra rp rs ea dp bm bi rd tr))) (ks : ∀ g p, (∀ y, y < m → inR n (fc (60 * kk + ii + y))) → (∀ y, y < m → g y = nI (rc (fun y => fc (60 * kk + ii + y)) y)) → paN G cs (rc (fun y => fc (60 * kk + ii + y))) m = some p → Q (some (.int (nI (sumN (fun x => tk G fr.toInt (rc (fun y => fc (60 * kk + ii + y)) x)) m)))) ((S.set 44 (iA 12 g)).set 31 (mo 0 (nI pl) (nI n) du lw fr (nI cs) ra rp rs (nI p) dp bm bi rd tr)))  : Mth mX12_walk (d + 5) 0 [.ref 31, .int (nI kk), .int w, .int (nI ii), .int (nI m), .int 1] S Q := by
  have hn9 := hg.2.1
  have hp7 := hg.1
  have hv : (0 : Int) ≤ (1 : Int32).toInt ∧ (1 : Int32).toInt ≤ 3 := by decide
  refine Mth_of (by decide) rfl ?_
  refine Ev_iload_n dX12_walk_0 rfl ?_
  refine Ev_callS (bc := 0) (b := 0) dX12_walk_1 cs_X12_133 rfl (Nat.le_of_ble_eq_true rfl) (by omega) ?_
  refine c_X12_noSheet (fun q => absurd q (not_not_intro (by rw [nIt (by omega)]; omega))) (fun _ => ?_)
  refine Ev_if_eq dX12_walk_4 (fun _ => ?_) (fun c => absurd (by decide) c)
  refine Ev_iload_n dX12_walk_13 rfl ?_
  refine Ev_i2l dX12_walk_14 ?_
  refine Ev_lconst (v := 0) dX12_walk_15 (by decide) ?_
  refine Ev_ldc2 dX12_walk_16 wl_X12_140 ?_
  refine Ev_callS (bc := 0) (b := 0) dX12_walk_19 cs_X12_97 rfl (Nat.le_of_ble_eq_true rfl) (by omega) ?_
  refine c_X12_in (x := _) (y := 0) (z := 2) (x64 _) rfl rfl (fun _ => ?_) (fun q => absurd hw q)
  refine Ev_if_eq dX12_walk_22 (fun c => absurd c (by decide)) (fun _ => ?_)
  refine Ev_iload dX12_walk_25 rfl ?_
  refine Ev_i2l dX12_walk_27 ?_
  refine Ev_topl (y := 1) (by decide) ?_
  refine Ev_lconst (v := 0) dX12_walk_28 (by decide) ?_
  refine Ev_ldc2 dX12_walk_29 wl_X12_202 ?_
  refine Ev_callS (bc := 0) (b := 0) dX12_walk_32 cs_X12_97 rfl (Nat.le_of_ble_eq_true rfl) (by omega) ?_
  refine c_X12_in (x := 1) (y := 0) (z := 3) rfl rfl rfl (fun _ => ?_) (fun q => absurd (by decide) q)
  refine Ev_if_ne dX12_walk_35 (fun _ => ?_) (fun c => absurd c (by decide))
  refine Ev_aload_n dX12_walk_45 rfl ?_
  refine Ev_get dX12_walk_46 fg_X12_101_12 hM rfl ?_
  refine Ev_if_ne dX12_walk_49 (fun _ => ?_) (fun c => absurd c (fun z => hn0 ((nIinj (b := 0) (by omega) (by decide)).mp z)))
  refine Ev_aload_n dX12_walk_59 rfl ?_
  refine Ev_iload_n dX12_walk_60 rfl ?_
  refine Ev_iload_n dX12_walk_61 rfl ?_
  refine Ev_iload_n dX12_walk_62 rfl ?_
  refine Ev_iload dX12_walk_63 rfl ?_
  refine Ev_i2l dX12_walk_65 ?_
  refine Ev_topl (y := lN m) (nl (by omega)) ?_
  refine Ev_callV (bc := 0) (b := 0) dX12_walk_66 cv_X12_142 rfl hM (Nat.le_of_ble_eq_true rfl) (by omega) ?_
  refine c_X12_barred_o (y := (m : Int)) hM hs hl hc hk hz hzr (lN_toInt (by omega)) (by omega) hn heq (by omega) (by rw [nIt (by omega)]; omega) ?_
  refine Ev_istore dX12_walk_69 rfl ?_
  refine Ev_iload dX12_walk_71 rfl ?_
  refine Ev_if_ge dX12_walk_73 (fun _ => ?_) (fun c => absurd (by decide) c)
  refine Ev_aload_n dX12_walk_79 rfl ?_
  refine Ev_bipush (v := 60) dX12_walk_80 (by decide) ?_
  refine Ev_iload_n dX12_walk_82 rfl ?_
  refine Ev_imul dX12_walk_83 ?_
  refine Ev_topi (y := nI (60 * kk)) (nmul _ _) ?_
  refine Ev_iload_n dX12_walk_84 rfl ?_
  refine Ev_iadd dX12_walk_85 ?_
  refine Ev_topi (y := nI ((60 * kk) + ii)) (nI_add _ _) ?_
  refine Ev_iload dX12_walk_86 rfl ?_
  refine Ev_callV (bc := 0) (b := 0) dX12_walk_88 cv_X12_204 rfl hM (Nat.le_of_ble_eq_true rfl) (by omega) ?_
  refine c_X12_readsWalk (o := 60 * kk + ii) hg hcs hM hG (by omega) hr hc hp0 hm (fun g x hx hxn => ?_) (fun g x p hx hin hpa hgt => ?_) (fun g p hin hgr hpa => ?_)
  · skip
    refine Ev_istore dX12_walk_91 rfl ?_
    refine Ev_iload dX12_walk_93 rfl ?_
    refine Ev_if_ge dX12_walk_95 (fun c => absurd c (by decide)) (fun _ => ?_)
    refine Ev_aload_n dX12_walk_98 rfl ?_
    refine Ev_iload dX12_walk_99 rfl ?_
    refine Ev_callV (bc := 0) (b := 0) dX12_walk_101 cv_X12_137 rfl (gn (by decide) hM) (Nat.le_of_ble_eq_true rfl) (by omega) ?_
    refine c_X12_refused (gn (by decide) hM) ?_
    refine Ev_iret dX12_walk_104 rfl rfl ?_
    exact ku g x hx hxn
  · skip
    refine Ev_istore dX12_walk_91 rfl ?_
    refine Ev_iload dX12_walk_93 rfl ?_
    refine Ev_if_ge dX12_walk_95 (fun c => absurd c (m100n (by omega))) (fun _ => ?_)
    refine Ev_aload_n dX12_walk_98 rfl ?_
    refine Ev_iload dX12_walk_99 rfl ?_
    refine Ev_callV (bc := 0) (b := 0) dX12_walk_101 cv_X12_137 rfl (gn (by decide) hM) (Nat.le_of_ble_eq_true rfl) (by omega) ?_
    refine c_X12_refused (gn (by decide) hM) ?_
    refine Ev_iret dX12_walk_104 rfl rfl ?_
    exact kf g x p hx hin hpa hgt
  · skip
    have hrw : ∀ y, y < m → g y = nI (rc (fun y => fc (60 * kk + ii + y)) y) ∧ rc (fun y => fc (60 * kk + ii + y)) y < n := fun y hy => ⟨hgr y hy, (inR_rc (c := (fun y => fc (60 * kk + ii + y))) (hin y hy)).2⟩
    have hpl := paN_lt hg hp0 m p (fun y hy => (hrw y hy).2) hpa
    refine Ev_istore dX12_walk_91 rfl ?_
    refine Ev_iload dX12_walk_93 rfl ?_
    refine Ev_if_ge dX12_walk_95 (fun _ => ?_) (fun c => absurd (by decide) c)
    refine Ev_aload_n dX12_walk_105 rfl ?_
    refine Ev_iload dX12_walk_106 rfl ?_
    refine Ev_if_ne dX12_walk_108 (fun _ => ?_) (fun c => absurd c (by decide))
    refine Ev_iload dX12_walk_118 rfl ?_
    refine Ev_iconst (v := 1) dX12_walk_120 (by decide) ?_
    refine Ev_icmp_ne dX12_walk_121 (fun c => absurd (by decide) c) (fun _ => ?_)
    refine Ev_aload_n dX12_walk_124 rfl ?_
    refine Ev_iload dX12_walk_125 rfl ?_
    refine Ev_callV (bc := 0) (b := 0) dX12_walk_127 cv_X12_187 rfl (gs (gn (by decide) hM)) (Nat.le_of_ble_eq_true rfl) (by omega) ?_
    refine c_X12_minutesOf hg hcs (gs (gn (by decide) hM)) (MN.off (MN.off hG (by decide)) (by decide)) hm (gn (by decide) (gs hr)) hrw ?_
    refine Ev_goto dX12_walk_130 ?_
    refine Ev_callV (bc := 0) (b := 0) dX12_walk_157 cv_X12_137 rfl (gs (gn (by decide) hM)) (Nat.le_of_ble_eq_true rfl) (by omega) ?_
    refine c_X12_refused (gs (gn (by decide) hM)) ?_
    refine Ev_st gss ?_
    refine Ev_iret dX12_walk_160 rfl rfl ?_
    exact ks g p hin hgr hpa

set_option maxHeartbeats 4000000 in
set_option maxRecDepth 100000 in
theorem c_X12_walk_2 {d : Nat} {S : aS} {Q : Option Value → aS → Prop} {flt du lw fr ra rp rs ea dp bm rd tr : Int32} {bi : Int64} {pl n cs : Nat} {G : Nat → Nat → Nat} (hg : GD pl n G) (hcs : cs < 512) (hM : S[31]? = some (mo flt (nI pl) (nI n) du lw fr (nI cs) ra rp rs ea dp bm bi rd tr)) (hG : MN S n G) {fs fl fc : Nat → Int32} (hs : S[52]? = some (iA 4 fs)) (hl : S[53]? = some (iA 4 fl)) (hc : S[54]? = some (iA 240 fc)) {kk : Nat} (hk : kk < 4) {z : Int} (hz : fs kk = iZ z) (hzr : -1 ≤ z ∧ z ≤ 60) {ii m : Nat} {w : Int32} (hw : 0 ≤ w.toInt ∧ w.toInt ≤ 2) (hn0 : n ≠ 0) (hn : 0 ≤ z) (heq : fl kk = w) (hiz : (ii : Int) + m ≤ z) {rw0 : Nat → Int32} (hr : S[44]? = some (iA 12 rw0)) (hp0 : 0 < pl) (hdu : 0 ≤ du.toInt ∧ du.toInt ≤ 99) (hm : m ≤ 12) (ku : ∀ g x, x < m → ¬ inR n (fc (60 * kk + ii + x)) → Q (some (.int (-1))) ((S.set 44 (iA 12 g)).set 31 (mo 0 (nI pl) (nI n) du lw fr (nI cs) ra rp rs ea dp bm bi rd tr))) (kf : ∀ g x p, x < m → (∀ y, y < m → inR n (fc (60 * kk + ii + y))) → paN G cs (rc (fun y => fc (60 * kk + ii + y))) x = some p → gt G cs (rc (fun y => fc (60 * kk + ii + y)) x) p = none → Q (some (.int (-100 - nI x))) ((S.set 44 (iA 12 g)).set 31 (mo 0 (nI pl) (nI n) du lw fr (nI cs) ra rp rs ea dp bm bi rd tr))) (ks : ∀ g p, (∀ y, y < m → inR n (fc (60 * kk + ii + y))) → (∀ y, y < m → g y = nI (rc (fun y => fc (60 * kk + ii + y)) y)) → paN G cs (rc (fun y => fc (60 * kk + ii + y))) m = some p → Q (some (.int (nI (sgN G n (goN (rc (fun y => fc (60 * kk + ii + y))) m))))) ((S.set 44 (iA 12 g)).set 31 (mo 0 (nI pl) (nI n) du lw fr (nI cs) ra rp rs (nI p) dp bm bi rd tr)))  : Mth mX12_walk (d + 5) 0 [.ref 31, .int (nI kk), .int w, .int (nI ii), .int (nI m), .int 2] S Q := by
  have hn9 := hg.2.1
  have hp7 := hg.1
  have hv : (0 : Int) ≤ (2 : Int32).toInt ∧ (2 : Int32).toInt ≤ 3 := by decide
  refine Mth_of (by decide) rfl ?_
  refine Ev_iload_n dX12_walk_0 rfl ?_
  refine Ev_callS (bc := 0) (b := 0) dX12_walk_1 cs_X12_133 rfl (Nat.le_of_ble_eq_true rfl) (by omega) ?_
  refine c_X12_noSheet (fun q => absurd q (not_not_intro (by rw [nIt (by omega)]; omega))) (fun _ => ?_)
  refine Ev_if_eq dX12_walk_4 (fun _ => ?_) (fun c => absurd (by decide) c)
  refine Ev_iload_n dX12_walk_13 rfl ?_
  refine Ev_i2l dX12_walk_14 ?_
  refine Ev_lconst (v := 0) dX12_walk_15 (by decide) ?_
  refine Ev_ldc2 dX12_walk_16 wl_X12_140 ?_
  refine Ev_callS (bc := 0) (b := 0) dX12_walk_19 cs_X12_97 rfl (Nat.le_of_ble_eq_true rfl) (by omega) ?_
  refine c_X12_in (x := _) (y := 0) (z := 2) (x64 _) rfl rfl (fun _ => ?_) (fun q => absurd hw q)
  refine Ev_if_eq dX12_walk_22 (fun c => absurd c (by decide)) (fun _ => ?_)
  refine Ev_iload dX12_walk_25 rfl ?_
  refine Ev_i2l dX12_walk_27 ?_
  refine Ev_topl (y := 2) (by decide) ?_
  refine Ev_lconst (v := 0) dX12_walk_28 (by decide) ?_
  refine Ev_ldc2 dX12_walk_29 wl_X12_202 ?_
  refine Ev_callS (bc := 0) (b := 0) dX12_walk_32 cs_X12_97 rfl (Nat.le_of_ble_eq_true rfl) (by omega) ?_
  refine c_X12_in (x := 2) (y := 0) (z := 3) rfl rfl rfl (fun _ => ?_) (fun q => absurd (by decide) q)
  refine Ev_if_ne dX12_walk_35 (fun _ => ?_) (fun c => absurd c (by decide))
  refine Ev_aload_n dX12_walk_45 rfl ?_
  refine Ev_get dX12_walk_46 fg_X12_101_12 hM rfl ?_
  refine Ev_if_ne dX12_walk_49 (fun _ => ?_) (fun c => absurd c (fun z => hn0 ((nIinj (b := 0) (by omega) (by decide)).mp z)))
  refine Ev_aload_n dX12_walk_59 rfl ?_
  refine Ev_iload_n dX12_walk_60 rfl ?_
  refine Ev_iload_n dX12_walk_61 rfl ?_
  refine Ev_iload_n dX12_walk_62 rfl ?_
  refine Ev_iload dX12_walk_63 rfl ?_
  refine Ev_i2l dX12_walk_65 ?_
  refine Ev_topl (y := lN m) (nl (by omega)) ?_
  refine Ev_callV (bc := 0) (b := 0) dX12_walk_66 cv_X12_142 rfl hM (Nat.le_of_ble_eq_true rfl) (by omega) ?_
  refine c_X12_barred_o (y := (m : Int)) hM hs hl hc hk hz hzr (lN_toInt (by omega)) (by omega) hn heq (by omega) (by rw [nIt (by omega)]; omega) ?_
  refine Ev_istore dX12_walk_69 rfl ?_
  refine Ev_iload dX12_walk_71 rfl ?_
  refine Ev_if_ge dX12_walk_73 (fun _ => ?_) (fun c => absurd (by decide) c)
  refine Ev_aload_n dX12_walk_79 rfl ?_
  refine Ev_bipush (v := 60) dX12_walk_80 (by decide) ?_
  refine Ev_iload_n dX12_walk_82 rfl ?_
  refine Ev_imul dX12_walk_83 ?_
  refine Ev_topi (y := nI (60 * kk)) (nmul _ _) ?_
  refine Ev_iload_n dX12_walk_84 rfl ?_
  refine Ev_iadd dX12_walk_85 ?_
  refine Ev_topi (y := nI ((60 * kk) + ii)) (nI_add _ _) ?_
  refine Ev_iload dX12_walk_86 rfl ?_
  refine Ev_callV (bc := 0) (b := 0) dX12_walk_88 cv_X12_204 rfl hM (Nat.le_of_ble_eq_true rfl) (by omega) ?_
  refine c_X12_readsWalk (o := 60 * kk + ii) hg hcs hM hG (by omega) hr hc hp0 hm (fun g x hx hxn => ?_) (fun g x p hx hin hpa hgt => ?_) (fun g p hin hgr hpa => ?_)
  · skip
    refine Ev_istore dX12_walk_91 rfl ?_
    refine Ev_iload dX12_walk_93 rfl ?_
    refine Ev_if_ge dX12_walk_95 (fun c => absurd c (by decide)) (fun _ => ?_)
    refine Ev_aload_n dX12_walk_98 rfl ?_
    refine Ev_iload dX12_walk_99 rfl ?_
    refine Ev_callV (bc := 0) (b := 0) dX12_walk_101 cv_X12_137 rfl (gn (by decide) hM) (Nat.le_of_ble_eq_true rfl) (by omega) ?_
    refine c_X12_refused (gn (by decide) hM) ?_
    refine Ev_iret dX12_walk_104 rfl rfl ?_
    exact ku g x hx hxn
  · skip
    refine Ev_istore dX12_walk_91 rfl ?_
    refine Ev_iload dX12_walk_93 rfl ?_
    refine Ev_if_ge dX12_walk_95 (fun c => absurd c (m100n (by omega))) (fun _ => ?_)
    refine Ev_aload_n dX12_walk_98 rfl ?_
    refine Ev_iload dX12_walk_99 rfl ?_
    refine Ev_callV (bc := 0) (b := 0) dX12_walk_101 cv_X12_137 rfl (gn (by decide) hM) (Nat.le_of_ble_eq_true rfl) (by omega) ?_
    refine c_X12_refused (gn (by decide) hM) ?_
    refine Ev_iret dX12_walk_104 rfl rfl ?_
    exact kf g x p hx hin hpa hgt
  · skip
    have hrw : ∀ y, y < m → g y = nI (rc (fun y => fc (60 * kk + ii + y)) y) ∧ rc (fun y => fc (60 * kk + ii + y)) y < n := fun y hy => ⟨hgr y hy, (inR_rc (c := (fun y => fc (60 * kk + ii + y))) (hin y hy)).2⟩
    have hpl := paN_lt hg hp0 m p (fun y hy => (hrw y hy).2) hpa
    refine Ev_istore dX12_walk_91 rfl ?_
    refine Ev_iload dX12_walk_93 rfl ?_
    refine Ev_if_ge dX12_walk_95 (fun _ => ?_) (fun c => absurd (by decide) c)
    refine Ev_aload_n dX12_walk_105 rfl ?_
    refine Ev_iload dX12_walk_106 rfl ?_
    refine Ev_if_ne dX12_walk_108 (fun _ => ?_) (fun c => absurd c (by decide))
    refine Ev_iload dX12_walk_118 rfl ?_
    refine Ev_iconst (v := 1) dX12_walk_120 (by decide) ?_
    refine Ev_icmp_ne dX12_walk_121 (fun _ => ?_) (fun c => absurd c (by decide))
    refine Ev_iload dX12_walk_133 rfl ?_
    refine Ev_iconst (v := 2) dX12_walk_135 (by decide) ?_
    refine Ev_icmp_ne dX12_walk_136 (fun c => absurd (by decide) c) (fun _ => ?_)
    refine Ev_aload_n dX12_walk_139 rfl ?_
    refine Ev_iload dX12_walk_140 rfl ?_
    refine Ev_callV (bc := 0) (b := 0) dX12_walk_142 cv_X12_184 rfl (gs (gn (by decide) hM)) (Nat.le_of_ble_eq_true rfl) (by omega) ?_
    refine c_X12_sightsBy hg hcs (gs (gn (by decide) hM)) (MN.off (MN.off hG (by decide)) (by decide)) hm (gn (by decide) (gs hr)) hrw ?_
    refine Ev_goto dX12_walk_145 ?_
    refine Ev_callV (bc := 0) (b := 0) dX12_walk_157 cv_X12_137 rfl (gs (gn (by decide) hM)) (Nat.le_of_ble_eq_true rfl) (by omega) ?_
    refine c_X12_refused (gs (gn (by decide) hM)) ?_
    refine Ev_st gss ?_
    refine Ev_iret dX12_walk_160 rfl rfl ?_
    exact ks g p hin hgr hpa

set_option maxHeartbeats 4000000 in
set_option maxRecDepth 100000 in
theorem c_X12_walk_3 {d : Nat} {S : aS} {Q : Option Value → aS → Prop} {flt du lw fr ra rp rs ea dp bm rd tr : Int32} {bi : Int64} {pl n cs : Nat} {G : Nat → Nat → Nat} (hg : GD pl n G) (hcs : cs < 512) (hM : S[31]? = some (mo flt (nI pl) (nI n) du lw fr (nI cs) ra rp rs ea dp bm bi rd tr)) (hG : MN S n G) {fs fl fc : Nat → Int32} (hs : S[52]? = some (iA 4 fs)) (hl : S[53]? = some (iA 4 fl)) (hc : S[54]? = some (iA 240 fc)) {kk : Nat} (hk : kk < 4) {z : Int} (hz : fs kk = iZ z) (hzr : -1 ≤ z ∧ z ≤ 60) {ii m : Nat} {w : Int32} (hw : 0 ≤ w.toInt ∧ w.toInt ≤ 2) (hn0 : n ≠ 0) (hn : 0 ≤ z) (heq : fl kk = w) (hiz : (ii : Int) + m ≤ z) {rw0 : Nat → Int32} (hr : S[44]? = some (iA 12 rw0)) (hp0 : 0 < pl) (hdu : 0 ≤ du.toInt ∧ du.toInt ≤ 99) (hm : m ≤ 12) (ku : ∀ g x, x < m → ¬ inR n (fc (60 * kk + ii + x)) → Q (some (.int (-1))) ((S.set 44 (iA 12 g)).set 31 (mo 0 (nI pl) (nI n) du lw fr (nI cs) ra rp rs ea dp bm bi rd tr))) (kf : ∀ g x p, x < m → (∀ y, y < m → inR n (fc (60 * kk + ii + y))) → paN G cs (rc (fun y => fc (60 * kk + ii + y))) x = some p → gt G cs (rc (fun y => fc (60 * kk + ii + y)) x) p = none → Q (some (.int (-100 - nI x))) ((S.set 44 (iA 12 g)).set 31 (mo 0 (nI pl) (nI n) du lw fr (nI cs) ra rp rs ea dp bm bi rd tr))) (ks : ∀ g p, (∀ y, y < m → inR n (fc (60 * kk + ii + y))) → (∀ y, y < m → g y = nI (rc (fun y => fc (60 * kk + ii + y)) y)) → paN G cs (rc (fun y => fc (60 * kk + ii + y))) m = some p → Q (some (.int (iZ (jy lw.toInt du.toInt (sgN G n (goN (rc (fun y => fc (60 * kk + ii + y))) m) : Int) (sumN (fun x => tk G fr.toInt (rc (fun y => fc (60 * kk + ii + y)) x)) m : Int)) + 100000))) ((S.set 44 (iA 12 g)).set 31 (mo 0 (nI pl) (nI n) du lw fr (nI cs) ra rp rs (nI p) dp bm bi rd tr)))  : Mth mX12_walk (d + 5) 0 [.ref 31, .int (nI kk), .int w, .int (nI ii), .int (nI m), .int 3] S Q := by
  have hn9 := hg.2.1
  have hp7 := hg.1
  have hv : (0 : Int) ≤ (3 : Int32).toInt ∧ (3 : Int32).toInt ≤ 3 := by decide
  refine Mth_of (by decide) rfl ?_
  refine Ev_iload_n dX12_walk_0 rfl ?_
  refine Ev_callS (bc := 0) (b := 0) dX12_walk_1 cs_X12_133 rfl (Nat.le_of_ble_eq_true rfl) (by omega) ?_
  refine c_X12_noSheet (fun q => absurd q (not_not_intro (by rw [nIt (by omega)]; omega))) (fun _ => ?_)
  refine Ev_if_eq dX12_walk_4 (fun _ => ?_) (fun c => absurd (by decide) c)
  refine Ev_iload_n dX12_walk_13 rfl ?_
  refine Ev_i2l dX12_walk_14 ?_
  refine Ev_lconst (v := 0) dX12_walk_15 (by decide) ?_
  refine Ev_ldc2 dX12_walk_16 wl_X12_140 ?_
  refine Ev_callS (bc := 0) (b := 0) dX12_walk_19 cs_X12_97 rfl (Nat.le_of_ble_eq_true rfl) (by omega) ?_
  refine c_X12_in (x := _) (y := 0) (z := 2) (x64 _) rfl rfl (fun _ => ?_) (fun q => absurd hw q)
  refine Ev_if_eq dX12_walk_22 (fun c => absurd c (by decide)) (fun _ => ?_)
  refine Ev_iload dX12_walk_25 rfl ?_
  refine Ev_i2l dX12_walk_27 ?_
  refine Ev_topl (y := 3) (by decide) ?_
  refine Ev_lconst (v := 0) dX12_walk_28 (by decide) ?_
  refine Ev_ldc2 dX12_walk_29 wl_X12_202 ?_
  refine Ev_callS (bc := 0) (b := 0) dX12_walk_32 cs_X12_97 rfl (Nat.le_of_ble_eq_true rfl) (by omega) ?_
  refine c_X12_in (x := 3) (y := 0) (z := 3) rfl rfl rfl (fun _ => ?_) (fun q => absurd (by decide) q)
  refine Ev_if_ne dX12_walk_35 (fun _ => ?_) (fun c => absurd c (by decide))
  refine Ev_aload_n dX12_walk_45 rfl ?_
  refine Ev_get dX12_walk_46 fg_X12_101_12 hM rfl ?_
  refine Ev_if_ne dX12_walk_49 (fun _ => ?_) (fun c => absurd c (fun z => hn0 ((nIinj (b := 0) (by omega) (by decide)).mp z)))
  refine Ev_aload_n dX12_walk_59 rfl ?_
  refine Ev_iload_n dX12_walk_60 rfl ?_
  refine Ev_iload_n dX12_walk_61 rfl ?_
  refine Ev_iload_n dX12_walk_62 rfl ?_
  refine Ev_iload dX12_walk_63 rfl ?_
  refine Ev_i2l dX12_walk_65 ?_
  refine Ev_topl (y := lN m) (nl (by omega)) ?_
  refine Ev_callV (bc := 0) (b := 0) dX12_walk_66 cv_X12_142 rfl hM (Nat.le_of_ble_eq_true rfl) (by omega) ?_
  refine c_X12_barred_o (y := (m : Int)) hM hs hl hc hk hz hzr (lN_toInt (by omega)) (by omega) hn heq (by omega) (by rw [nIt (by omega)]; omega) ?_
  refine Ev_istore dX12_walk_69 rfl ?_
  refine Ev_iload dX12_walk_71 rfl ?_
  refine Ev_if_ge dX12_walk_73 (fun _ => ?_) (fun c => absurd (by decide) c)
  refine Ev_aload_n dX12_walk_79 rfl ?_
  refine Ev_bipush (v := 60) dX12_walk_80 (by decide) ?_
  refine Ev_iload_n dX12_walk_82 rfl ?_
  refine Ev_imul dX12_walk_83 ?_
  refine Ev_topi (y := nI (60 * kk)) (nmul _ _) ?_
  refine Ev_iload_n dX12_walk_84 rfl ?_
  refine Ev_iadd dX12_walk_85 ?_
  refine Ev_topi (y := nI ((60 * kk) + ii)) (nI_add _ _) ?_
  refine Ev_iload dX12_walk_86 rfl ?_
  refine Ev_callV (bc := 0) (b := 0) dX12_walk_88 cv_X12_204 rfl hM (Nat.le_of_ble_eq_true rfl) (by omega) ?_
  refine c_X12_readsWalk (o := 60 * kk + ii) hg hcs hM hG (by omega) hr hc hp0 hm (fun g x hx hxn => ?_) (fun g x p hx hin hpa hgt => ?_) (fun g p hin hgr hpa => ?_)
  · skip
    refine Ev_istore dX12_walk_91 rfl ?_
    refine Ev_iload dX12_walk_93 rfl ?_
    refine Ev_if_ge dX12_walk_95 (fun c => absurd c (by decide)) (fun _ => ?_)
    refine Ev_aload_n dX12_walk_98 rfl ?_
    refine Ev_iload dX12_walk_99 rfl ?_
    refine Ev_callV (bc := 0) (b := 0) dX12_walk_101 cv_X12_137 rfl (gn (by decide) hM) (Nat.le_of_ble_eq_true rfl) (by omega) ?_
    refine c_X12_refused (gn (by decide) hM) ?_
    refine Ev_iret dX12_walk_104 rfl rfl ?_
    exact ku g x hx hxn
  · skip
    refine Ev_istore dX12_walk_91 rfl ?_
    refine Ev_iload dX12_walk_93 rfl ?_
    refine Ev_if_ge dX12_walk_95 (fun c => absurd c (m100n (by omega))) (fun _ => ?_)
    refine Ev_aload_n dX12_walk_98 rfl ?_
    refine Ev_iload dX12_walk_99 rfl ?_
    refine Ev_callV (bc := 0) (b := 0) dX12_walk_101 cv_X12_137 rfl (gn (by decide) hM) (Nat.le_of_ble_eq_true rfl) (by omega) ?_
    refine c_X12_refused (gn (by decide) hM) ?_
    refine Ev_iret dX12_walk_104 rfl rfl ?_
    exact kf g x p hx hin hpa hgt
  · skip
    have hrw : ∀ y, y < m → g y = nI (rc (fun y => fc (60 * kk + ii + y)) y) ∧ rc (fun y => fc (60 * kk + ii + y)) y < n := fun y hy => ⟨hgr y hy, (inR_rc (c := (fun y => fc (60 * kk + ii + y))) (hin y hy)).2⟩
    have hpl := paN_lt hg hp0 m p (fun y hy => (hrw y hy).2) hpa
    refine Ev_istore dX12_walk_91 rfl ?_
    refine Ev_iload dX12_walk_93 rfl ?_
    refine Ev_if_ge dX12_walk_95 (fun _ => ?_) (fun c => absurd (by decide) c)
    refine Ev_aload_n dX12_walk_105 rfl ?_
    refine Ev_iload dX12_walk_106 rfl ?_
    refine Ev_if_ne dX12_walk_108 (fun _ => ?_) (fun c => absurd c (by decide))
    refine Ev_iload dX12_walk_118 rfl ?_
    refine Ev_iconst (v := 1) dX12_walk_120 (by decide) ?_
    refine Ev_icmp_ne dX12_walk_121 (fun _ => ?_) (fun c => absurd c (by decide))
    refine Ev_iload dX12_walk_133 rfl ?_
    refine Ev_iconst (v := 2) dX12_walk_135 (by decide) ?_
    refine Ev_icmp_ne dX12_walk_136 (fun _ => ?_) (fun c => absurd c (by decide))
    refine Ev_aload_n dX12_walk_148 rfl ?_
    refine Ev_iload dX12_walk_149 rfl ?_
    refine Ev_callV (bc := 0) (b := 0) dX12_walk_151 cv_X12_207 rfl (gs (gn (by decide) hM)) (Nat.le_of_ble_eq_true rfl) (by omega) ?_
    refine c_X12_joyOf hg hcs (gs (gn (by decide) hM)) (MN.off (MN.off hG (by decide)) (by decide)) hm (gn (by decide) (gs hr)) hrw hdu ?_
    refine Ev_ldc dX12_walk_154 wl_X12_210 ?_
    refine Ev_iadd dX12_walk_156 ?_
    refine Ev_callV (bc := 0) (b := 0) dX12_walk_157 cv_X12_137 rfl (gs (gn (by decide) hM)) (Nat.le_of_ble_eq_true rfl) (by omega) ?_
    refine c_X12_refused (gs (gn (by decide) hM)) ?_
    refine Ev_st gss ?_
    refine Ev_iret dX12_walk_160 rfl rfl ?_
    exact ks g p hin hgr hpa

set_option maxHeartbeats 4000000 in
set_option maxRecDepth 100000 in
theorem c_X12_safe_unk {d : Nat} {S : aS} {Q : Option Value → aS → Prop} {flt du lw fr ra rp rs ea dp bm rd tr : Int32} {bi : Int64} {pl n cs : Nat} {G : Nat → Nat → Nat} (hg : GD pl n G) (hcs : cs < 512) (hM : S[31]? = some (mo flt (nI pl) (nI n) du lw fr (nI cs) ra rp rs ea dp bm bi rd tr)) (hG : MN S n G) {x : Int32} (hk : ¬ (0 ≤ x.toInt ∧ x.toInt ≤ 3)) {w i n9 v : Int32} (k : Q (some (.long (-9223372036854775808))) (S.set 31 (mo 0 (nI pl) (nI n) du lw fr (nI cs) ra rp rs ea dp bm bi rd tr))) : Mth mX12_safe (d + 5) 0 [.ref 31, .int x, .int w, .int i, .int n9, .int v] S Q := by
  refine Mth_of (by decide) rfl ?_
  refine Ev_iload_n dX12_safe_0 rfl ?_
  refine Ev_callS (bc := 0) (b := 0) dX12_safe_1 cs_X12_133 rfl (Nat.le_of_ble_eq_true rfl) (by omega) ?_
  refine c_X12_noSheet (fun _ => ?_) (fun q => absurd q hk)
  refine Ev_if_ne dX12_safe_4 (fun _ => ?_) (fun c => absurd c (by decide))
  refine Ev_aload_n dX12_safe_37 rfl ?_
  refine Ev_callV (bc := 0) (b := 0) dX12_safe_38 cv_X12_211 rfl hM (Nat.le_of_ble_eq_true rfl) (by omega) ?_
  refine c_X12_refusedLong hM ?_
  refine Ev_lret dX12_safe_41 rfl ?_
  exact k

set_option maxHeartbeats 4000000 in
set_option maxRecDepth 100000 in
theorem c_X12_safe_lane {d : Nat} {S : aS} {Q : Option Value → aS → Prop} {flt du lw fr ra rp rs ea dp bm rd tr : Int32} {bi : Int64} {pl n cs : Nat} {G : Nat → Nat → Nat} (hg : GD pl n G) (hcs : cs < 512) (hM : S[31]? = some (mo flt (nI pl) (nI n) du lw fr (nI cs) ra rp rs ea dp bm bi rd tr)) (hG : MN S n G) {kk : Nat} (hk : kk < 4) {w i n9 v : Int32} (hw : ¬ (0 ≤ w.toInt ∧ w.toInt ≤ 2)) (k : Q (some (.long (-9223372036854775808))) (S.set 31 (mo 0 (nI pl) (nI n) du lw fr (nI cs) ra rp rs ea dp bm bi rd tr))) : Mth mX12_safe (d + 5) 0 [.ref 31, .int (nI kk), .int w, .int i, .int n9, .int v] S Q := by
  refine Mth_of (by decide) rfl ?_
  refine Ev_iload_n dX12_safe_0 rfl ?_
  refine Ev_callS (bc := 0) (b := 0) dX12_safe_1 cs_X12_133 rfl (Nat.le_of_ble_eq_true rfl) (by omega) ?_
  refine c_X12_noSheet (fun q => absurd q (not_not_intro (by rw [nIt (by omega)]; omega))) (fun _ => ?_)
  refine Ev_if_ne dX12_safe_4 (fun c => absurd (by decide) c) (fun _ => ?_)
  refine Ev_iload_n dX12_safe_7 rfl ?_
  refine Ev_i2l dX12_safe_8 ?_
  refine Ev_lconst (v := 0) dX12_safe_9 (by decide) ?_
  refine Ev_ldc2 dX12_safe_10 wl_X12_140 ?_
  refine Ev_callS (bc := 0) (b := 0) dX12_safe_13 cs_X12_97 rfl (Nat.le_of_ble_eq_true rfl) (by omega) ?_
  refine c_X12_in (x := _) (y := 0) (z := 2) (x64 _) rfl rfl (fun q => absurd q hw) (fun _ => ?_)
  refine Ev_if_eq dX12_safe_16 (fun _ => ?_) (fun c => absurd (by decide) c)
  refine Ev_aload_n dX12_safe_37 rfl ?_
  refine Ev_callV (bc := 0) (b := 0) dX12_safe_38 cv_X12_211 rfl hM (Nat.le_of_ble_eq_true rfl) (by omega) ?_
  refine c_X12_refusedLong hM ?_
  refine Ev_lret dX12_safe_41 rfl ?_
  exact k

set_option maxHeartbeats 4000000 in
set_option maxRecDepth 100000 in
theorem c_X12_safe_what {d : Nat} {S : aS} {Q : Option Value → aS → Prop} {flt du lw fr ra rp rs ea dp bm rd tr : Int32} {bi : Int64} {pl n cs : Nat} {G : Nat → Nat → Nat} (hg : GD pl n G) (hcs : cs < 512) (hM : S[31]? = some (mo flt (nI pl) (nI n) du lw fr (nI cs) ra rp rs ea dp bm bi rd tr)) (hG : MN S n G) {kk : Nat} (hk : kk < 4) {w i n9 v : Int32} (hw : 0 ≤ w.toInt ∧ w.toInt ≤ 2) (hv : ¬ (0 ≤ v.toInt ∧ v.toInt ≤ 1)) (k : Q (some (.long (-9223372036854775808))) (S.set 31 (mo 0 (nI pl) (nI n) du lw fr (nI cs) ra rp rs ea dp bm bi rd tr))) : Mth mX12_safe (d + 5) 0 [.ref 31, .int (nI kk), .int w, .int i, .int n9, .int v] S Q := by
  refine Mth_of (by decide) rfl ?_
  refine Ev_iload_n dX12_safe_0 rfl ?_
  refine Ev_callS (bc := 0) (b := 0) dX12_safe_1 cs_X12_133 rfl (Nat.le_of_ble_eq_true rfl) (by omega) ?_
  refine c_X12_noSheet (fun q => absurd q (not_not_intro (by rw [nIt (by omega)]; omega))) (fun _ => ?_)
  refine Ev_if_ne dX12_safe_4 (fun c => absurd (by decide) c) (fun _ => ?_)
  refine Ev_iload_n dX12_safe_7 rfl ?_
  refine Ev_i2l dX12_safe_8 ?_
  refine Ev_lconst (v := 0) dX12_safe_9 (by decide) ?_
  refine Ev_ldc2 dX12_safe_10 wl_X12_140 ?_
  refine Ev_callS (bc := 0) (b := 0) dX12_safe_13 cs_X12_97 rfl (Nat.le_of_ble_eq_true rfl) (by omega) ?_
  refine c_X12_in (x := _) (y := 0) (z := 2) (x64 _) rfl rfl (fun _ => ?_) (fun q => absurd hw q)
  refine Ev_if_eq dX12_safe_16 (fun c => absurd c (by decide)) (fun _ => ?_)
  refine Ev_iload dX12_safe_19 rfl ?_
  refine Ev_i2l dX12_safe_21 ?_
  refine Ev_lconst (v := 0) dX12_safe_22 (by decide) ?_
  refine Ev_lconst (v := 1) dX12_safe_23 (by decide) ?_
  refine Ev_callS (bc := 0) (b := 0) dX12_safe_24 cs_X12_97 rfl (Nat.le_of_ble_eq_true rfl) (by omega) ?_
  refine c_X12_in (x := _) (y := 0) (z := 1) (x64 _) rfl rfl (fun q => absurd q hv) (fun _ => ?_)
  refine Ev_if_eq dX12_safe_27 (fun _ => ?_) (fun c => absurd (by decide) c)
  refine Ev_aload_n dX12_safe_37 rfl ?_
  refine Ev_callV (bc := 0) (b := 0) dX12_safe_38 cv_X12_211 rfl hM (Nat.le_of_ble_eq_true rfl) (by omega) ?_
  refine c_X12_refusedLong hM ?_
  refine Ev_lret dX12_safe_41 rfl ?_
  exact k

set_option maxHeartbeats 4000000 in
set_option maxRecDepth 100000 in
theorem c_X12_safe_none {d : Nat} {S : aS} {Q : Option Value → aS → Prop} {flt du lw fr ra rp rs ea dp bm rd tr : Int32} {bi : Int64} {pl n cs : Nat} {G : Nat → Nat → Nat} (hg : GD pl n G) (hcs : cs < 512) (hM : S[31]? = some (mo flt (nI pl) (nI n) du lw fr (nI cs) ra rp rs ea dp bm bi rd tr)) (hG : MN S n G) {kk : Nat} (hk : kk < 4) {w i n9 v : Int32} (hw : 0 ≤ w.toInt ∧ w.toInt ≤ 2) (hv : 0 ≤ v.toInt ∧ v.toInt ≤ 1) (hn0 : n = 0) (k : Q (some (.long (-9223372036854775808))) (S.set 31 (mo 0 (nI pl) (nI n) du lw fr (nI cs) ra rp rs ea dp bm bi rd tr))) : Mth mX12_safe (d + 5) 0 [.ref 31, .int (nI kk), .int w, .int i, .int n9, .int v] S Q := by
  refine Mth_of (by decide) rfl ?_
  refine Ev_iload_n dX12_safe_0 rfl ?_
  refine Ev_callS (bc := 0) (b := 0) dX12_safe_1 cs_X12_133 rfl (Nat.le_of_ble_eq_true rfl) (by omega) ?_
  refine c_X12_noSheet (fun q => absurd q (not_not_intro (by rw [nIt (by omega)]; omega))) (fun _ => ?_)
  refine Ev_if_ne dX12_safe_4 (fun c => absurd (by decide) c) (fun _ => ?_)
  refine Ev_iload_n dX12_safe_7 rfl ?_
  refine Ev_i2l dX12_safe_8 ?_
  refine Ev_lconst (v := 0) dX12_safe_9 (by decide) ?_
  refine Ev_ldc2 dX12_safe_10 wl_X12_140 ?_
  refine Ev_callS (bc := 0) (b := 0) dX12_safe_13 cs_X12_97 rfl (Nat.le_of_ble_eq_true rfl) (by omega) ?_
  refine c_X12_in (x := _) (y := 0) (z := 2) (x64 _) rfl rfl (fun _ => ?_) (fun q => absurd hw q)
  refine Ev_if_eq dX12_safe_16 (fun c => absurd c (by decide)) (fun _ => ?_)
  refine Ev_iload dX12_safe_19 rfl ?_
  refine Ev_i2l dX12_safe_21 ?_
  refine Ev_lconst (v := 0) dX12_safe_22 (by decide) ?_
  refine Ev_lconst (v := 1) dX12_safe_23 (by decide) ?_
  refine Ev_callS (bc := 0) (b := 0) dX12_safe_24 cs_X12_97 rfl (Nat.le_of_ble_eq_true rfl) (by omega) ?_
  refine c_X12_in (x := _) (y := 0) (z := 1) (x64 _) rfl rfl (fun _ => ?_) (fun q => absurd hv q)
  refine Ev_if_eq dX12_safe_27 (fun c => absurd c (by decide)) (fun _ => ?_)
  refine Ev_aload_n dX12_safe_30 rfl ?_
  refine Ev_get dX12_safe_31 fg_X12_101_12 hM rfl ?_
  refine Ev_if_ne dX12_safe_34 (fun c => absurd (by rw [hn0]; rfl) c) (fun _ => ?_)
  refine Ev_aload_n dX12_safe_37 rfl ?_
  refine Ev_callV (bc := 0) (b := 0) dX12_safe_38 cv_X12_211 rfl hM (Nat.le_of_ble_eq_true rfl) (by omega) ?_
  refine c_X12_refusedLong hM ?_
  refine Ev_lret dX12_safe_41 rfl ?_
  exact k

set_option maxHeartbeats 4000000 in
set_option maxRecDepth 100000 in
theorem c_X12_safe_cast {d : Nat} {S : aS} {Q : Option Value → aS → Prop} {flt du lw fr ra rp rs ea dp bm rd tr : Int32} {bi : Int64} {pl n cs : Nat} {G : Nat → Nat → Nat} (hg : GD pl n G) (hcs : cs < 512) (hM : S[31]? = some (mo flt (nI pl) (nI n) du lw fr (nI cs) ra rp rs ea dp bm bi rd tr)) (hG : MN S n G) {fs fl fc : Nat → Int32} (hs : S[52]? = some (iA 4 fs)) (hl : S[53]? = some (iA 4 fl)) (hc : S[54]? = some (iA 240 fc)) {kk : Nat} (hk : kk < 4) {z : Int} (hz : fs kk = iZ z) (hzr : -1 ≤ z ∧ z ≤ 60) {w i n9 v : Int32} (hw : 0 ≤ w.toInt ∧ w.toInt ≤ 2) (hv : 0 ≤ v.toInt ∧ v.toInt ≤ 1) (hn0 : n ≠ 0) (hn : 0 ≤ z) (hne : ¬ fl kk = w) (k : Q (some (.long (-9223372036854775808))) (S.set 31 (mo 2 (nI pl) (nI n) du lw fr (nI cs) ra rp rs ea dp bm bi rd tr))) : Mth mX12_safe (d + 5) 0 [.ref 31, .int (nI kk), .int w, .int i, .int n9, .int v] S Q := by
  have hn9 := hg.2.1
  have hp7 := hg.1
  refine Mth_of (by decide) rfl ?_
  refine Ev_iload_n dX12_safe_0 rfl ?_
  refine Ev_callS (bc := 0) (b := 0) dX12_safe_1 cs_X12_133 rfl (Nat.le_of_ble_eq_true rfl) (by omega) ?_
  refine c_X12_noSheet (fun q => absurd q (not_not_intro (by rw [nIt (by omega)]; omega))) (fun _ => ?_)
  refine Ev_if_ne dX12_safe_4 (fun c => absurd (by decide) c) (fun _ => ?_)
  refine Ev_iload_n dX12_safe_7 rfl ?_
  refine Ev_i2l dX12_safe_8 ?_
  refine Ev_lconst (v := 0) dX12_safe_9 (by decide) ?_
  refine Ev_ldc2 dX12_safe_10 wl_X12_140 ?_
  refine Ev_callS (bc := 0) (b := 0) dX12_safe_13 cs_X12_97 rfl (Nat.le_of_ble_eq_true rfl) (by omega) ?_
  refine c_X12_in (x := _) (y := 0) (z := 2) (x64 _) rfl rfl (fun _ => ?_) (fun q => absurd hw q)
  refine Ev_if_eq dX12_safe_16 (fun c => absurd c (by decide)) (fun _ => ?_)
  refine Ev_iload dX12_safe_19 rfl ?_
  refine Ev_i2l dX12_safe_21 ?_
  refine Ev_lconst (v := 0) dX12_safe_22 (by decide) ?_
  refine Ev_lconst (v := 1) dX12_safe_23 (by decide) ?_
  refine Ev_callS (bc := 0) (b := 0) dX12_safe_24 cs_X12_97 rfl (Nat.le_of_ble_eq_true rfl) (by omega) ?_
  refine c_X12_in (x := _) (y := 0) (z := 1) (x64 _) rfl rfl (fun _ => ?_) (fun q => absurd hv q)
  refine Ev_if_eq dX12_safe_27 (fun c => absurd c (by decide)) (fun _ => ?_)
  refine Ev_aload_n dX12_safe_30 rfl ?_
  refine Ev_get dX12_safe_31 fg_X12_101_12 hM rfl ?_
  refine Ev_if_ne dX12_safe_34 (fun _ => ?_) (fun c => absurd c (fun z => hn0 ((nIinj (b := 0) (by omega) (by decide)).mp z)))
  refine Ev_aload_n dX12_safe_42 rfl ?_
  refine Ev_iload_n dX12_safe_43 rfl ?_
  refine Ev_iload_n dX12_safe_44 rfl ?_
  refine Ev_iload_n dX12_safe_45 rfl ?_
  refine Ev_iload dX12_safe_46 rfl ?_
  refine Ev_i2l dX12_safe_48 ?_
  refine Ev_callV (bc := 0) (b := 0) dX12_safe_49 cv_X12_142 rfl hM (Nat.le_of_ble_eq_true rfl) (by omega) ?_
  refine c_X12_barred_cast (y := n9.toInt) hM hs hl hc hk hz hzr (x64 _) (by have := xr32 n9; omega) hn hne ?_
  refine Ev_istore dX12_safe_52 rfl ?_
  refine Ev_iload dX12_safe_54 rfl ?_
  refine Ev_if_ge dX12_safe_56 (fun c => absurd c (by decide)) (fun _ => ?_)
  refine Ev_callS (bc := 0) (b := 0) dX12_safe_59 cs_X12_90 rfl (Nat.le_of_ble_eq_true rfl) (by omega) ?_
  refine c_X12_lost ?_
  refine Ev_lret dX12_safe_62 rfl ?_
  exact k

set_option maxHeartbeats 4000000 in
set_option maxRecDepth 100000 in
theorem c_X12_safe_n {d : Nat} {S : aS} {Q : Option Value → aS → Prop} {flt du lw fr ra rp rs ea dp bm rd tr : Int32} {bi : Int64} {pl n cs : Nat} {G : Nat → Nat → Nat} (hg : GD pl n G) (hcs : cs < 512) (hM : S[31]? = some (mo flt (nI pl) (nI n) du lw fr (nI cs) ra rp rs ea dp bm bi rd tr)) (hG : MN S n G) {fs fl fc : Nat → Int32} (hs : S[52]? = some (iA 4 fs)) (hl : S[53]? = some (iA 4 fl)) (hc : S[54]? = some (iA 240 fc)) {kk : Nat} (hk : kk < 4) {z : Int} (hz : fs kk = iZ z) (hzr : -1 ≤ z ∧ z ≤ 60) {w i n9 v : Int32} (hw : 0 ≤ w.toInt ∧ w.toInt ≤ 2) (hv : 0 ≤ v.toInt ∧ v.toInt ≤ 1) (hn0 : n ≠ 0) (hn : z < 0) (k : Q (some (.long (-9223372036854775808))) (S.set 31 (mo 1 (nI pl) (nI n) du lw fr (nI cs) ra rp rs ea dp bm bi rd tr))) : Mth mX12_safe (d + 5) 0 [.ref 31, .int (nI kk), .int w, .int i, .int n9, .int v] S Q := by
  have hn9 := hg.2.1
  have hp7 := hg.1
  refine Mth_of (by decide) rfl ?_
  refine Ev_iload_n dX12_safe_0 rfl ?_
  refine Ev_callS (bc := 0) (b := 0) dX12_safe_1 cs_X12_133 rfl (Nat.le_of_ble_eq_true rfl) (by omega) ?_
  refine c_X12_noSheet (fun q => absurd q (not_not_intro (by rw [nIt (by omega)]; omega))) (fun _ => ?_)
  refine Ev_if_ne dX12_safe_4 (fun c => absurd (by decide) c) (fun _ => ?_)
  refine Ev_iload_n dX12_safe_7 rfl ?_
  refine Ev_i2l dX12_safe_8 ?_
  refine Ev_lconst (v := 0) dX12_safe_9 (by decide) ?_
  refine Ev_ldc2 dX12_safe_10 wl_X12_140 ?_
  refine Ev_callS (bc := 0) (b := 0) dX12_safe_13 cs_X12_97 rfl (Nat.le_of_ble_eq_true rfl) (by omega) ?_
  refine c_X12_in (x := _) (y := 0) (z := 2) (x64 _) rfl rfl (fun _ => ?_) (fun q => absurd hw q)
  refine Ev_if_eq dX12_safe_16 (fun c => absurd c (by decide)) (fun _ => ?_)
  refine Ev_iload dX12_safe_19 rfl ?_
  refine Ev_i2l dX12_safe_21 ?_
  refine Ev_lconst (v := 0) dX12_safe_22 (by decide) ?_
  refine Ev_lconst (v := 1) dX12_safe_23 (by decide) ?_
  refine Ev_callS (bc := 0) (b := 0) dX12_safe_24 cs_X12_97 rfl (Nat.le_of_ble_eq_true rfl) (by omega) ?_
  refine c_X12_in (x := _) (y := 0) (z := 1) (x64 _) rfl rfl (fun _ => ?_) (fun q => absurd hv q)
  refine Ev_if_eq dX12_safe_27 (fun c => absurd c (by decide)) (fun _ => ?_)
  refine Ev_aload_n dX12_safe_30 rfl ?_
  refine Ev_get dX12_safe_31 fg_X12_101_12 hM rfl ?_
  refine Ev_if_ne dX12_safe_34 (fun _ => ?_) (fun c => absurd c (fun z => hn0 ((nIinj (b := 0) (by omega) (by decide)).mp z)))
  refine Ev_aload_n dX12_safe_42 rfl ?_
  refine Ev_iload_n dX12_safe_43 rfl ?_
  refine Ev_iload_n dX12_safe_44 rfl ?_
  refine Ev_iload_n dX12_safe_45 rfl ?_
  refine Ev_iload dX12_safe_46 rfl ?_
  refine Ev_i2l dX12_safe_48 ?_
  refine Ev_callV (bc := 0) (b := 0) dX12_safe_49 cv_X12_142 rfl hM (Nat.le_of_ble_eq_true rfl) (by omega) ?_
  refine c_X12_barred_n (y := n9.toInt) hM hs hl hc hk hz hzr (x64 _) (by have := xr32 n9; omega) hn ?_
  refine Ev_istore dX12_safe_52 rfl ?_
  refine Ev_iload dX12_safe_54 rfl ?_
  refine Ev_if_ge dX12_safe_56 (fun c => absurd c (by decide)) (fun _ => ?_)
  refine Ev_callS (bc := 0) (b := 0) dX12_safe_59 cs_X12_90 rfl (Nat.le_of_ble_eq_true rfl) (by omega) ?_
  refine c_X12_lost ?_
  refine Ev_lret dX12_safe_62 rfl ?_
  exact k

set_option maxHeartbeats 4000000 in
set_option maxRecDepth 100000 in
theorem c_X12_safe_size {d : Nat} {S : aS} {Q : Option Value → aS → Prop} {flt du lw fr ra rp rs ea dp bm rd tr : Int32} {bi : Int64} {pl n cs : Nat} {G : Nat → Nat → Nat} (hg : GD pl n G) (hcs : cs < 512) (hM : S[31]? = some (mo flt (nI pl) (nI n) du lw fr (nI cs) ra rp rs ea dp bm bi rd tr)) (hG : MN S n G) {fs fl fc : Nat → Int32} (hs : S[52]? = some (iA 4 fs)) (hl : S[53]? = some (iA 4 fl)) (hc : S[54]? = some (iA 240 fc)) {kk : Nat} (hk : kk < 4) {z : Int} (hz : fs kk = iZ z) (hzr : -1 ≤ z ∧ z ≤ 60) {w i n9 v : Int32} (hw : 0 ≤ w.toInt ∧ w.toInt ≤ 2) (hv : 0 ≤ v.toInt ∧ v.toInt ≤ 1) (hn0 : n ≠ 0) (hn : 0 ≤ z) (heq : fl kk = w) (hs4 : n9.toInt < 0) (k : Q (some (.long (-9223372036854775808))) (S.set 31 (mo 4 (nI pl) (nI n) du lw fr (nI cs) ra rp rs ea dp bm bi rd tr))) : Mth mX12_safe (d + 5) 0 [.ref 31, .int (nI kk), .int w, .int i, .int n9, .int v] S Q := by
  have hn9 := hg.2.1
  have hp7 := hg.1
  refine Mth_of (by decide) rfl ?_
  refine Ev_iload_n dX12_safe_0 rfl ?_
  refine Ev_callS (bc := 0) (b := 0) dX12_safe_1 cs_X12_133 rfl (Nat.le_of_ble_eq_true rfl) (by omega) ?_
  refine c_X12_noSheet (fun q => absurd q (not_not_intro (by rw [nIt (by omega)]; omega))) (fun _ => ?_)
  refine Ev_if_ne dX12_safe_4 (fun c => absurd (by decide) c) (fun _ => ?_)
  refine Ev_iload_n dX12_safe_7 rfl ?_
  refine Ev_i2l dX12_safe_8 ?_
  refine Ev_lconst (v := 0) dX12_safe_9 (by decide) ?_
  refine Ev_ldc2 dX12_safe_10 wl_X12_140 ?_
  refine Ev_callS (bc := 0) (b := 0) dX12_safe_13 cs_X12_97 rfl (Nat.le_of_ble_eq_true rfl) (by omega) ?_
  refine c_X12_in (x := _) (y := 0) (z := 2) (x64 _) rfl rfl (fun _ => ?_) (fun q => absurd hw q)
  refine Ev_if_eq dX12_safe_16 (fun c => absurd c (by decide)) (fun _ => ?_)
  refine Ev_iload dX12_safe_19 rfl ?_
  refine Ev_i2l dX12_safe_21 ?_
  refine Ev_lconst (v := 0) dX12_safe_22 (by decide) ?_
  refine Ev_lconst (v := 1) dX12_safe_23 (by decide) ?_
  refine Ev_callS (bc := 0) (b := 0) dX12_safe_24 cs_X12_97 rfl (Nat.le_of_ble_eq_true rfl) (by omega) ?_
  refine c_X12_in (x := _) (y := 0) (z := 1) (x64 _) rfl rfl (fun _ => ?_) (fun q => absurd hv q)
  refine Ev_if_eq dX12_safe_27 (fun c => absurd c (by decide)) (fun _ => ?_)
  refine Ev_aload_n dX12_safe_30 rfl ?_
  refine Ev_get dX12_safe_31 fg_X12_101_12 hM rfl ?_
  refine Ev_if_ne dX12_safe_34 (fun _ => ?_) (fun c => absurd c (fun z => hn0 ((nIinj (b := 0) (by omega) (by decide)).mp z)))
  refine Ev_aload_n dX12_safe_42 rfl ?_
  refine Ev_iload_n dX12_safe_43 rfl ?_
  refine Ev_iload_n dX12_safe_44 rfl ?_
  refine Ev_iload_n dX12_safe_45 rfl ?_
  refine Ev_iload dX12_safe_46 rfl ?_
  refine Ev_i2l dX12_safe_48 ?_
  refine Ev_callV (bc := 0) (b := 0) dX12_safe_49 cv_X12_142 rfl hM (Nat.le_of_ble_eq_true rfl) (by omega) ?_
  refine c_X12_barred_size (y := n9.toInt) hM hs hl hc hk hz hzr (x64 _) (by have := xr32 n9; omega) hn heq hs4 ?_
  refine Ev_istore dX12_safe_52 rfl ?_
  refine Ev_iload dX12_safe_54 rfl ?_
  refine Ev_if_ge dX12_safe_56 (fun c => absurd c (by decide)) (fun _ => ?_)
  refine Ev_callS (bc := 0) (b := 0) dX12_safe_59 cs_X12_90 rfl (Nat.le_of_ble_eq_true rfl) (by omega) ?_
  refine c_X12_lost ?_
  refine Ev_lret dX12_safe_62 rfl ?_
  exact k

set_option maxHeartbeats 4000000 in
set_option maxRecDepth 100000 in
theorem c_X12_safe_ix {d : Nat} {S : aS} {Q : Option Value → aS → Prop} {flt du lw fr ra rp rs ea dp bm rd tr : Int32} {bi : Int64} {pl n cs : Nat} {G : Nat → Nat → Nat} (hg : GD pl n G) (hcs : cs < 512) (hM : S[31]? = some (mo flt (nI pl) (nI n) du lw fr (nI cs) ra rp rs ea dp bm bi rd tr)) (hG : MN S n G) {fs fl fc : Nat → Int32} (hs : S[52]? = some (iA 4 fs)) (hl : S[53]? = some (iA 4 fl)) (hc : S[54]? = some (iA 240 fc)) {kk : Nat} (hk : kk < 4) {z : Int} (hz : fs kk = iZ z) (hzr : -1 ≤ z ∧ z ≤ 60) {w i n9 v : Int32} (hw : 0 ≤ w.toInt ∧ w.toInt ≤ 2) (hv : 0 ≤ v.toInt ∧ v.toInt ≤ 1) (hn0 : n ≠ 0) (hn : 0 ≤ z) (heq : fl kk = w) (hs4 : 0 ≤ n9.toInt) (hi : ¬ (0 ≤ i.toInt ∧ i.toInt + n9.toInt ≤ z)) (k : Q (some (.long (-9223372036854775808))) (S.set 31 (mo 3 (nI pl) (nI n) du lw fr (nI cs) ra rp rs ea dp bm bi rd tr))) : Mth mX12_safe (d + 5) 0 [.ref 31, .int (nI kk), .int w, .int i, .int n9, .int v] S Q := by
  have hn9 := hg.2.1
  have hp7 := hg.1
  refine Mth_of (by decide) rfl ?_
  refine Ev_iload_n dX12_safe_0 rfl ?_
  refine Ev_callS (bc := 0) (b := 0) dX12_safe_1 cs_X12_133 rfl (Nat.le_of_ble_eq_true rfl) (by omega) ?_
  refine c_X12_noSheet (fun q => absurd q (not_not_intro (by rw [nIt (by omega)]; omega))) (fun _ => ?_)
  refine Ev_if_ne dX12_safe_4 (fun c => absurd (by decide) c) (fun _ => ?_)
  refine Ev_iload_n dX12_safe_7 rfl ?_
  refine Ev_i2l dX12_safe_8 ?_
  refine Ev_lconst (v := 0) dX12_safe_9 (by decide) ?_
  refine Ev_ldc2 dX12_safe_10 wl_X12_140 ?_
  refine Ev_callS (bc := 0) (b := 0) dX12_safe_13 cs_X12_97 rfl (Nat.le_of_ble_eq_true rfl) (by omega) ?_
  refine c_X12_in (x := _) (y := 0) (z := 2) (x64 _) rfl rfl (fun _ => ?_) (fun q => absurd hw q)
  refine Ev_if_eq dX12_safe_16 (fun c => absurd c (by decide)) (fun _ => ?_)
  refine Ev_iload dX12_safe_19 rfl ?_
  refine Ev_i2l dX12_safe_21 ?_
  refine Ev_lconst (v := 0) dX12_safe_22 (by decide) ?_
  refine Ev_lconst (v := 1) dX12_safe_23 (by decide) ?_
  refine Ev_callS (bc := 0) (b := 0) dX12_safe_24 cs_X12_97 rfl (Nat.le_of_ble_eq_true rfl) (by omega) ?_
  refine c_X12_in (x := _) (y := 0) (z := 1) (x64 _) rfl rfl (fun _ => ?_) (fun q => absurd hv q)
  refine Ev_if_eq dX12_safe_27 (fun c => absurd c (by decide)) (fun _ => ?_)
  refine Ev_aload_n dX12_safe_30 rfl ?_
  refine Ev_get dX12_safe_31 fg_X12_101_12 hM rfl ?_
  refine Ev_if_ne dX12_safe_34 (fun _ => ?_) (fun c => absurd c (fun z => hn0 ((nIinj (b := 0) (by omega) (by decide)).mp z)))
  refine Ev_aload_n dX12_safe_42 rfl ?_
  refine Ev_iload_n dX12_safe_43 rfl ?_
  refine Ev_iload_n dX12_safe_44 rfl ?_
  refine Ev_iload_n dX12_safe_45 rfl ?_
  refine Ev_iload dX12_safe_46 rfl ?_
  refine Ev_i2l dX12_safe_48 ?_
  refine Ev_callV (bc := 0) (b := 0) dX12_safe_49 cv_X12_142 rfl hM (Nat.le_of_ble_eq_true rfl) (by omega) ?_
  refine c_X12_barred_ix (y := n9.toInt) hM hs hl hc hk hz hzr (x64 _) (by have := xr32 n9; omega) hn heq hs4 hi ?_
  refine Ev_istore dX12_safe_52 rfl ?_
  refine Ev_iload dX12_safe_54 rfl ?_
  refine Ev_if_ge dX12_safe_56 (fun c => absurd c (by decide)) (fun _ => ?_)
  refine Ev_callS (bc := 0) (b := 0) dX12_safe_59 cs_X12_90 rfl (Nat.le_of_ble_eq_true rfl) (by omega) ?_
  refine c_X12_lost ?_
  refine Ev_lret dX12_safe_62 rfl ?_
  exact k

set_option maxHeartbeats 4000000 in
set_option maxRecDepth 100000 in
theorem c_X12_safe_big {d : Nat} {S : aS} {Q : Option Value → aS → Prop} {flt du lw fr ra rp rs ea dp bm rd tr : Int32} {bi : Int64} {pl n cs : Nat} {G : Nat → Nat → Nat} (hg : GD pl n G) (hcs : cs < 512) (hM : S[31]? = some (mo flt (nI pl) (nI n) du lw fr (nI cs) ra rp rs ea dp bm bi rd tr)) (hG : MN S n G) {fs fl fc : Nat → Int32} (hs : S[52]? = some (iA 4 fs)) (hl : S[53]? = some (iA 4 fl)) (hc : S[54]? = some (iA 240 fc)) {kk : Nat} (hk : kk < 4) {z : Int} (hz : fs kk = iZ z) (hzr : -1 ≤ z ∧ z ≤ 60) {ii m : Nat} {w : Int32} {v : Int32} (hw : 0 ≤ w.toInt ∧ w.toInt ≤ 2) (hv : 0 ≤ v.toInt ∧ v.toInt ≤ 1) (hn0 : n ≠ 0) (hn : 0 ≤ z) (heq : fl kk = w) (hiz : (ii : Int) + m ≤ z) (hm : 12 < m) (k : Q (some (.long (-9223372036854775808))) (S.set 31 (mo 0 (nI pl) (nI n) du lw fr (nI cs) ra rp rs ea dp bm bi rd tr))) : Mth mX12_safe (d + 5) 0 [.ref 31, .int (nI kk), .int w, .int (nI ii), .int (nI m), .int v] S Q := by
  have hn9 := hg.2.1
  have hp7 := hg.1
  refine Mth_of (by decide) rfl ?_
  refine Ev_iload_n dX12_safe_0 rfl ?_
  refine Ev_callS (bc := 0) (b := 0) dX12_safe_1 cs_X12_133 rfl (Nat.le_of_ble_eq_true rfl) (by omega) ?_
  refine c_X12_noSheet (fun q => absurd q (not_not_intro (by rw [nIt (by omega)]; omega))) (fun _ => ?_)
  refine Ev_if_ne dX12_safe_4 (fun c => absurd (by decide) c) (fun _ => ?_)
  refine Ev_iload_n dX12_safe_7 rfl ?_
  refine Ev_i2l dX12_safe_8 ?_
  refine Ev_lconst (v := 0) dX12_safe_9 (by decide) ?_
  refine Ev_ldc2 dX12_safe_10 wl_X12_140 ?_
  refine Ev_callS (bc := 0) (b := 0) dX12_safe_13 cs_X12_97 rfl (Nat.le_of_ble_eq_true rfl) (by omega) ?_
  refine c_X12_in (x := _) (y := 0) (z := 2) (x64 _) rfl rfl (fun _ => ?_) (fun q => absurd hw q)
  refine Ev_if_eq dX12_safe_16 (fun c => absurd c (by decide)) (fun _ => ?_)
  refine Ev_iload dX12_safe_19 rfl ?_
  refine Ev_i2l dX12_safe_21 ?_
  refine Ev_lconst (v := 0) dX12_safe_22 (by decide) ?_
  refine Ev_lconst (v := 1) dX12_safe_23 (by decide) ?_
  refine Ev_callS (bc := 0) (b := 0) dX12_safe_24 cs_X12_97 rfl (Nat.le_of_ble_eq_true rfl) (by omega) ?_
  refine c_X12_in (x := _) (y := 0) (z := 1) (x64 _) rfl rfl (fun _ => ?_) (fun q => absurd hv q)
  refine Ev_if_eq dX12_safe_27 (fun c => absurd c (by decide)) (fun _ => ?_)
  refine Ev_aload_n dX12_safe_30 rfl ?_
  refine Ev_get dX12_safe_31 fg_X12_101_12 hM rfl ?_
  refine Ev_if_ne dX12_safe_34 (fun _ => ?_) (fun c => absurd c (fun z => hn0 ((nIinj (b := 0) (by omega) (by decide)).mp z)))
  refine Ev_aload_n dX12_safe_42 rfl ?_
  refine Ev_iload_n dX12_safe_43 rfl ?_
  refine Ev_iload_n dX12_safe_44 rfl ?_
  refine Ev_iload_n dX12_safe_45 rfl ?_
  refine Ev_iload dX12_safe_46 rfl ?_
  refine Ev_i2l dX12_safe_48 ?_
  refine Ev_topl (y := lN m) (nl (by omega)) ?_
  refine Ev_callV (bc := 0) (b := 0) dX12_safe_49 cv_X12_142 rfl hM (Nat.le_of_ble_eq_true rfl) (by omega) ?_
  refine c_X12_barred_o (y := (m : Int)) hM hs hl hc hk hz hzr (lN_toInt (by omega)) (by omega) hn heq (by omega) (by rw [nIt (by omega)]; omega) ?_
  refine Ev_istore dX12_safe_52 rfl ?_
  refine Ev_iload dX12_safe_54 rfl ?_
  refine Ev_if_ge dX12_safe_56 (fun _ => ?_) (fun c => absurd (by decide) c)
  refine Ev_aload_n dX12_safe_63 rfl ?_
  refine Ev_bipush (v := 60) dX12_safe_64 (by decide) ?_
  refine Ev_iload_n dX12_safe_66 rfl ?_
  refine Ev_imul dX12_safe_67 ?_
  refine Ev_topi (y := nI (60 * kk)) (nmul _ _) ?_
  refine Ev_iload_n dX12_safe_68 rfl ?_
  refine Ev_iadd dX12_safe_69 ?_
  refine Ev_topi (y := nI ((60 * kk) + ii)) (nI_add _ _) ?_
  refine Ev_iload dX12_safe_70 rfl ?_
  refine Ev_callV (bc := 0) (b := 0) dX12_safe_72 cv_X12_204 rfl hM (Nat.le_of_ble_eq_true rfl) (by omega) ?_
  refine c_X12_readsWalk_big hg hcs hM hG hm (by omega) ?_
  refine Ev_if_ge dX12_safe_75 (fun c => absurd c (by decide)) (fun _ => ?_)
  refine Ev_aload_n dX12_safe_78 rfl ?_
  refine Ev_callV (bc := 0) (b := 0) dX12_safe_79 cv_X12_211 rfl hM (Nat.le_of_ble_eq_true rfl) (by omega) ?_
  refine c_X12_refusedLong hM ?_
  refine Ev_lret dX12_safe_82 rfl ?_
  exact k

set_option maxHeartbeats 4000000 in
set_option maxRecDepth 100000 in
theorem l_X12_safe {d : Nat} {S : aS} {Q : Option Value → aS → Prop} {flt du lw fr ra rp rs ea dp bm rd tr : Int32} {bi : Int64} {pl n cs : Nat} {G : Nat → Nat → Nat} (hg : GD pl n G) (hcs : cs < 512) (hM : S[31]? = some (mo flt (nI pl) (nI n) du lw fr (nI cs) ra rp rs ea dp bm bi rd tr)) (hG : MN S n G) {m : Nat} {rw_ : Nat → Int32} {r : Nat → Nat} (hm : m ≤ 12) (hr : S[44]? = some (iA 12 rw_)) (hrw : ∀ x, x < m → rw_ x = nI (r x) ∧ r x < n) {x1 x2 x3 x6 v : Int32} (k : Q (some (.long (lN ((if v = 0 then prodN (fun x => tn G fr.toInt (r x)) m else 10 ^ m) / Nat.gcd (prodN (fun x => tn G fr.toInt (r x)) m) (10 ^ m))))) S) : ∀ (t i : Nat) , i + t = m → Ev none mX12_safe (d + 5) 0 94 [some (.ref 31), some (.int x1), some (.int x2), some (.int x3), some (.int (nI m)), some (.int v), some (.int x6), some (.long (lN (10 ^ i))), none, some (.int (nI i))] [] S Q := by
  intro t
  induction t with
  | zero =>
    intro i  hi
    obtain rfl : i = m := by omega
    have hpr : prodN (fun x => tn G fr.toInt (r x)) i ≤ 10 ^ i := prodN_le i (fun j _ => tn_le _ _)
    have hten : 10 ^ i < 2 ^ 63 := Nat.lt_of_le_of_lt (Nat.pow_le_pow_right (by decide) hm) (by decide)
    refine Ev_iload dX12_safe_94 rfl ?_
    refine Ev_iload dX12_safe_96 rfl ?_
    refine Ev_icmp_ge dX12_safe_98 (fun _ => ?_) (fun c => absurd ((nle (by omega) (by omega)).mpr (Nat.le_refl _)) c)
    refine Ev_aload_n dX12_safe_115 rfl ?_
    refine Ev_iload dX12_safe_116 rfl ?_
    refine Ev_callV (bc := 0) (b := 0) dX12_safe_118 cv_X12_216 rfl hM (Nat.le_of_ble_eq_true rfl) (by omega) ?_
    refine c_X12_safeBy hg hcs hM hG hm hr hrw ?_
    refine Ev_lload dX12_safe_121 rfl ?_
    refine Ev_iload dX12_safe_123 rfl ?_
    refine Ev_callS (bc := 0) (b := 0) dX12_safe_125 cs_X12_220 rfl (Nat.le_of_ble_eq_true rfl) (by omega) ?_
    refine c_X12_told (Nat.lt_of_le_of_lt hpr hten) (Nat.pow_pos (by decide)) hten ?_
    refine Ev_lret dX12_safe_128 rfl ?_
    exact k
  | succ t ih =>
    intro i  hi
    refine Ev_iload dX12_safe_94 rfl ?_
    refine Ev_iload dX12_safe_96 rfl ?_
    refine Ev_icmp_ge dX12_safe_98 (fun c => absurd c (fun z => absurd ((nle (by omega) (by omega)).mp z) (by omega))) (fun _ => ?_)
    refine Ev_lload dX12_safe_101 rfl ?_
    refine Ev_ldc2 dX12_safe_103 wl_X12_214 ?_
    refine Ev_lmul dX12_safe_106 ?_
    refine Ev_topl (y := lN ((10 ^ i) * 10)) (lmulN _ _) ?_
    refine Ev_lstore dX12_safe_107 rfl ?_
    refine Ev_iinc (v := nI (i + 1)) dX12_safe_109 rfl (nI_1 _) rfl ?_
    refine Ev_goto dX12_safe_112 ?_
    exact (Nat.pow_succ (n := 10) (m := i)) ▸ ih (i + 1) (by omega)

set_option maxHeartbeats 4000000 in
set_option maxRecDepth 100000 in
theorem c_X12_safe_o {d : Nat} {S : aS} {Q : Option Value → aS → Prop} {flt du lw fr ra rp rs ea dp bm rd tr : Int32} {bi : Int64} {pl n cs : Nat} {G : Nat → Nat → Nat} (hg : GD pl n G) (hcs : cs < 512) (hM : S[31]? = some (mo flt (nI pl) (nI n) du lw fr (nI cs) ra rp rs ea dp bm bi rd tr)) (hG : MN S n G) {fs fl fc : Nat → Int32} (hs : S[52]? = some (iA 4 fs)) (hl : S[53]? = some (iA 4 fl)) (hc : S[54]? = some (iA 240 fc)) {kk : Nat} (hk : kk < 4) {z : Int} (hz : fs kk = iZ z) (hzr : -1 ≤ z ∧ z ≤ 60) {ii m : Nat} {w : Int32} {v : Int32} (hv : 0 ≤ v.toInt ∧ v.toInt ≤ 1) (hw : 0 ≤ w.toInt ∧ w.toInt ≤ 2) (hn0 : n ≠ 0) (hn : 0 ≤ z) (heq : fl kk = w) (hiz : (ii : Int) + m ≤ z) {rw0 : Nat → Int32} (hr : S[44]? = some (iA 12 rw0)) (hp0 : 0 < pl) (hdu : 0 ≤ du.toInt ∧ du.toInt ≤ 99) (hm : m ≤ 12) (ku : ∀ g x, x < m → ¬ inR n (fc (60 * kk + ii + x)) → Q (some (.long (-9223372036854775808))) ((S.set 44 (iA 12 g)).set 31 (mo 0 (nI pl) (nI n) du lw fr (nI cs) ra rp rs ea dp bm bi rd tr))) (kf : ∀ g x p, x < m → (∀ y, y < m → inR n (fc (60 * kk + ii + y))) → paN G cs (rc (fun y => fc (60 * kk + ii + y))) x = some p → gt G cs (rc (fun y => fc (60 * kk + ii + y)) x) p = none → Q (some (.long (-9223372036854775808))) ((S.set 44 (iA 12 g)).set 31 (mo 0 (nI pl) (nI n) du lw fr (nI cs) ra rp rs ea dp bm bi rd tr))) (ks : ∀ g p, (∀ y, y < m → inR n (fc (60 * kk + ii + y))) → (∀ y, y < m → g y = nI (rc (fun y => fc (60 * kk + ii + y)) y)) → paN G cs (rc (fun y => fc (60 * kk + ii + y))) m = some p → Q (some (.long (lN ((if v = 0 then prodN (fun x => tn G fr.toInt (rc (fun y => fc (60 * kk + ii + y)) x)) m else 10 ^ m) / Nat.gcd (prodN (fun x => tn G fr.toInt (rc (fun y => fc (60 * kk + ii + y)) x)) m) (10 ^ m))))) ((S.set 44 (iA 12 g)).set 31 (mo 0 (nI pl) (nI n) du lw fr (nI cs) ra rp rs (nI p) dp bm bi rd tr)))  : Mth mX12_safe (d + 5) 0 [.ref 31, .int (nI kk), .int w, .int (nI ii), .int (nI m), .int v] S Q := by
  have hn9 := hg.2.1
  have hp7 := hg.1
  refine Mth_of (by decide) rfl ?_
  refine Ev_iload_n dX12_safe_0 rfl ?_
  refine Ev_callS (bc := 0) (b := 0) dX12_safe_1 cs_X12_133 rfl (Nat.le_of_ble_eq_true rfl) (by omega) ?_
  refine c_X12_noSheet (fun q => absurd q (not_not_intro (by rw [nIt (by omega)]; omega))) (fun _ => ?_)
  refine Ev_if_ne dX12_safe_4 (fun c => absurd (by decide) c) (fun _ => ?_)
  refine Ev_iload_n dX12_safe_7 rfl ?_
  refine Ev_i2l dX12_safe_8 ?_
  refine Ev_lconst (v := 0) dX12_safe_9 (by decide) ?_
  refine Ev_ldc2 dX12_safe_10 wl_X12_140 ?_
  refine Ev_callS (bc := 0) (b := 0) dX12_safe_13 cs_X12_97 rfl (Nat.le_of_ble_eq_true rfl) (by omega) ?_
  refine c_X12_in (x := _) (y := 0) (z := 2) (x64 _) rfl rfl (fun _ => ?_) (fun q => absurd hw q)
  refine Ev_if_eq dX12_safe_16 (fun c => absurd c (by decide)) (fun _ => ?_)
  refine Ev_iload dX12_safe_19 rfl ?_
  refine Ev_i2l dX12_safe_21 ?_
  refine Ev_lconst (v := 0) dX12_safe_22 (by decide) ?_
  refine Ev_lconst (v := 1) dX12_safe_23 (by decide) ?_
  refine Ev_callS (bc := 0) (b := 0) dX12_safe_24 cs_X12_97 rfl (Nat.le_of_ble_eq_true rfl) (by omega) ?_
  refine c_X12_in (x := _) (y := 0) (z := 1) (x64 _) rfl rfl (fun _ => ?_) (fun q => absurd hv q)
  refine Ev_if_eq dX12_safe_27 (fun c => absurd c (by decide)) (fun _ => ?_)
  refine Ev_aload_n dX12_safe_30 rfl ?_
  refine Ev_get dX12_safe_31 fg_X12_101_12 hM rfl ?_
  refine Ev_if_ne dX12_safe_34 (fun _ => ?_) (fun c => absurd c (fun z => hn0 ((nIinj (b := 0) (by omega) (by decide)).mp z)))
  refine Ev_aload_n dX12_safe_42 rfl ?_
  refine Ev_iload_n dX12_safe_43 rfl ?_
  refine Ev_iload_n dX12_safe_44 rfl ?_
  refine Ev_iload_n dX12_safe_45 rfl ?_
  refine Ev_iload dX12_safe_46 rfl ?_
  refine Ev_i2l dX12_safe_48 ?_
  refine Ev_topl (y := lN m) (nl (by omega)) ?_
  refine Ev_callV (bc := 0) (b := 0) dX12_safe_49 cv_X12_142 rfl hM (Nat.le_of_ble_eq_true rfl) (by omega) ?_
  refine c_X12_barred_o (y := (m : Int)) hM hs hl hc hk hz hzr (lN_toInt (by omega)) (by omega) hn heq (by omega) (by rw [nIt (by omega)]; omega) ?_
  refine Ev_istore dX12_safe_52 rfl ?_
  refine Ev_iload dX12_safe_54 rfl ?_
  refine Ev_if_ge dX12_safe_56 (fun _ => ?_) (fun c => absurd (by decide) c)
  refine Ev_aload_n dX12_safe_63 rfl ?_
  refine Ev_bipush (v := 60) dX12_safe_64 (by decide) ?_
  refine Ev_iload_n dX12_safe_66 rfl ?_
  refine Ev_imul dX12_safe_67 ?_
  refine Ev_topi (y := nI (60 * kk)) (nmul _ _) ?_
  refine Ev_iload_n dX12_safe_68 rfl ?_
  refine Ev_iadd dX12_safe_69 ?_
  refine Ev_topi (y := nI ((60 * kk) + ii)) (nI_add _ _) ?_
  refine Ev_iload dX12_safe_70 rfl ?_
  refine Ev_callV (bc := 0) (b := 0) dX12_safe_72 cv_X12_204 rfl hM (Nat.le_of_ble_eq_true rfl) (by omega) ?_
  refine c_X12_readsWalk (o := 60 * kk + ii) hg hcs hM hG (by omega) hr hc hp0 hm (fun g x hx hxn => ?_) (fun g x p hx hin hpa hgt => ?_) (fun g p hin hgr hpa => ?_)
  · skip
    refine Ev_if_ge dX12_safe_75 (fun c => absurd c (by decide)) (fun _ => ?_)
    refine Ev_aload_n dX12_safe_78 rfl ?_
    refine Ev_callV (bc := 0) (b := 0) dX12_safe_79 cv_X12_211 rfl (gn (by decide) hM) (Nat.le_of_ble_eq_true rfl) (by omega) ?_
    refine c_X12_refusedLong (gn (by decide) hM) ?_
    refine Ev_lret dX12_safe_82 rfl ?_
    exact ku g x hx hxn
  · skip
    refine Ev_if_ge dX12_safe_75 (fun c => absurd c (m100n (by omega))) (fun _ => ?_)
    refine Ev_aload_n dX12_safe_78 rfl ?_
    refine Ev_callV (bc := 0) (b := 0) dX12_safe_79 cv_X12_211 rfl (gn (by decide) hM) (Nat.le_of_ble_eq_true rfl) (by omega) ?_
    refine c_X12_refusedLong (gn (by decide) hM) ?_
    refine Ev_lret dX12_safe_82 rfl ?_
    exact kf g x p hx hin hpa hgt
  · skip
    have hrw : ∀ y, y < m → g y = nI (rc (fun y => fc (60 * kk + ii + y)) y) ∧ rc (fun y => fc (60 * kk + ii + y)) y < n := fun y hy => ⟨hgr y hy, (inR_rc (c := (fun y => fc (60 * kk + ii + y))) (hin y hy)).2⟩
    have hpl := paN_lt hg hp0 m p (fun y hy => (hrw y hy).2) hpa
    refine Ev_if_ge dX12_safe_75 (fun _ => ?_) (fun c => absurd (by decide) c)
    refine Ev_aload_n dX12_safe_83 rfl ?_
    refine Ev_iconst (v := 0) dX12_safe_84 (by decide) ?_
    refine Ev_put dX12_safe_85 fr_X12_86_12 (gs (gn (by decide) hM)) rfl rfl rfl ?_
    refine Ev_st gss ?_
    refine Ev_lconst (v := 1) dX12_safe_88 (by decide) ?_
    refine Ev_lstore dX12_safe_89 rfl ?_
    refine Ev_iconst (v := 0) dX12_safe_91 (by decide) ?_
    refine Ev_istore dX12_safe_92 rfl ?_
    exact l_X12_safe (r := rc (fun y => fc (60 * kk + ii + y))) hg hcs (gs (gn (by decide) hM)) (MN.off (MN.off hG (by decide)) (by decide)) hm (gn (by decide) (gs hr)) hrw (ks g p hin hgr hpa) m 0 (by omega)

