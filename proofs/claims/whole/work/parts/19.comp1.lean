set_option maxHeartbeats 4000000 in
set_option maxRecDepth 100000 in
theorem c_X11_isWithin {d : Nat} {S : aS} {Q : Option Value → aS → Prop} {v l h : Int32} (kt : l.toInt ≤ v.toInt ∧ v.toInt ≤ h.toInt → Q (some (.int 1)) S) (kf : ¬ (l.toInt ≤ v.toInt ∧ v.toInt ≤ h.toInt) → Q (some (.int 0)) S) : Mth mX11_isWithin d 0 [.int v, .int l, .int h] S Q := by
  refine Mth_of (by decide) rfl ?_
  refine Ev_iload_n dX11_isWithin_0 rfl ?_
  refine Ev_iload_n dX11_isWithin_1 rfl ?_
  refine Ev_icmp_lt dX11_isWithin_2 (fun c1 => ?_) (fun c1 => ?_)
  · skip
    refine Ev_iconst (v := 0) dX11_isWithin_14 (by decide) ?_
    refine Ev_iret dX11_isWithin_15 rfl (by decide) ?_
    simp only [xlt, xle, xeq] at c1
    first | exact kt (by omega) | exact kf (by omega)
  · skip
    refine Ev_iload_n dX11_isWithin_5 rfl ?_
    refine Ev_iload_n dX11_isWithin_6 rfl ?_
    refine Ev_icmp_gt dX11_isWithin_7 (fun c2 => ?_) (fun c2 => ?_)
    · skip
      refine Ev_iconst (v := 0) dX11_isWithin_14 (by decide) ?_
      refine Ev_iret dX11_isWithin_15 rfl (by decide) ?_
      simp only [xlt, xle, xeq] at c1
      simp only [xlt, xle, xeq] at c2
      first | exact kt (by omega) | exact kf (by omega)
    · skip
      refine Ev_iconst (v := 1) dX11_isWithin_10 (by decide) ?_
      refine Ev_goto dX11_isWithin_11 ?_
      refine Ev_iret dX11_isWithin_15 rfl (by decide) ?_
      simp only [xlt, xle, xeq] at c1
      simp only [xlt, xle, xeq] at c2
      first | exact kt (by omega) | exact kf (by omega)

set_option maxHeartbeats 4000000 in
set_option maxRecDepth 100000 in
theorem c_X11_refused {d : Nat} {S : aS} {Q : Option Value → aS → Prop} {lf : Int32} (hO : S[0]? = some (co lf)) {x : Int32} (k : Q (some (.int x)) (S.set 0 (co 0))) : Mth mX11_refused d 0 [.ref 0, .int x] S Q := by
  refine Mth_of (by decide) rfl ?_
  refine Ev_aload_n dX11_refused_0 rfl ?_
  refine Ev_iconst (v := 0) dX11_refused_1 (by decide) ?_
  refine Ev_put dX11_refused_2 fr_X11_60_11 hO rfl rfl rfl ?_
  refine Ev_iload_n dX11_refused_5 rfl ?_
  refine Ev_iret dX11_refused_6 rfl rfl ?_
  exact k

set_option maxHeartbeats 4000000 in
set_option maxRecDepth 100000 in
theorem c_X11_failed {d : Nat} {S : aS} {Q : Option Value → aS → Prop} {lf : Int32} (hO : S[0]? = some (co lf)) {x : Int32} (k : Q (some (.int (-10 - x))) (S.set 0 (co x))) : Mth mX11_failed d 0 [.ref 0, .int x] S Q := by
  refine Mth_of (by decide) rfl ?_
  refine Ev_aload_n dX11_failed_0 rfl ?_
  refine Ev_iload_n dX11_failed_1 rfl ?_
  refine Ev_put dX11_failed_2 fr_X11_60_11 hO rfl rfl rfl ?_
  refine Ev_bipush (v := (-10)) dX11_failed_5 (by decide) ?_
  refine Ev_iload_n dX11_failed_7 rfl ?_
  refine Ev_isub dX11_failed_8 ?_
  refine Ev_iret dX11_failed_9 rfl rfl ?_
  exact k

set_option maxHeartbeats 4000000 in
set_option maxRecDepth 100000 in
theorem c_X11_sheetAt {d : Nat} {S : aS} {Q : Option Value → aS → Prop} {lf : Int32} (hO : S[0]? = some (co lf)) {fa : Nat → Option Nat} (hA : S[1]? = some (rA 3 4 fa)) (hfa : ∀ k, k < 4 → fa k = some (2 + 2 * k)) {kk : Nat} (hk : kk < 4) (k : Q (some (.ref (2 + 2 * kk))) S) : Mth mX11_sheetAt (d + 1) 0 [.ref 0, .int (nI kk)] S Q := by
  refine Mth_of (by decide) rfl ?_
  refine Ev_iload_n dX11_sheetAt_0 rfl ?_
  refine Ev_iconst (v := 0) dX11_sheetAt_1 (by decide) ?_
  refine Ev_iconst (v := 3) dX11_sheetAt_2 (by decide) ?_
  refine Ev_callS (bc := 0) (b := 0) dX11_sheetAt_3 cs_X11_72 rfl (Nat.le_of_ble_eq_true rfl) (by omega) ?_
  refine c_X11_isWithin (fun _ => ?_) (fun q => absurd q (not_not_intro (by rw [nIt (by omega)]; simp only [z32_0, z32_3]; omega)))
  refine Ev_if_eq dX11_sheetAt_6 (fun c => absurd c (by decide)) (fun _ => ?_)
  refine Ev_aload_n dX11_sheetAt_9 rfl ?_
  refine Ev_get dX11_sheetAt_10 fg_X11_13_11 hO rfl ?_
  refine Ev_iload_n dX11_sheetAt_13 rfl ?_
  refine Ev_aaloadN (j := kk) dX11_sheetAt_14 hA (Or.inl rfl) (by omega) (by decide) (some (2 + 2 * kk)) (hfa _ (by omega)) ?_
  refine Ev_goto dX11_sheetAt_15 ?_
  refine Ev_aret dX11_sheetAt_19 rfl ?_
  exact k

set_option maxHeartbeats 4000000 in
set_option maxRecDepth 100000 in
theorem c_X11_sheetAt_bad {d : Nat} {S : aS} {Q : Option Value → aS → Prop} {lf : Int32} (hO : S[0]? = some (co lf)) {x : Int32} (hk : ¬ (0 ≤ x.toInt ∧ x.toInt ≤ 3)) (k : Q (some .null) S) : Mth mX11_sheetAt (d + 1) 0 [.ref 0, .int x] S Q := by
  refine Mth_of (by decide) rfl ?_
  refine Ev_iload_n dX11_sheetAt_0 rfl ?_
  refine Ev_iconst (v := 0) dX11_sheetAt_1 (by decide) ?_
  refine Ev_iconst (v := 3) dX11_sheetAt_2 (by decide) ?_
  refine Ev_callS (bc := 0) (b := 0) dX11_sheetAt_3 cs_X11_72 rfl (Nat.le_of_ble_eq_true rfl) (by omega) ?_
  refine c_X11_isWithin (fun q => absurd q hk) (fun _ => ?_)
  refine Ev_if_eq dX11_sheetAt_6 (fun _ => ?_) (fun c => absurd (by decide) c)
  refine Ev_null dX11_sheetAt_18 ?_
  refine Ev_aretN dX11_sheetAt_19 rfl ?_
  exact k

set_option maxHeartbeats 4000000 in
set_option maxRecDepth 100000 in
theorem c_X5_hasNothing {d : Nat} {S : aS} {Q : Option Value → aS → Prop} {a c : Nat} {ln len : Int32} (hS : S[a]? = some (.inr (5, [.ref c, .int ln, .int len]))) (kt : ln = -1 → Q (some (.int 1)) S) (kf : ¬ ln = -1 → Q (some (.int 0)) S) : Mth mX5_hasNothing d 0 [.ref a] S Q := by
  refine Mth_of (by decide) rfl ?_
  refine Ev_aload_n dX5_hasNothing_0 rfl ?_
  refine Ev_get dX5_hasNothing_1 fg_X5_15_5 hS rfl ?_
  refine Ev_iconst (v := (-1)) dX5_hasNothing_4 (by decide) ?_
  refine Ev_icmp_ne dX5_hasNothing_5 (fun c1 => ?_) (fun c1 => ?_)
  · skip
    refine Ev_iconst (v := 0) dX5_hasNothing_12 (by decide) ?_
    refine Ev_iret dX5_hasNothing_13 rfl (by decide) ?_
    first | exact kt c1 | exact kf c1
  · skip
    refine Ev_iconst (v := 1) dX5_hasNothing_8 (by decide) ?_
    refine Ev_goto dX5_hasNothing_9 ?_
    refine Ev_iret dX5_hasNothing_13 rfl (by decide) ?_
    first | exact kt c1 | exact kf c1

set_option maxHeartbeats 4000000 in
set_option maxRecDepth 100000 in
theorem c_X5_hasCell {d : Nat} {S : aS} {Q : Option Value → aS → Prop} {a c : Nat} {ln len : Int32} (hS : S[a]? = some (.inr (5, [.ref c, .int ln, .int len]))) {i : Int32} (kt : 0 ≤ i.toInt ∧ i.toInt < len.toInt → Q (some (.int 1)) S) (kf : ¬ (0 ≤ i.toInt ∧ i.toInt < len.toInt) → Q (some (.int 0)) S) : Mth mX5_hasCell d 0 [.ref a, .int i] S Q := by
  refine Mth_of (by decide) rfl ?_
  refine Ev_iload_n dX5_hasCell_0 rfl ?_
  refine Ev_if_lt dX5_hasCell_1 (fun c1 => ?_) (fun c1 => ?_)
  · skip
    refine Ev_iconst (v := 0) dX5_hasCell_16 (by decide) ?_
    refine Ev_iret dX5_hasCell_17 rfl (by decide) ?_
    simp only [xlt, xle, xeq, z32_0] at c1
    first | exact kt (by omega) | exact kf (by omega)
  · skip
    refine Ev_iload_n dX5_hasCell_4 rfl ?_
    refine Ev_aload_n dX5_hasCell_5 rfl ?_
    refine Ev_get dX5_hasCell_6 fg_X5_19_5 hS rfl ?_
    refine Ev_icmp_ge dX5_hasCell_9 (fun c2 => ?_) (fun c2 => ?_)
    · skip
      refine Ev_iconst (v := 0) dX5_hasCell_16 (by decide) ?_
      refine Ev_iret dX5_hasCell_17 rfl (by decide) ?_
      simp only [xlt, xle, xeq, z32_0] at c1
      simp only [xlt, xle, xeq, z32_0] at c2
      first | exact kt (by omega) | exact kf (by omega)
    · skip
      refine Ev_iconst (v := 1) dX5_hasCell_12 (by decide) ?_
      refine Ev_goto dX5_hasCell_13 ?_
      refine Ev_iret dX5_hasCell_17 rfl (by decide) ?_
      simp only [xlt, xle, xeq, z32_0] at c1
      simp only [xlt, xle, xeq, z32_0] at c2
      first | exact kt (by omega) | exact kf (by omega)

set_option maxHeartbeats 4000000 in
set_option maxRecDepth 100000 in
theorem c_X5_hasCells {d : Nat} {S : aS} {Q : Option Value → aS → Prop} {a c : Nat} {ln len : Int32} (hS : S[a]? = some (.inr (5, [.ref c, .int ln, .int len]))) {i n : Int32} (hl : 0 ≤ len.toInt ∧ len.toInt ≤ 60) (kt : 0 ≤ i.toInt ∧ 0 ≤ n.toInt ∧ i.toInt + n.toInt ≤ len.toInt → Q (some (.int 1)) S) (kf : ¬ (0 ≤ i.toInt ∧ 0 ≤ n.toInt ∧ i.toInt + n.toInt ≤ len.toInt) → Q (some (.int 0)) S) : Mth mX5_hasCells d 0 [.ref a, .int i, .int n] S Q := by
  refine Mth_of (by decide) rfl ?_
  refine Ev_iload_n dX5_hasCells_0 rfl ?_
  refine Ev_if_lt dX5_hasCells_1 (fun c1 => ?_) (fun c1 => ?_)
  · skip
    refine Ev_iconst (v := 0) dX5_hasCells_30 (by decide) ?_
    refine Ev_iret dX5_hasCells_31 rfl (by decide) ?_
    simp only [xlt, xle, xeq, z32_0] at c1
    first | exact kt (by omega) | exact kf (by omega)
  · skip
    refine Ev_iload_n dX5_hasCells_4 rfl ?_
    refine Ev_aload_n dX5_hasCells_5 rfl ?_
    refine Ev_get dX5_hasCells_6 fg_X5_19_5 hS rfl ?_
    refine Ev_icmp_gt dX5_hasCells_9 (fun c2 => ?_) (fun c2 => ?_)
    · skip
      refine Ev_iconst (v := 0) dX5_hasCells_30 (by decide) ?_
      refine Ev_iret dX5_hasCells_31 rfl (by decide) ?_
      simp only [xlt, xle, xeq, z32_0] at c1
      simp only [xlt, xle, xeq, z32_0] at c2
      first | exact kt (by omega) | exact kf (by omega)
    · skip
      refine Ev_iload_n dX5_hasCells_12 rfl ?_
      refine Ev_if_lt dX5_hasCells_13 (fun c3 => ?_) (fun c3 => ?_)
      · skip
        refine Ev_iconst (v := 0) dX5_hasCells_30 (by decide) ?_
        refine Ev_iret dX5_hasCells_31 rfl (by decide) ?_
        simp only [xlt, xle, xeq, z32_0] at c1
        simp only [xlt, xle, xeq, z32_0] at c2
        simp only [xlt, xle, xeq, z32_0] at c3
        first | exact kt (by omega) | exact kf (by omega)
      · skip
        refine Ev_iload_n dX5_hasCells_16 rfl ?_
        refine Ev_aload_n dX5_hasCells_17 rfl ?_
        refine Ev_get dX5_hasCells_18 fg_X5_19_5 hS rfl ?_
        refine Ev_iload_n dX5_hasCells_21 rfl ?_
        refine Ev_isub dX5_hasCells_22 ?_
        refine Ev_icmp_gt dX5_hasCells_23 (fun c4 => ?_) (fun c4 => ?_)
        · skip
          refine Ev_iconst (v := 0) dX5_hasCells_30 (by decide) ?_
          refine Ev_iret dX5_hasCells_31 rfl (by decide) ?_
          simp only [xlt, xle, xeq, z32_0] at c1
          simp only [xlt, xle, xeq, z32_0] at c2
          simp only [xlt, xle, xeq, z32_0] at c3
          have e9 : (len - i).toInt = len.toInt - i.toInt := xsub rfl rfl (by omega)
          simp only [xlt, xle, e9] at c4
          first | exact kt (by omega) | exact kf (by omega)
        · skip
          refine Ev_iconst (v := 1) dX5_hasCells_26 (by decide) ?_
          refine Ev_goto dX5_hasCells_27 ?_
          refine Ev_iret dX5_hasCells_31 rfl (by decide) ?_
          simp only [xlt, xle, xeq, z32_0] at c1
          simp only [xlt, xle, xeq, z32_0] at c2
          simp only [xlt, xle, xeq, z32_0] at c3
          have e9 : (len - i).toInt = len.toInt - i.toInt := xsub rfl rfl (by omega)
          simp only [xlt, xle, e9] at c4
          first | exact kt (by omega) | exact kf (by omega)

set_option maxHeartbeats 4000000 in
set_option maxRecDepth 100000 in
theorem c_X5_read {d : Nat} {S : aS} {Q : Option Value → aS → Prop} {a c : Nat} {ln len : Int32} (hS : S[a]? = some (.inr (5, [.ref c, .int ln, .int len]))) {f : Nat → Int32} (hc : S[c]? = some (iA 60 f)) {ii : Nat} (hi : (ii : Int) < len.toInt) (hl : 0 ≤ len.toInt ∧ len.toInt ≤ 60) (k : Q (some (.int (f ii))) S) : Mth mX5_read (d + 1) 0 [.ref a, .int (nI ii)] S Q := by
  refine Mth_of (by decide) rfl ?_
  refine Ev_aload_n dX5_read_0 rfl ?_
  refine Ev_iload_n dX5_read_1 rfl ?_
  refine Ev_callV (bc := 0) (b := 0) dX5_read_2 cv_X5_28 rfl hS (Nat.le_of_ble_eq_true rfl) (by omega) ?_
  refine c_X5_hasCell hS (fun _ => ?_) (fun q => absurd q (not_not_intro (by rw [nIt (by omega)]; omega)))
  refine Ev_if_eq dX5_read_5 (fun c => absurd c (by decide)) (fun _ => ?_)
  refine Ev_aload_n dX5_read_8 rfl ?_
  refine Ev_get dX5_read_9 fg_X5_9_5 hS rfl ?_
  refine Ev_iload_n dX5_read_12 rfl ?_
  refine Ev_ialoadN (j := ii) dX5_read_13 hc (by omega) (by decide) ?_
  refine Ev_goto dX5_read_14 ?_
  refine Ev_iret dX5_read_18 rfl rfl ?_
  exact k

set_option maxHeartbeats 4000000 in
set_option maxRecDepth 100000 in
theorem c_X5_write0 {d : Nat} {S : aS} {Q : Option Value → aS → Prop} {a c : Nat} {ln len : Int32} (hS : S[a]? = some (.inr (5, [.ref c, .int ln, .int len]))) {f : Nat → Int32} (hc : S[c]? = some (iA 60 f)) (hac : a ≠ c) {ii : Nat} {v : Int32} (hln : ln = 0) (hi : (ii : Int) < len.toInt) (hl : 0 ≤ len.toInt ∧ len.toInt ≤ 60) (k : Q none (S.set c (iA 60 (upd f ii v.toInt8.toInt32)))) : Mth mX5_write (d + 1) 0 [.ref a, .int (nI ii), .int v] S Q := by
  refine Mth_of (by decide) rfl ?_
  refine Ev_aload_n dX5_write_0 rfl ?_
  refine Ev_iload_n dX5_write_1 rfl ?_
  refine Ev_callV (bc := 0) (b := 0) dX5_write_2 cv_X5_28 rfl hS (Nat.le_of_ble_eq_true rfl) (by omega) ?_
  refine c_X5_hasCell hS (fun _ => ?_) (fun q => absurd q (not_not_intro (by rw [nIt (by omega)]; omega)))
  refine Ev_if_eq dX5_write_5 (fun c => absurd c (by decide)) (fun _ => ?_)
  refine Ev_aload_n dX5_write_8 rfl ?_
  refine Ev_get dX5_write_9 fg_X5_9_5 hS rfl ?_
  refine Ev_iload_n dX5_write_12 rfl ?_
  refine Ev_aload_n dX5_write_13 rfl ?_
  refine Ev_get dX5_write_14 fg_X5_15_5 hS rfl ?_
  refine Ev_if_ne dX5_write_17 (fun c => absurd hln c) (fun _ => ?_)
  refine Ev_iload_n dX5_write_20 rfl ?_
  refine Ev_i2b dX5_write_21 ?_
  refine Ev_goto dX5_write_22 ?_
  refine Ev_iastoreN (j := ii) dX5_write_39 hc (by omega) (by decide) ?_
  refine Ev_vret dX5_write_40 rfl ?_
  exact k

set_option maxHeartbeats 4000000 in
set_option maxRecDepth 100000 in
theorem c_X5_write1 {d : Nat} {S : aS} {Q : Option Value → aS → Prop} {a c : Nat} {ln len : Int32} (hS : S[a]? = some (.inr (5, [.ref c, .int ln, .int len]))) {f : Nat → Int32} (hc : S[c]? = some (iA 60 f)) (hac : a ≠ c) {ii : Nat} {v : Int32} (hln : ln = 1) (hi : (ii : Int) < len.toInt) (hl : 0 ≤ len.toInt ∧ len.toInt ≤ 60) (k : Q none (S.set c (iA 60 (upd f ii v.toInt16.toInt32)))) : Mth mX5_write (d + 1) 0 [.ref a, .int (nI ii), .int v] S Q := by
  refine Mth_of (by decide) rfl ?_
  refine Ev_aload_n dX5_write_0 rfl ?_
  refine Ev_iload_n dX5_write_1 rfl ?_
  refine Ev_callV (bc := 0) (b := 0) dX5_write_2 cv_X5_28 rfl hS (Nat.le_of_ble_eq_true rfl) (by omega) ?_
  refine c_X5_hasCell hS (fun _ => ?_) (fun q => absurd q (not_not_intro (by rw [nIt (by omega)]; omega)))
  refine Ev_if_eq dX5_write_5 (fun c => absurd c (by decide)) (fun _ => ?_)
  refine Ev_aload_n dX5_write_8 rfl ?_
  refine Ev_get dX5_write_9 fg_X5_9_5 hS rfl ?_
  refine Ev_iload_n dX5_write_12 rfl ?_
  refine Ev_aload_n dX5_write_13 rfl ?_
  refine Ev_get dX5_write_14 fg_X5_15_5 hS rfl ?_
  refine Ev_if_ne dX5_write_17 (fun _ => ?_) (fun c => absurd c (by rw [hln]; decide))
  refine Ev_aload_n dX5_write_25 rfl ?_
  refine Ev_get dX5_write_26 fg_X5_15_5 hS rfl ?_
  refine Ev_iconst (v := 1) dX5_write_29 (by decide) ?_
  refine Ev_icmp_ne dX5_write_30 (fun c => absurd hln c) (fun _ => ?_)
  refine Ev_iload_n dX5_write_33 rfl ?_
  refine Ev_i2s dX5_write_34 ?_
  refine Ev_goto dX5_write_35 ?_
  refine Ev_iastoreN (j := ii) dX5_write_39 hc (by omega) (by decide) ?_
  refine Ev_vret dX5_write_40 rfl ?_
  exact k

set_option maxHeartbeats 4000000 in
set_option maxRecDepth 100000 in
theorem c_X5_write2 {d : Nat} {S : aS} {Q : Option Value → aS → Prop} {a c : Nat} {ln len : Int32} (hS : S[a]? = some (.inr (5, [.ref c, .int ln, .int len]))) {f : Nat → Int32} (hc : S[c]? = some (iA 60 f)) (hac : a ≠ c) {ii : Nat} {v : Int32} (hln : ln = 2) (hi : (ii : Int) < len.toInt) (hl : 0 ≤ len.toInt ∧ len.toInt ≤ 60) (k : Q none (S.set c (iA 60 (upd f ii v)))) : Mth mX5_write (d + 1) 0 [.ref a, .int (nI ii), .int v] S Q := by
  refine Mth_of (by decide) rfl ?_
  refine Ev_aload_n dX5_write_0 rfl ?_
  refine Ev_iload_n dX5_write_1 rfl ?_
  refine Ev_callV (bc := 0) (b := 0) dX5_write_2 cv_X5_28 rfl hS (Nat.le_of_ble_eq_true rfl) (by omega) ?_
  refine c_X5_hasCell hS (fun _ => ?_) (fun q => absurd q (not_not_intro (by rw [nIt (by omega)]; omega)))
  refine Ev_if_eq dX5_write_5 (fun c => absurd c (by decide)) (fun _ => ?_)
  refine Ev_aload_n dX5_write_8 rfl ?_
  refine Ev_get dX5_write_9 fg_X5_9_5 hS rfl ?_
  refine Ev_iload_n dX5_write_12 rfl ?_
  refine Ev_aload_n dX5_write_13 rfl ?_
  refine Ev_get dX5_write_14 fg_X5_15_5 hS rfl ?_
  refine Ev_if_ne dX5_write_17 (fun _ => ?_) (fun c => absurd c (by rw [hln]; decide))
  refine Ev_aload_n dX5_write_25 rfl ?_
  refine Ev_get dX5_write_26 fg_X5_15_5 hS rfl ?_
  refine Ev_iconst (v := 1) dX5_write_29 (by decide) ?_
  refine Ev_icmp_ne dX5_write_30 (fun _ => ?_) (fun c => absurd c (by rw [hln]; decide))
  refine Ev_iload_n dX5_write_38 rfl ?_
  refine Ev_iastoreN (j := ii) dX5_write_39 hc (by omega) (by decide) ?_
  refine Ev_vret dX5_write_40 rfl ?_
  exact k

set_option maxHeartbeats 4000000 in
set_option maxRecDepth 100000 in
theorem c_X5_faultOfRow {d : Nat} {S : aS} {Q : Option Value → aS → Prop} {a c : Nat} {ln len : Int32} (hS : S[a]? = some (.inr (5, [.ref c, .int ln, .int len]))) {x : Int32} (kn : ln = -1 → Q (some (.int 1)) S) (k0 : ¬ ln = -1 → ln = x → Q (some (.int 0)) S) (k2 : ¬ ln = -1 → ¬ ln = x → Q (some (.int 2)) S) : Mth mX5_faultOfRow (d + 1) 0 [.ref a, .int x] S Q := by
  refine Mth_of (by decide) rfl ?_
  refine Ev_aload_n dX5_faultOfRow_0 rfl ?_
  refine Ev_callV (bc := 0) (b := 0) dX5_faultOfRow_1 cv_X5_32 rfl hS (Nat.le_of_ble_eq_true rfl) (by omega) ?_
  refine c_X5_hasNothing hS (fun q1 => ?_) (fun q1 => ?_)
  · skip
    refine Ev_if_eq dX5_faultOfRow_4 (fun c => absurd c (by decide)) (fun _ => ?_)
    refine Ev_iconst (v := 1) dX5_faultOfRow_7 (by decide) ?_
    refine Ev_iret dX5_faultOfRow_8 rfl rfl ?_
    exact kn q1
  · skip
    refine Ev_if_eq dX5_faultOfRow_4 (fun _ => ?_) (fun c => absurd (by decide) c)
    refine Ev_aload_n dX5_faultOfRow_9 rfl ?_
    refine Ev_get dX5_faultOfRow_10 fg_X5_15_5 hS rfl ?_
    refine Ev_iload_n dX5_faultOfRow_13 rfl ?_
    refine Ev_icmp_ne dX5_faultOfRow_14 (fun c2 => ?_) (fun c2 => ?_)
    · skip
      refine Ev_iconst (v := 2) dX5_faultOfRow_21 (by decide) ?_
      refine Ev_iret dX5_faultOfRow_22 rfl rfl ?_
      exact k2 q1 c2
    · skip
      refine Ev_iconst (v := 0) dX5_faultOfRow_17 (by decide) ?_
      refine Ev_goto dX5_faultOfRow_18 ?_
      refine Ev_iret dX5_faultOfRow_22 rfl rfl ?_
      exact k0 q1 c2

set_option maxHeartbeats 4000000 in
set_option maxRecDepth 100000 in
theorem c_X5_faultOfCells_n {d : Nat} {S : aS} {Q : Option Value → aS → Prop} {a c : Nat} {ln len : Int32} (hS : S[a]? = some (.inr (5, [.ref c, .int ln, .int len]))) {x i n : Int32} (hn : ln = -1) (k : Q (some (.int 1)) S) : Mth mX5_faultOfCells (d + 2) 0 [.ref a, .int x, .int i, .int n] S Q := by
  refine Mth_of (by decide) rfl ?_
  refine Ev_aload_n dX5_faultOfCells_0 rfl ?_
  refine Ev_iload_n dX5_faultOfCells_1 rfl ?_
  refine Ev_callV (bc := 0) (b := 0) dX5_faultOfCells_2 cv_X5_36 rfl hS (Nat.le_of_ble_eq_true rfl) (by omega) ?_
  refine c_X5_faultOfRow hS (fun _ => ?_) (fun q => absurd hn q) (fun q => absurd hn q)
  refine Ev_istore dX5_faultOfCells_5 rfl ?_
  refine Ev_iload dX5_faultOfCells_7 rfl ?_
  refine Ev_if_eq dX5_faultOfCells_9 (fun c => absurd c (by decide)) (fun _ => ?_)
  refine Ev_iload dX5_faultOfCells_12 rfl ?_
  refine Ev_iret dX5_faultOfCells_14 rfl rfl ?_
  exact k

set_option maxHeartbeats 4000000 in
set_option maxRecDepth 100000 in
theorem c_X5_faultOfCells_cast {d : Nat} {S : aS} {Q : Option Value → aS → Prop} {a c : Nat} {ln len : Int32} (hS : S[a]? = some (.inr (5, [.ref c, .int ln, .int len]))) {x i n : Int32} (hn : ¬ ln = -1) (heq : ¬ ln = x) (k : Q (some (.int 2)) S) : Mth mX5_faultOfCells (d + 2) 0 [.ref a, .int x, .int i, .int n] S Q := by
  refine Mth_of (by decide) rfl ?_
  refine Ev_aload_n dX5_faultOfCells_0 rfl ?_
  refine Ev_iload_n dX5_faultOfCells_1 rfl ?_
  refine Ev_callV (bc := 0) (b := 0) dX5_faultOfCells_2 cv_X5_36 rfl hS (Nat.le_of_ble_eq_true rfl) (by omega) ?_
  refine c_X5_faultOfRow hS (fun q => absurd q hn) (fun _ q => absurd q heq) (fun _ _ => ?_)
  refine Ev_istore dX5_faultOfCells_5 rfl ?_
  refine Ev_iload dX5_faultOfCells_7 rfl ?_
  refine Ev_if_eq dX5_faultOfCells_9 (fun c => absurd c (by decide)) (fun _ => ?_)
  refine Ev_iload dX5_faultOfCells_12 rfl ?_
  refine Ev_iret dX5_faultOfCells_14 rfl rfl ?_
  exact k

set_option maxHeartbeats 4000000 in
set_option maxRecDepth 100000 in
theorem c_X5_faultOfCells_size {d : Nat} {S : aS} {Q : Option Value → aS → Prop} {a c : Nat} {ln len : Int32} (hS : S[a]? = some (.inr (5, [.ref c, .int ln, .int len]))) {x i n : Int32} (hn : ¬ ln = -1) (heq : ln = x) (hs4 : n.toInt < 0) (k : Q (some (.int 4)) S) : Mth mX5_faultOfCells (d + 2) 0 [.ref a, .int x, .int i, .int n] S Q := by
  refine Mth_of (by decide) rfl ?_
  refine Ev_aload_n dX5_faultOfCells_0 rfl ?_
  refine Ev_iload_n dX5_faultOfCells_1 rfl ?_
  refine Ev_callV (bc := 0) (b := 0) dX5_faultOfCells_2 cv_X5_36 rfl hS (Nat.le_of_ble_eq_true rfl) (by omega) ?_
  refine c_X5_faultOfRow hS (fun q => absurd q hn) (fun _ _ => ?_) (fun _ q => absurd heq q)
  refine Ev_istore dX5_faultOfCells_5 rfl ?_
  refine Ev_iload dX5_faultOfCells_7 rfl ?_
  refine Ev_if_eq dX5_faultOfCells_9 (fun _ => ?_) (fun c => absurd (by decide) c)
  refine Ev_iload_n dX5_faultOfCells_15 rfl ?_
  refine Ev_if_ge dX5_faultOfCells_16 (fun c => absurd c (by first | (simp only [xlt, xle, xeq, z32_0, z32_1, z32_2, z32_3, z32_8, z32_12, z32_60]; omega) | (simp only [xlt, xle, xeq, z32_0, z32_1, z32_2, z32_3, z32_8, z32_12, z32_60]; done) | omega)) (fun _ => ?_)
  refine Ev_iconst (v := 4) dX5_faultOfCells_19 (by decide) ?_
  refine Ev_iret dX5_faultOfCells_20 rfl rfl ?_
  exact k

set_option maxHeartbeats 4000000 in
set_option maxRecDepth 100000 in
theorem c_X5_faultOfCells_ix {d : Nat} {S : aS} {Q : Option Value → aS → Prop} {a c : Nat} {ln len : Int32} (hS : S[a]? = some (.inr (5, [.ref c, .int ln, .int len]))) {x i n : Int32} (hl : 0 ≤ len.toInt ∧ len.toInt ≤ 60) (hn : ¬ ln = -1) (heq : ln = x) (hs4 : 0 ≤ n.toInt) (hi : ¬ (0 ≤ i.toInt ∧ i.toInt + n.toInt ≤ len.toInt)) (k : Q (some (.int 3)) S) : Mth mX5_faultOfCells (d + 2) 0 [.ref a, .int x, .int i, .int n] S Q := by
  refine Mth_of (by decide) rfl ?_
  refine Ev_aload_n dX5_faultOfCells_0 rfl ?_
  refine Ev_iload_n dX5_faultOfCells_1 rfl ?_
  refine Ev_callV (bc := 0) (b := 0) dX5_faultOfCells_2 cv_X5_36 rfl hS (Nat.le_of_ble_eq_true rfl) (by omega) ?_
  refine c_X5_faultOfRow hS (fun q => absurd q hn) (fun _ _ => ?_) (fun _ q => absurd heq q)
  refine Ev_istore dX5_faultOfCells_5 rfl ?_
  refine Ev_iload dX5_faultOfCells_7 rfl ?_
  refine Ev_if_eq dX5_faultOfCells_9 (fun _ => ?_) (fun c => absurd (by decide) c)
  refine Ev_iload_n dX5_faultOfCells_15 rfl ?_
  refine Ev_if_ge dX5_faultOfCells_16 (fun _ => ?_) (fun c => absurd (by first | (simp only [xlt, xle, xeq, z32_0, z32_1, z32_2, z32_3, z32_8, z32_12, z32_60]; omega) | (simp only [xlt, xle, xeq, z32_0, z32_1, z32_2, z32_3, z32_8, z32_12, z32_60]; done) | omega) c)
  refine Ev_aload_n dX5_faultOfCells_21 rfl ?_
  refine Ev_iload_n dX5_faultOfCells_22 rfl ?_
  refine Ev_iload_n dX5_faultOfCells_23 rfl ?_
  refine Ev_callV (bc := 0) (b := 0) dX5_faultOfCells_24 cv_X5_40 rfl hS (Nat.le_of_ble_eq_true rfl) (by omega) ?_
  refine c_X5_hasCells hS hl (fun q => absurd q (by omega)) (fun _ => ?_)
  refine Ev_if_eq dX5_faultOfCells_27 (fun _ => ?_) (fun c => absurd (by decide) c)
  refine Ev_iconst (v := 3) dX5_faultOfCells_34 (by decide) ?_
  refine Ev_iret dX5_faultOfCells_35 rfl rfl ?_
  exact k

set_option maxHeartbeats 4000000 in
set_option maxRecDepth 100000 in
theorem c_X5_faultOfCells_o {d : Nat} {S : aS} {Q : Option Value → aS → Prop} {a c : Nat} {ln len : Int32} (hS : S[a]? = some (.inr (5, [.ref c, .int ln, .int len]))) {x i n : Int32} (hl : 0 ≤ len.toInt ∧ len.toInt ≤ 60) (hn : ¬ ln = -1) (heq : ln = x) (hs4 : 0 ≤ n.toInt) (hi : 0 ≤ i.toInt ∧ i.toInt + n.toInt ≤ len.toInt) (k : Q (some (.int 0)) S) : Mth mX5_faultOfCells (d + 2) 0 [.ref a, .int x, .int i, .int n] S Q := by
  refine Mth_of (by decide) rfl ?_
  refine Ev_aload_n dX5_faultOfCells_0 rfl ?_
  refine Ev_iload_n dX5_faultOfCells_1 rfl ?_
  refine Ev_callV (bc := 0) (b := 0) dX5_faultOfCells_2 cv_X5_36 rfl hS (Nat.le_of_ble_eq_true rfl) (by omega) ?_
  refine c_X5_faultOfRow hS (fun q => absurd q hn) (fun _ _ => ?_) (fun _ q => absurd heq q)
  refine Ev_istore dX5_faultOfCells_5 rfl ?_
  refine Ev_iload dX5_faultOfCells_7 rfl ?_
  refine Ev_if_eq dX5_faultOfCells_9 (fun _ => ?_) (fun c => absurd (by decide) c)
  refine Ev_iload_n dX5_faultOfCells_15 rfl ?_
  refine Ev_if_ge dX5_faultOfCells_16 (fun _ => ?_) (fun c => absurd (by first | (simp only [xlt, xle, xeq, z32_0, z32_1, z32_2, z32_3, z32_8, z32_12, z32_60]; omega) | (simp only [xlt, xle, xeq, z32_0, z32_1, z32_2, z32_3, z32_8, z32_12, z32_60]; done) | omega) c)
  refine Ev_aload_n dX5_faultOfCells_21 rfl ?_
  refine Ev_iload_n dX5_faultOfCells_22 rfl ?_
  refine Ev_iload_n dX5_faultOfCells_23 rfl ?_
  refine Ev_callV (bc := 0) (b := 0) dX5_faultOfCells_24 cv_X5_40 rfl hS (Nat.le_of_ble_eq_true rfl) (by omega) ?_
  refine c_X5_hasCells hS hl (fun _ => ?_) (fun q => absurd q (not_not_intro (by omega)))
  refine Ev_if_eq dX5_faultOfCells_27 (fun c => absurd c (by decide)) (fun _ => ?_)
  refine Ev_iconst (v := 0) dX5_faultOfCells_30 (by decide) ?_
  refine Ev_goto dX5_faultOfCells_31 ?_
  refine Ev_iret dX5_faultOfCells_35 rfl rfl ?_
  exact k

def filN {α : Type} (f : Nat → α) (x : α) (m : Nat) : Nat → α := fun j => if j < m then x else f j
theorem filN_0 {α : Type} (f : Nat → α) (x : α) : filN f x 0 = f := by funext j; simp [filN]
theorem filN_s (f : Nat → Int32) (x : Int32) (m : Nat) : upd (filN f x m) m x = filN f x (m + 1) := by
  funext j
  simp only [upd, filN]
  split
  · rw [if_pos (by omega)]
  · split
    · rw [if_pos (by omega)]
    · rw [if_neg (by omega)]
theorem filN_sL (f : Nat → Int64) (x : Int64) (m : Nat) : vp_updL (filN f x m) m x = filN f x (m + 1) := by
  funext j
  simp only [vp_updL, filN]
  split
  · rw [if_pos (by omega)]
  · split
    · rw [if_pos (by omega)]
    · rw [if_neg (by omega)]

set_option maxHeartbeats 4000000 in
set_option maxRecDepth 100000 in
theorem l_fillI {d : Nat} {S : aS} {Q : Option Value → aS → Prop} {c nn : Nat} {f : Nat → Int32} {x : Int32} (hn : nn < 1000) (hc : S[c]? = some (iA nn f)) (k : Q none (S.set c (iA nn (filN f x nn)))) : ∀ (t i : Nat) , i + t = nn → Ev none mJ7_fill_53178 d 0 5 [some (.ref c), some (.int x), some (.int (nI i)), some (.int (nI nn))] [] (S.set c (iA nn (filN f x i))) Q := by
  intro t
  induction t with
  | zero =>
    intro i  hi
    obtain rfl : i = nn := by omega
    refine Ev_iload_n dJ7_fill_53178_5 rfl ?_
    refine Ev_iload_n dJ7_fill_53178_6 rfl ?_
    refine Ev_icmp_ge dJ7_fill_53178_7 (fun _ => ?_) (fun c => absurd ((nle (by omega) (by omega)).mpr (Nat.le_refl _)) c)
    refine Ev_vret dJ7_fill_53178_20 rfl ?_
    exact k
  | succ t ih =>
    intro i  hi
    refine Ev_iload_n dJ7_fill_53178_5 rfl ?_
    refine Ev_iload_n dJ7_fill_53178_6 rfl ?_
    refine Ev_icmp_ge dJ7_fill_53178_7 (fun c => absurd c (fun z => absurd ((nle (by omega) (by omega)).mp z) (by omega))) (fun _ => ?_)
    refine Ev_aload_n dJ7_fill_53178_10 rfl ?_
    refine Ev_iload_n dJ7_fill_53178_11 rfl ?_
    refine Ev_iload_n dJ7_fill_53178_12 rfl ?_
    refine Ev_iastoreN (j := i) dJ7_fill_53178_13 (gs hc) (by omega) (by omega) ?_
    refine Ev_iinc (v := nI (i + 1)) dJ7_fill_53178_14 rfl (nI_1 _) rfl ?_
    refine Ev_goto dJ7_fill_53178_17 ?_
    exact Ev_st gss (filN_s f x i ▸ ih (i + 1) (by omega))

set_option maxHeartbeats 4000000 in
set_option maxRecDepth 100000 in
theorem l_fillL {d : Nat} {S : aS} {Q : Option Value → aS → Prop} {c nn : Nat} {f : Nat → Int64} {x : Int64} (hn : nn < 1000) (hc : S[c]? = some (lA nn f)) (k : Q none (S.set c (lA nn (filN f x nn)))) : ∀ (t i : Nat) , i + t = nn → Ev none mJ7_fill_d0a16 d 0 6 [some (.ref c), some (.long x), none, some (.int (nI i)), some (.int (nI nn))] [] (S.set c (lA nn (filN f x i))) Q := by
  intro t
  induction t with
  | zero =>
    intro i  hi
    obtain rfl : i = nn := by omega
    refine Ev_iload_n dJ7_fill_d0a16_6 rfl ?_
    refine Ev_iload dJ7_fill_d0a16_7 rfl ?_
    refine Ev_icmp_ge dJ7_fill_d0a16_9 (fun _ => ?_) (fun c => absurd ((nle (by omega) (by omega)).mpr (Nat.le_refl _)) c)
    refine Ev_vret dJ7_fill_d0a16_22 rfl ?_
    exact k
  | succ t ih =>
    intro i  hi
    refine Ev_iload_n dJ7_fill_d0a16_6 rfl ?_
    refine Ev_iload dJ7_fill_d0a16_7 rfl ?_
    refine Ev_icmp_ge dJ7_fill_d0a16_9 (fun c => absurd c (fun z => absurd ((nle (by omega) (by omega)).mp z) (by omega))) (fun _ => ?_)
    refine Ev_aload_n dJ7_fill_d0a16_12 rfl ?_
    refine Ev_iload_n dJ7_fill_d0a16_13 rfl ?_
    refine Ev_lload_n dJ7_fill_d0a16_14 rfl ?_
    refine Ev_lastoreN (j := i) dJ7_fill_d0a16_15 (gs hc) (by omega) (by omega) ?_
    refine Ev_iinc (v := nI (i + 1)) dJ7_fill_d0a16_16 rfl (nI_1 _) rfl ?_
    refine Ev_goto dJ7_fill_d0a16_19 ?_
    exact Ev_st gss (filN_sL f x i ▸ ih (i + 1) (by omega))

set_option maxHeartbeats 4000000 in
set_option maxRecDepth 100000 in
theorem c_fillI60 {d : Nat} {S : aS} {Q : Option Value → aS → Prop} {c : Nat} {f : Nat → Int32} {x : Int32} (hc : S[c]? = some (iA 60 f)) (k : Q none (S.set c (iA 60 (filN f x 60)))) : Mth mJ7_fill_53178 d 0 [.ref c, .int x] S Q := by
  refine Mth_of (by decide) rfl ?_
  refine Ev_iconst (v := 0) dJ7_fill_53178_0 (by decide) ?_
  refine Ev_istore_n dJ7_fill_53178_1 rfl ?_
  refine Ev_aload_n dJ7_fill_53178_2 rfl ?_
  refine Ev_alen (z := 60) dJ7_fill_53178_3 hc (by decide) rfl rfl ?_
  refine Ev_istore_n dJ7_fill_53178_4 rfl ?_
  have h0 := l_fillI (S := S) (d := d) (Q := Q) (x := x) (nn := 60) (by decide) hc k 60 0 (by omega)
  rw [filN_0, gid hc] at h0
  exact h0

set_option maxHeartbeats 4000000 in
set_option maxRecDepth 100000 in
theorem c_fillI7 {d : Nat} {S : aS} {Q : Option Value → aS → Prop} {c : Nat} {f : Nat → Int32} {x : Int32} (hc : S[c]? = some (iA 7 f)) (k : Q none (S.set c (iA 7 (filN f x 7)))) : Mth mJ7_fill_53178 d 0 [.ref c, .int x] S Q := by
  refine Mth_of (by decide) rfl ?_
  refine Ev_iconst (v := 0) dJ7_fill_53178_0 (by decide) ?_
  refine Ev_istore_n dJ7_fill_53178_1 rfl ?_
  refine Ev_aload_n dJ7_fill_53178_2 rfl ?_
  refine Ev_alen (z := 7) dJ7_fill_53178_3 hc (by decide) rfl rfl ?_
  refine Ev_istore_n dJ7_fill_53178_4 rfl ?_
  have h0 := l_fillI (S := S) (d := d) (Q := Q) (x := x) (nn := 7) (by decide) hc k 7 0 (by omega)
  rw [filN_0, gid hc] at h0
  exact h0

set_option maxHeartbeats 4000000 in
set_option maxRecDepth 100000 in
theorem c_fillL7 {d : Nat} {S : aS} {Q : Option Value → aS → Prop} {c : Nat} {f : Nat → Int64} {x : Int64} (hc : S[c]? = some (lA 7 f)) (k : Q none (S.set c (lA 7 (filN f x 7)))) : Mth mJ7_fill_d0a16 d 0 [.ref c, .long x] S Q := by
  refine Mth_of (by decide) rfl ?_
  refine Ev_iconst (v := 0) dJ7_fill_d0a16_0 (by decide) ?_
  refine Ev_istore_n dJ7_fill_d0a16_1 rfl ?_
  refine Ev_aload_n dJ7_fill_d0a16_2 rfl ?_
  refine Ev_alen (z := 7) dJ7_fill_d0a16_3 hc (by decide) rfl rfl ?_
  refine Ev_istore dJ7_fill_d0a16_4 rfl ?_
  have h0 := l_fillL (S := S) (d := d) (Q := Q) (x := x) (nn := 7) (by decide) hc k 7 0 (by omega)
  rw [filN_0, gid hc] at h0
  exact h0

set_option maxHeartbeats 4000000 in
set_option maxRecDepth 100000 in
theorem c_X5_begin {d : Nat} {S : aS} {Q : Option Value → aS → Prop} {a c : Nat} {ln len : Int32} (hS : S[a]? = some (.inr (5, [.ref c, .int ln, .int len]))) {f : Nat → Int32} (hc : S[c]? = some (iA 60 f)) (hac : a ≠ c) {x n : Int32} (k : Q none ((S.set c (iA 60 (filN f 0 60))).set a (.inr (5, [.ref c, .int x, .int n])))) : Mth mX5_begin (d + 1) 0 [.ref a, .int x, .int n] S Q := by
  refine Mth_of (by decide) rfl ?_
  refine Ev_aload_n dX5_begin_0 rfl ?_
  refine Ev_get dX5_begin_1 fg_X5_9_5 hS rfl ?_
  refine Ev_iconst (v := 0) dX5_begin_4 (by decide) ?_
  refine Ev_callS (bc := 0) (b := 0) dX5_begin_5 cs_X5_22 rfl (Nat.le_of_ble_eq_true rfl) (by omega) ?_
  refine c_fillI60 hc ?_
  refine Ev_aload_n dX5_begin_8 rfl ?_
  refine Ev_iload_n dX5_begin_9 rfl ?_
  refine Ev_put dX5_begin_10 fr_X5_15_5 (gn (by omega) hS) rfl rfl rfl ?_
  refine Ev_aload_n dX5_begin_13 rfl ?_
  refine Ev_iload_n dX5_begin_14 rfl ?_
  refine Ev_put dX5_begin_15 fr_X5_19_5 (gs (gn (by omega) hS)) rfl rfl rfl ?_
  refine Ev_st gss ?_
  refine Ev_vret dX5_begin_18 rfl ?_
  exact k

set_option maxHeartbeats 4000000 in
set_option maxRecDepth 100000 in
theorem c_X5_drop {d : Nat} {S : aS} {Q : Option Value → aS → Prop} {a c : Nat} {ln len : Int32} (hS : S[a]? = some (.inr (5, [.ref c, .int ln, .int len]))) (k : Q none (S.set a (.inr (5, [.ref c, .int (-1), .int 0])))) : Mth mX5_drop d 0 [.ref a] S Q := by
  refine Mth_of (by decide) rfl ?_
  refine Ev_aload_n dX5_drop_0 rfl ?_
  refine Ev_iconst (v := (-1)) dX5_drop_1 (by decide) ?_
  refine Ev_put dX5_drop_2 fr_X5_15_5 hS rfl rfl rfl ?_
  refine Ev_aload_n dX5_drop_5 rfl ?_
  refine Ev_iconst (v := 0) dX5_drop_6 (by decide) ?_
  refine Ev_put dX5_drop_7 fr_X5_19_5 (gs hS) rfl rfl rfl ?_
  refine Ev_st gss ?_
  refine Ev_vret dX5_drop_10 rfl ?_
  exact k

set_option maxHeartbeats 4000000 in
set_option maxRecDepth 100000 in
theorem c_X9_leave {d : Nat} {S : aS} {Q : Option Value → aS → Prop} {tr : Int32} (hT : S[30]? = some (.inr (9, [.int tr]))) {x : Int32} (k : Q none (S.set 30 (.inr (9, [.int (31 * tr + x)])))) : Mth mX9_leave d 0 [.ref 30, .int x] S Q := by
  refine Mth_of (by decide) rfl ?_
  refine Ev_aload_n dX9_leave_0 rfl ?_
  refine Ev_bipush (v := 31) dX9_leave_1 (by decide) ?_
  refine Ev_aload_n dX9_leave_3 rfl ?_
  refine Ev_get dX9_leave_4 fg_X9_7_9 hT rfl ?_
  refine Ev_imul dX9_leave_7 ?_
  refine Ev_iload_n dX9_leave_8 rfl ?_
  refine Ev_iadd dX9_leave_9 ?_
  refine Ev_put dX9_leave_10 fr_X9_7_9 hT rfl rfl rfl ?_
  refine Ev_vret dX9_leave_13 rfl ?_
  exact k

set_option maxHeartbeats 4000000 in
set_option maxRecDepth 100000 in
theorem c_X7_leadsFrom {d : Nat} {S : aS} {Q : Option Value → aS → Prop} {a ci : Nat} {nu o1 o2 lg sg dg mi te cl : Int32} (hS : S[a]? = some (.inr (ci, [.int nu, .int o1, .int o2, .int lg, .int sg, .int dg, .int mi, .int te, .int cl]))) (hci : ci = 7 ∨ ci = 1 ∨ ci = 6) {p : Int32} (kt : cl = 0 ∧ (o1 = p ∨ o2 = p) → Q (some (.int 1)) S) (kf : ¬ (cl = 0 ∧ (o1 = p ∨ o2 = p)) → Q (some (.int 0)) S) : Mth mX7_leadsFrom d 0 [.ref a, .int p] S Q := by
  rcases hci with rfl | rfl | rfl
  · skip
    refine Mth_of (by decide) rfl ?_
    refine Ev_aload_n dX7_leadsFrom_0 rfl ?_
    refine Ev_get dX7_leadsFrom_1 fg_X7_34_7 hS rfl ?_
    refine Ev_if_ne dX7_leadsFrom_4 (fun c1 => ?_) (fun c1 => ?_)
    · skip
      refine Ev_iconst (v := 0) dX7_leadsFrom_27 (by decide) ?_
      refine Ev_iret dX7_leadsFrom_28 rfl (by decide) ?_
      exact kf (fun z => c1 z.1)
    · skip
      refine Ev_aload_n dX7_leadsFrom_7 rfl ?_
      refine Ev_get dX7_leadsFrom_8 fg_X7_13_7 hS rfl ?_
      refine Ev_iload_n dX7_leadsFrom_11 rfl ?_
      refine Ev_icmp_eq dX7_leadsFrom_12 (fun c2 => ?_) (fun c2 => ?_)
      · skip
        refine Ev_iconst (v := 1) dX7_leadsFrom_23 (by decide) ?_
        refine Ev_goto dX7_leadsFrom_24 ?_
        refine Ev_iret dX7_leadsFrom_28 rfl (by decide) ?_
        exact kt ⟨c1, Or.inl c2⟩
      · skip
        refine Ev_aload_n dX7_leadsFrom_15 rfl ?_
        refine Ev_get dX7_leadsFrom_16 fg_X7_16_7 hS rfl ?_
        refine Ev_iload_n dX7_leadsFrom_19 rfl ?_
        refine Ev_icmp_ne dX7_leadsFrom_20 (fun c3 => ?_) (fun c3 => ?_)
        · skip
          refine Ev_iconst (v := 0) dX7_leadsFrom_27 (by decide) ?_
          refine Ev_iret dX7_leadsFrom_28 rfl (by decide) ?_
          exact kf (fun z => z.2.elim c2 c3)
        · skip
          refine Ev_iconst (v := 1) dX7_leadsFrom_23 (by decide) ?_
          refine Ev_goto dX7_leadsFrom_24 ?_
          refine Ev_iret dX7_leadsFrom_28 rfl (by decide) ?_
          exact kt ⟨c1, Or.inr c3⟩
  · skip
    refine Mth_of (by decide) rfl ?_
    refine Ev_aload_n dX7_leadsFrom_0 rfl ?_
    refine Ev_get dX7_leadsFrom_1 fg_X7_34_1 hS rfl ?_
    refine Ev_if_ne dX7_leadsFrom_4 (fun c1 => ?_) (fun c1 => ?_)
    · skip
      refine Ev_iconst (v := 0) dX7_leadsFrom_27 (by decide) ?_
      refine Ev_iret dX7_leadsFrom_28 rfl (by decide) ?_
      exact kf (fun z => c1 z.1)
    · skip
      refine Ev_aload_n dX7_leadsFrom_7 rfl ?_
      refine Ev_get dX7_leadsFrom_8 fg_X7_13_1 hS rfl ?_
      refine Ev_iload_n dX7_leadsFrom_11 rfl ?_
      refine Ev_icmp_eq dX7_leadsFrom_12 (fun c2 => ?_) (fun c2 => ?_)
      · skip
        refine Ev_iconst (v := 1) dX7_leadsFrom_23 (by decide) ?_
        refine Ev_goto dX7_leadsFrom_24 ?_
        refine Ev_iret dX7_leadsFrom_28 rfl (by decide) ?_
        exact kt ⟨c1, Or.inl c2⟩
      · skip
        refine Ev_aload_n dX7_leadsFrom_15 rfl ?_
        refine Ev_get dX7_leadsFrom_16 fg_X7_16_1 hS rfl ?_
        refine Ev_iload_n dX7_leadsFrom_19 rfl ?_
        refine Ev_icmp_ne dX7_leadsFrom_20 (fun c3 => ?_) (fun c3 => ?_)
        · skip
          refine Ev_iconst (v := 0) dX7_leadsFrom_27 (by decide) ?_
          refine Ev_iret dX7_leadsFrom_28 rfl (by decide) ?_
          exact kf (fun z => z.2.elim c2 c3)
        · skip
          refine Ev_iconst (v := 1) dX7_leadsFrom_23 (by decide) ?_
          refine Ev_goto dX7_leadsFrom_24 ?_
          refine Ev_iret dX7_leadsFrom_28 rfl (by decide) ?_
          exact kt ⟨c1, Or.inr c3⟩
  · skip
    refine Mth_of (by decide) rfl ?_
    refine Ev_aload_n dX7_leadsFrom_0 rfl ?_
    refine Ev_get dX7_leadsFrom_1 fg_X7_34_6 hS rfl ?_
    refine Ev_if_ne dX7_leadsFrom_4 (fun c1 => ?_) (fun c1 => ?_)
    · skip
      refine Ev_iconst (v := 0) dX7_leadsFrom_27 (by decide) ?_
      refine Ev_iret dX7_leadsFrom_28 rfl (by decide) ?_
      exact kf (fun z => c1 z.1)
    · skip
      refine Ev_aload_n dX7_leadsFrom_7 rfl ?_
      refine Ev_get dX7_leadsFrom_8 fg_X7_13_6 hS rfl ?_
      refine Ev_iload_n dX7_leadsFrom_11 rfl ?_
      refine Ev_icmp_eq dX7_leadsFrom_12 (fun c2 => ?_) (fun c2 => ?_)
      · skip
        refine Ev_iconst (v := 1) dX7_leadsFrom_23 (by decide) ?_
        refine Ev_goto dX7_leadsFrom_24 ?_
        refine Ev_iret dX7_leadsFrom_28 rfl (by decide) ?_
        exact kt ⟨c1, Or.inl c2⟩
      · skip
        refine Ev_aload_n dX7_leadsFrom_15 rfl ?_
        refine Ev_get dX7_leadsFrom_16 fg_X7_16_6 hS rfl ?_
        refine Ev_iload_n dX7_leadsFrom_19 rfl ?_
        refine Ev_icmp_ne dX7_leadsFrom_20 (fun c3 => ?_) (fun c3 => ?_)
        · skip
          refine Ev_iconst (v := 0) dX7_leadsFrom_27 (by decide) ?_
          refine Ev_iret dX7_leadsFrom_28 rfl (by decide) ?_
          exact kf (fun z => z.2.elim c2 c3)
        · skip
          refine Ev_iconst (v := 1) dX7_leadsFrom_23 (by decide) ?_
          refine Ev_goto dX7_leadsFrom_24 ?_
          refine Ev_iret dX7_leadsFrom_28 rfl (by decide) ?_
          exact kt ⟨c1, Or.inr c3⟩

set_option maxHeartbeats 4000000 in
set_option maxRecDepth 100000 in
theorem c_X7_otherEnd {d : Nat} {S : aS} {Q : Option Value → aS → Prop} {a ci : Nat} {nu o1 o2 lg sg dg mi te cl : Int32} (hS : S[a]? = some (.inr (ci, [.int nu, .int o1, .int o2, .int lg, .int sg, .int dg, .int mi, .int te, .int cl]))) (hci : ci = 7 ∨ ci = 1 ∨ ci = 6) {p : Int32} (k : Q (some (.int (if p = o1 then o2 else o1))) S) : Mth mX7_otherEnd d 0 [.ref a, .int p] S Q := by
  rcases hci with rfl | rfl | rfl
  · skip
    refine Mth_of (by decide) rfl ?_
    refine Ev_iload_n dX7_otherEnd_0 rfl ?_
    refine Ev_aload_n dX7_otherEnd_1 rfl ?_
    refine Ev_get dX7_otherEnd_2 fg_X7_13_7 hS rfl ?_
    refine Ev_icmp_ne dX7_otherEnd_5 (fun c1 => ?_) (fun c1 => ?_)
    · skip
      refine Ev_aload_n dX7_otherEnd_15 rfl ?_
      refine Ev_get dX7_otherEnd_16 fg_X7_13_7 hS rfl ?_
      refine Ev_iret dX7_otherEnd_19 rfl rfl ?_
      rw [if_neg c1] at k
      exact k
    · skip
      refine Ev_aload_n dX7_otherEnd_8 rfl ?_
      refine Ev_get dX7_otherEnd_9 fg_X7_16_7 hS rfl ?_
      refine Ev_goto dX7_otherEnd_12 ?_
      refine Ev_iret dX7_otherEnd_19 rfl rfl ?_
      rw [if_pos c1] at k
      exact k
  · skip
    refine Mth_of (by decide) rfl ?_
    refine Ev_iload_n dX7_otherEnd_0 rfl ?_
    refine Ev_aload_n dX7_otherEnd_1 rfl ?_
    refine Ev_get dX7_otherEnd_2 fg_X7_13_1 hS rfl ?_
    refine Ev_icmp_ne dX7_otherEnd_5 (fun c1 => ?_) (fun c1 => ?_)
    · skip
      refine Ev_aload_n dX7_otherEnd_15 rfl ?_
      refine Ev_get dX7_otherEnd_16 fg_X7_13_1 hS rfl ?_
      refine Ev_iret dX7_otherEnd_19 rfl rfl ?_
      rw [if_neg c1] at k
      exact k
    · skip
      refine Ev_aload_n dX7_otherEnd_8 rfl ?_
      refine Ev_get dX7_otherEnd_9 fg_X7_16_1 hS rfl ?_
      refine Ev_goto dX7_otherEnd_12 ?_
      refine Ev_iret dX7_otherEnd_19 rfl rfl ?_
      rw [if_pos c1] at k
      exact k
  · skip
    refine Mth_of (by decide) rfl ?_
    refine Ev_iload_n dX7_otherEnd_0 rfl ?_
    refine Ev_aload_n dX7_otherEnd_1 rfl ?_
    refine Ev_get dX7_otherEnd_2 fg_X7_13_6 hS rfl ?_
    refine Ev_icmp_ne dX7_otherEnd_5 (fun c1 => ?_) (fun c1 => ?_)
    · skip
      refine Ev_aload_n dX7_otherEnd_15 rfl ?_
      refine Ev_get dX7_otherEnd_16 fg_X7_13_6 hS rfl ?_
      refine Ev_iret dX7_otherEnd_19 rfl rfl ?_
      rw [if_neg c1] at k
      exact k
    · skip
      refine Ev_aload_n dX7_otherEnd_8 rfl ?_
      refine Ev_get dX7_otherEnd_9 fg_X7_16_6 hS rfl ?_
      refine Ev_goto dX7_otherEnd_12 ?_
      refine Ev_iret dX7_otherEnd_19 rfl rfl ?_
      rw [if_pos c1] at k
      exact k

set_option maxHeartbeats 4000000 in
set_option maxRecDepth 100000 in
theorem c_X7_kind {d : Nat} {S : aS} {Q : Option Value → aS → Prop} {a : Nat} {nu o1 o2 lg sg dg mi te cl : Int32} (hS : S[a]? = some (.inr (7, [.int nu, .int o1, .int o2, .int lg, .int sg, .int dg, .int mi, .int te, .int cl]))) (k : Q (some (.int 0)) S) : Mth mX7_kind d 0 [.ref a] S Q := by
  refine Mth_of (by decide) rfl ?_
  refine Ev_iconst (v := 0) dX7_kind_0 (by decide) ?_
  refine Ev_iret dX7_kind_1 rfl rfl ?_
  exact k

set_option maxHeartbeats 4000000 in
set_option maxRecDepth 100000 in
theorem c_X1_kind {d : Nat} {S : aS} {Q : Option Value → aS → Prop} {a : Nat} {nu o1 o2 lg sg dg mi te cl : Int32} (hS : S[a]? = some (.inr (1, [.int nu, .int o1, .int o2, .int lg, .int sg, .int dg, .int mi, .int te, .int cl]))) (k : Q (some (.int 1)) S) : Mth mX1_kind d 0 [.ref a] S Q := by
  refine Mth_of (by decide) rfl ?_
  refine Ev_iconst (v := 1) dX1_kind_0 (by decide) ?_
  refine Ev_iret dX1_kind_1 rfl rfl ?_
  exact k

set_option maxHeartbeats 4000000 in
set_option maxRecDepth 100000 in
theorem c_X6_kind {d : Nat} {S : aS} {Q : Option Value → aS → Prop} {a : Nat} {nu o1 o2 lg sg dg mi te cl : Int32} (hS : S[a]? = some (.inr (6, [.int nu, .int o1, .int o2, .int lg, .int sg, .int dg, .int mi, .int te, .int cl]))) (k : Q (some (.int 2)) S) : Mth mX6_kind d 0 [.ref a] S Q := by
  refine Mth_of (by decide) rfl ?_
  refine Ev_iconst (v := 2) dX6_kind_0 (by decide) ?_
  refine Ev_iret dX6_kind_1 rfl rfl ?_
  exact k

set_option maxHeartbeats 4000000 in
set_option maxRecDepth 100000 in
theorem c_X7_minutesAlone {d : Nat} {S : aS} {Q : Option Value → aS → Prop} {a : Nat} {nu o1 o2 lg sg dg mi te cl : Int32} (hS : S[a]? = some (.inr (7, [.int nu, .int o1, .int o2, .int lg, .int sg, .int dg, .int mi, .int te, .int cl]))) (k : Q (some (.int lg)) S) : Mth mX7_minutesAlone d 0 [.ref a] S Q := by
  refine Mth_of (by decide) rfl ?_
  refine Ev_aload_n dX7_minutesAlone_0 rfl ?_
  refine Ev_get dX7_minutesAlone_1 fg_X7_19_7 hS rfl ?_
  refine Ev_iret dX7_minutesAlone_4 rfl rfl ?_
  exact k

set_option maxHeartbeats 4000000 in
set_option maxRecDepth 100000 in
theorem c_X1_minutesAlone1 {d : Nat} {S : aS} {Q : Option Value → aS → Prop} {a : Nat} {nu o1 o2 lg sg dg mi te cl : Int32} (hS : S[a]? = some (.inr (1, [.int nu, .int o1, .int o2, .int lg, .int sg, .int dg, .int mi, .int te, .int cl]))) (k : Q (some (.int (lg + 1))) S) : Mth mX1_minutesAlone d 0 [.ref a] S Q := by
  refine Mth_of (by decide) rfl ?_
  refine Ev_aload_n dX1_minutesAlone_0 rfl ?_
  refine Ev_get dX1_minutesAlone_1 fg_X1_7_1 hS rfl ?_
  refine Ev_iconst (v := 1) dX1_minutesAlone_4 (by decide) ?_
  refine Ev_iadd dX1_minutesAlone_5 ?_
  refine Ev_iret dX1_minutesAlone_6 rfl rfl ?_
  exact k

set_option maxHeartbeats 4000000 in
set_option maxRecDepth 100000 in
theorem c_X1_minutesAlone6 {d : Nat} {S : aS} {Q : Option Value → aS → Prop} {a : Nat} {nu o1 o2 lg sg dg mi te cl : Int32} (hS : S[a]? = some (.inr (6, [.int nu, .int o1, .int o2, .int lg, .int sg, .int dg, .int mi, .int te, .int cl]))) (k : Q (some (.int (lg + 1))) S) : Mth mX1_minutesAlone d 0 [.ref a] S Q := by
  refine Mth_of (by decide) rfl ?_
  refine Ev_aload_n dX1_minutesAlone_0 rfl ?_
  refine Ev_get dX1_minutesAlone_1 fg_X1_7_6 hS rfl ?_
  refine Ev_iconst (v := 1) dX1_minutesAlone_4 (by decide) ?_
  refine Ev_iadd dX1_minutesAlone_5 ?_
  refine Ev_iret dX1_minutesAlone_6 rfl rfl ?_
  exact k

set_option maxHeartbeats 4000000 in
set_option maxRecDepth 100000 in
theorem c_X6_minutesAlone {d : Nat} {S : aS} {Q : Option Value → aS → Prop} {a : Nat} {nu o1 o2 lg sg dg mi te cl : Int32} (hS : S[a]? = some (.inr (6, [.int nu, .int o1, .int o2, .int lg, .int sg, .int dg, .int mi, .int te, .int cl]))) (k : Q (some (.int (2 * (lg + 1)))) S) : Mth mX6_minutesAlone (d + 1) 0 [.ref a] S Q := by
  refine Mth_of (by decide) rfl ?_
  refine Ev_iconst (v := 2) dX6_minutesAlone_0 (by decide) ?_
  refine Ev_aload_n dX6_minutesAlone_1 rfl ?_
  refine Ev_callU (bc := 0) (b := 0) dX6_minutesAlone_2 cu_X6_7 rfl hS (by decide) (Nat.le_of_ble_eq_true rfl) (by omega) ?_
  refine c_X1_minutesAlone6 hS ?_
  refine Ev_imul dX6_minutesAlone_5 ?_
  refine Ev_iret dX6_minutesAlone_6 rfl rfl ?_
  exact k

set_option maxHeartbeats 4000000 in
set_option maxRecDepth 100000 in
theorem c_X7_shareWith7_0 {d : Nat} {S : aS} {Q : Option Value → aS → Prop} {a : Nat} {nu o1 o2 lg sg dg mi te cl : Int32} (hS : S[a]? = some (.inr (7, [.int nu, .int o1, .int o2, .int lg, .int sg, .int dg, .int mi, .int te, .int cl]))) {p : Int32} (hs : ¬ (o1 ≤ p ∧ o2 ≤ p)) (k : Q none (S.set a (.inr (7, [.int nu, .int o1, .int o2, .int lg, .int sg, .int dg, .int (lg), .int (10 - dg), .int cl])))) : Mth mX7_shareWith (d + 2) 0 [.ref a, .int p] S Q := by
  refine Mth_of (by decide) rfl ?_
  refine Ev_aload_n dX7_shareWith_0 rfl ?_
  refine Ev_get dX7_shareWith_1 fg_X7_13_7 hS rfl ?_
  refine Ev_iload_n dX7_shareWith_4 rfl ?_
  refine Ev_icmp_gt dX7_shareWith_5 (fun c1 => ?_) (fun c1 => ?_)
  · skip
    refine Ev_iconst (v := 0) dX7_shareWith_20 (by decide) ?_
    refine Ev_istore_n dX7_shareWith_21 rfl ?_
    refine Ev_aload_n dX7_shareWith_22 rfl ?_
    refine Ev_iload_n dX7_shareWith_23 rfl ?_
    refine Ev_if_eq dX7_shareWith_24 (fun _ => ?_) (fun c => absurd (by decide) c)
    refine Ev_aload_n dX7_shareWith_36 rfl ?_
    refine Ev_callO (bc := 0) (b := 0) dX7_shareWith_37 co_X7_38_7 rfl hS (Nat.le_of_ble_eq_true rfl) (by omega) ?_
    refine c_X7_minutesAlone hS ?_
    refine Ev_put dX7_shareWith_40 fr_X7_28_7 hS rfl rfl rfl ?_
    refine Ev_aload_n dX7_shareWith_43 rfl ?_
    refine Ev_iload_n dX7_shareWith_44 rfl ?_
    refine Ev_if_eq dX7_shareWith_45 (fun _ => ?_) (fun c => absurd (by decide) c)
    refine Ev_bipush (v := 10) dX7_shareWith_53 (by decide) ?_
    refine Ev_aload_n dX7_shareWith_55 rfl ?_
    refine Ev_get dX7_shareWith_56 fg_X7_25_7 (gs hS) rfl ?_
    refine Ev_isub dX7_shareWith_59 ?_
    refine Ev_put dX7_shareWith_60 fr_X7_31_7 (gs hS) rfl rfl rfl ?_
    refine Ev_st gss ?_
    refine Ev_vret dX7_shareWith_63 rfl ?_
    exact k
  · skip
    refine Ev_aload_n dX7_shareWith_8 rfl ?_
    refine Ev_get dX7_shareWith_9 fg_X7_16_7 hS rfl ?_
    refine Ev_iload_n dX7_shareWith_12 rfl ?_
    refine Ev_icmp_gt dX7_shareWith_13 (fun c2 => ?_) (fun c2 => ?_)
    · skip
      refine Ev_iconst (v := 0) dX7_shareWith_20 (by decide) ?_
      refine Ev_istore_n dX7_shareWith_21 rfl ?_
      refine Ev_aload_n dX7_shareWith_22 rfl ?_
      refine Ev_iload_n dX7_shareWith_23 rfl ?_
      refine Ev_if_eq dX7_shareWith_24 (fun _ => ?_) (fun c => absurd (by decide) c)
      refine Ev_aload_n dX7_shareWith_36 rfl ?_
      refine Ev_callO (bc := 0) (b := 0) dX7_shareWith_37 co_X7_38_7 rfl hS (Nat.le_of_ble_eq_true rfl) (by omega) ?_
      refine c_X7_minutesAlone hS ?_
      refine Ev_put dX7_shareWith_40 fr_X7_28_7 hS rfl rfl rfl ?_
      refine Ev_aload_n dX7_shareWith_43 rfl ?_
      refine Ev_iload_n dX7_shareWith_44 rfl ?_
      refine Ev_if_eq dX7_shareWith_45 (fun _ => ?_) (fun c => absurd (by decide) c)
      refine Ev_bipush (v := 10) dX7_shareWith_53 (by decide) ?_
      refine Ev_aload_n dX7_shareWith_55 rfl ?_
      refine Ev_get dX7_shareWith_56 fg_X7_25_7 (gs hS) rfl ?_
      refine Ev_isub dX7_shareWith_59 ?_
      refine Ev_put dX7_shareWith_60 fr_X7_31_7 (gs hS) rfl rfl rfl ?_
      refine Ev_st gss ?_
      refine Ev_vret dX7_shareWith_63 rfl ?_
      exact k
    · skip
      exact absurd ⟨by rw [xle]; rw [xlt] at c1; omega, by rw [xle]; rw [xlt] at c2; omega⟩ hs

set_option maxHeartbeats 4000000 in
set_option maxRecDepth 100000 in
theorem c_X7_shareWith7_1 {d : Nat} {S : aS} {Q : Option Value → aS → Prop} {a : Nat} {nu o1 o2 lg sg dg mi te cl : Int32} (hS : S[a]? = some (.inr (7, [.int nu, .int o1, .int o2, .int lg, .int sg, .int dg, .int mi, .int te, .int cl]))) {p : Int32} (hs1 : o1 ≤ p) (hs2 : o2 ≤ p) (k : Q none (S.set a (.inr (7, [.int nu, .int o1, .int o2, .int lg, .int sg, .int dg, .int (lg + 1), .int (10), .int cl])))) : Mth mX7_shareWith (d + 2) 0 [.ref a, .int p] S Q := by
  refine Mth_of (by decide) rfl ?_
  refine Ev_aload_n dX7_shareWith_0 rfl ?_
  refine Ev_get dX7_shareWith_1 fg_X7_13_7 hS rfl ?_
  refine Ev_iload_n dX7_shareWith_4 rfl ?_
  refine Ev_icmp_gt dX7_shareWith_5 (fun c => absurd c (by rw [xlt]; rw [xle] at hs1; omega)) (fun _ => ?_)
  refine Ev_aload_n dX7_shareWith_8 rfl ?_
  refine Ev_get dX7_shareWith_9 fg_X7_16_7 hS rfl ?_
  refine Ev_iload_n dX7_shareWith_12 rfl ?_
  refine Ev_icmp_gt dX7_shareWith_13 (fun c => absurd c (by rw [xlt]; rw [xle] at hs2; omega)) (fun _ => ?_)
  refine Ev_iconst (v := 1) dX7_shareWith_16 (by decide) ?_
  refine Ev_goto dX7_shareWith_17 ?_
  refine Ev_istore_n dX7_shareWith_21 rfl ?_
  refine Ev_aload_n dX7_shareWith_22 rfl ?_
  refine Ev_iload_n dX7_shareWith_23 rfl ?_
  refine Ev_if_eq dX7_shareWith_24 (fun c => absurd c (by decide)) (fun _ => ?_)
  refine Ev_aload_n dX7_shareWith_27 rfl ?_
  refine Ev_callO (bc := 0) (b := 0) dX7_shareWith_28 co_X7_38_7 rfl hS (Nat.le_of_ble_eq_true rfl) (by omega) ?_
  refine c_X7_minutesAlone hS ?_
  refine Ev_iconst (v := 1) dX7_shareWith_31 (by decide) ?_
  refine Ev_iadd dX7_shareWith_32 ?_
  refine Ev_goto dX7_shareWith_33 ?_
  refine Ev_put dX7_shareWith_40 fr_X7_28_7 hS rfl rfl rfl ?_
  refine Ev_aload_n dX7_shareWith_43 rfl ?_
  refine Ev_iload_n dX7_shareWith_44 rfl ?_
  refine Ev_if_eq dX7_shareWith_45 (fun c => absurd c (by decide)) (fun _ => ?_)
  refine Ev_bipush (v := 10) dX7_shareWith_48 (by decide) ?_
  refine Ev_goto dX7_shareWith_50 ?_
  refine Ev_put dX7_shareWith_60 fr_X7_31_7 (gs hS) rfl rfl rfl ?_
  refine Ev_st gss ?_
  refine Ev_vret dX7_shareWith_63 rfl ?_
  exact k

set_option maxHeartbeats 4000000 in
set_option maxRecDepth 100000 in
theorem c_X7_shareWith1_0 {d : Nat} {S : aS} {Q : Option Value → aS → Prop} {a : Nat} {nu o1 o2 lg sg dg mi te cl : Int32} (hS : S[a]? = some (.inr (1, [.int nu, .int o1, .int o2, .int lg, .int sg, .int dg, .int mi, .int te, .int cl]))) {p : Int32} (hs : ¬ (o1 ≤ p ∧ o2 ≤ p)) (k : Q none (S.set a (.inr (1, [.int nu, .int o1, .int o2, .int lg, .int sg, .int dg, .int ((lg + 1)), .int (10 - dg), .int cl])))) : Mth mX7_shareWith (d + 2) 0 [.ref a, .int p] S Q := by
  refine Mth_of (by decide) rfl ?_
  refine Ev_aload_n dX7_shareWith_0 rfl ?_
  refine Ev_get dX7_shareWith_1 fg_X7_13_1 hS rfl ?_
  refine Ev_iload_n dX7_shareWith_4 rfl ?_
  refine Ev_icmp_gt dX7_shareWith_5 (fun c1 => ?_) (fun c1 => ?_)
  · skip
    refine Ev_iconst (v := 0) dX7_shareWith_20 (by decide) ?_
    refine Ev_istore_n dX7_shareWith_21 rfl ?_
    refine Ev_aload_n dX7_shareWith_22 rfl ?_
    refine Ev_iload_n dX7_shareWith_23 rfl ?_
    refine Ev_if_eq dX7_shareWith_24 (fun _ => ?_) (fun c => absurd (by decide) c)
    refine Ev_aload_n dX7_shareWith_36 rfl ?_
    refine Ev_callO (bc := 0) (b := 0) dX7_shareWith_37 co_X7_38_1 rfl hS (Nat.le_of_ble_eq_true rfl) (by omega) ?_
    refine c_X1_minutesAlone1 hS ?_
    refine Ev_put dX7_shareWith_40 fr_X7_28_1 hS rfl rfl rfl ?_
    refine Ev_aload_n dX7_shareWith_43 rfl ?_
    refine Ev_iload_n dX7_shareWith_44 rfl ?_
    refine Ev_if_eq dX7_shareWith_45 (fun _ => ?_) (fun c => absurd (by decide) c)
    refine Ev_bipush (v := 10) dX7_shareWith_53 (by decide) ?_
    refine Ev_aload_n dX7_shareWith_55 rfl ?_
    refine Ev_get dX7_shareWith_56 fg_X7_25_1 (gs hS) rfl ?_
    refine Ev_isub dX7_shareWith_59 ?_
    refine Ev_put dX7_shareWith_60 fr_X7_31_1 (gs hS) rfl rfl rfl ?_
    refine Ev_st gss ?_
    refine Ev_vret dX7_shareWith_63 rfl ?_
    exact k
  · skip
    refine Ev_aload_n dX7_shareWith_8 rfl ?_
    refine Ev_get dX7_shareWith_9 fg_X7_16_1 hS rfl ?_
    refine Ev_iload_n dX7_shareWith_12 rfl ?_
    refine Ev_icmp_gt dX7_shareWith_13 (fun c2 => ?_) (fun c2 => ?_)
    · skip
      refine Ev_iconst (v := 0) dX7_shareWith_20 (by decide) ?_
      refine Ev_istore_n dX7_shareWith_21 rfl ?_
      refine Ev_aload_n dX7_shareWith_22 rfl ?_
      refine Ev_iload_n dX7_shareWith_23 rfl ?_
      refine Ev_if_eq dX7_shareWith_24 (fun _ => ?_) (fun c => absurd (by decide) c)
      refine Ev_aload_n dX7_shareWith_36 rfl ?_
      refine Ev_callO (bc := 0) (b := 0) dX7_shareWith_37 co_X7_38_1 rfl hS (Nat.le_of_ble_eq_true rfl) (by omega) ?_
      refine c_X1_minutesAlone1 hS ?_
      refine Ev_put dX7_shareWith_40 fr_X7_28_1 hS rfl rfl rfl ?_
      refine Ev_aload_n dX7_shareWith_43 rfl ?_
      refine Ev_iload_n dX7_shareWith_44 rfl ?_
      refine Ev_if_eq dX7_shareWith_45 (fun _ => ?_) (fun c => absurd (by decide) c)
      refine Ev_bipush (v := 10) dX7_shareWith_53 (by decide) ?_
      refine Ev_aload_n dX7_shareWith_55 rfl ?_
      refine Ev_get dX7_shareWith_56 fg_X7_25_1 (gs hS) rfl ?_
      refine Ev_isub dX7_shareWith_59 ?_
      refine Ev_put dX7_shareWith_60 fr_X7_31_1 (gs hS) rfl rfl rfl ?_
      refine Ev_st gss ?_
      refine Ev_vret dX7_shareWith_63 rfl ?_
      exact k
    · skip
      exact absurd ⟨by rw [xle]; rw [xlt] at c1; omega, by rw [xle]; rw [xlt] at c2; omega⟩ hs

set_option maxHeartbeats 4000000 in
set_option maxRecDepth 100000 in
theorem c_X7_shareWith1_1 {d : Nat} {S : aS} {Q : Option Value → aS → Prop} {a : Nat} {nu o1 o2 lg sg dg mi te cl : Int32} (hS : S[a]? = some (.inr (1, [.int nu, .int o1, .int o2, .int lg, .int sg, .int dg, .int mi, .int te, .int cl]))) {p : Int32} (hs1 : o1 ≤ p) (hs2 : o2 ≤ p) (k : Q none (S.set a (.inr (1, [.int nu, .int o1, .int o2, .int lg, .int sg, .int dg, .int ((lg + 1) + 1), .int (10), .int cl])))) : Mth mX7_shareWith (d + 2) 0 [.ref a, .int p] S Q := by
  refine Mth_of (by decide) rfl ?_
  refine Ev_aload_n dX7_shareWith_0 rfl ?_
  refine Ev_get dX7_shareWith_1 fg_X7_13_1 hS rfl ?_
  refine Ev_iload_n dX7_shareWith_4 rfl ?_
  refine Ev_icmp_gt dX7_shareWith_5 (fun c => absurd c (by rw [xlt]; rw [xle] at hs1; omega)) (fun _ => ?_)
  refine Ev_aload_n dX7_shareWith_8 rfl ?_
  refine Ev_get dX7_shareWith_9 fg_X7_16_1 hS rfl ?_
  refine Ev_iload_n dX7_shareWith_12 rfl ?_
  refine Ev_icmp_gt dX7_shareWith_13 (fun c => absurd c (by rw [xlt]; rw [xle] at hs2; omega)) (fun _ => ?_)
  refine Ev_iconst (v := 1) dX7_shareWith_16 (by decide) ?_
  refine Ev_goto dX7_shareWith_17 ?_
  refine Ev_istore_n dX7_shareWith_21 rfl ?_
  refine Ev_aload_n dX7_shareWith_22 rfl ?_
  refine Ev_iload_n dX7_shareWith_23 rfl ?_
  refine Ev_if_eq dX7_shareWith_24 (fun c => absurd c (by decide)) (fun _ => ?_)
  refine Ev_aload_n dX7_shareWith_27 rfl ?_
  refine Ev_callO (bc := 0) (b := 0) dX7_shareWith_28 co_X7_38_1 rfl hS (Nat.le_of_ble_eq_true rfl) (by omega) ?_
  refine c_X1_minutesAlone1 hS ?_
  refine Ev_iconst (v := 1) dX7_shareWith_31 (by decide) ?_
  refine Ev_iadd dX7_shareWith_32 ?_
  refine Ev_goto dX7_shareWith_33 ?_
  refine Ev_put dX7_shareWith_40 fr_X7_28_1 hS rfl rfl rfl ?_
  refine Ev_aload_n dX7_shareWith_43 rfl ?_
  refine Ev_iload_n dX7_shareWith_44 rfl ?_
  refine Ev_if_eq dX7_shareWith_45 (fun c => absurd c (by decide)) (fun _ => ?_)
  refine Ev_bipush (v := 10) dX7_shareWith_48 (by decide) ?_
  refine Ev_goto dX7_shareWith_50 ?_
  refine Ev_put dX7_shareWith_60 fr_X7_31_1 (gs hS) rfl rfl rfl ?_
  refine Ev_st gss ?_
  refine Ev_vret dX7_shareWith_63 rfl ?_
  exact k

set_option maxHeartbeats 4000000 in
set_option maxRecDepth 100000 in
theorem c_X7_shareWith6_0 {d : Nat} {S : aS} {Q : Option Value → aS → Prop} {a : Nat} {nu o1 o2 lg sg dg mi te cl : Int32} (hS : S[a]? = some (.inr (6, [.int nu, .int o1, .int o2, .int lg, .int sg, .int dg, .int mi, .int te, .int cl]))) {p : Int32} (hs : ¬ (o1 ≤ p ∧ o2 ≤ p)) (k : Q none (S.set a (.inr (6, [.int nu, .int o1, .int o2, .int lg, .int sg, .int dg, .int ((2 * (lg + 1))), .int (10 - dg), .int cl])))) : Mth mX7_shareWith (d + 2) 0 [.ref a, .int p] S Q := by
  refine Mth_of (by decide) rfl ?_
  refine Ev_aload_n dX7_shareWith_0 rfl ?_
  refine Ev_get dX7_shareWith_1 fg_X7_13_6 hS rfl ?_
  refine Ev_iload_n dX7_shareWith_4 rfl ?_
  refine Ev_icmp_gt dX7_shareWith_5 (fun c1 => ?_) (fun c1 => ?_)
  · skip
    refine Ev_iconst (v := 0) dX7_shareWith_20 (by decide) ?_
    refine Ev_istore_n dX7_shareWith_21 rfl ?_
    refine Ev_aload_n dX7_shareWith_22 rfl ?_
    refine Ev_iload_n dX7_shareWith_23 rfl ?_
    refine Ev_if_eq dX7_shareWith_24 (fun _ => ?_) (fun c => absurd (by decide) c)
    refine Ev_aload_n dX7_shareWith_36 rfl ?_
    refine Ev_callO (bc := 0) (b := 0) dX7_shareWith_37 co_X7_38_6 rfl hS (Nat.le_of_ble_eq_true rfl) (by omega) ?_
    refine c_X6_minutesAlone hS ?_
    refine Ev_put dX7_shareWith_40 fr_X7_28_6 hS rfl rfl rfl ?_
    refine Ev_aload_n dX7_shareWith_43 rfl ?_
    refine Ev_iload_n dX7_shareWith_44 rfl ?_
    refine Ev_if_eq dX7_shareWith_45 (fun _ => ?_) (fun c => absurd (by decide) c)
    refine Ev_bipush (v := 10) dX7_shareWith_53 (by decide) ?_
    refine Ev_aload_n dX7_shareWith_55 rfl ?_
    refine Ev_get dX7_shareWith_56 fg_X7_25_6 (gs hS) rfl ?_
    refine Ev_isub dX7_shareWith_59 ?_
    refine Ev_put dX7_shareWith_60 fr_X7_31_6 (gs hS) rfl rfl rfl ?_
    refine Ev_st gss ?_
    refine Ev_vret dX7_shareWith_63 rfl ?_
    exact k
  · skip
    refine Ev_aload_n dX7_shareWith_8 rfl ?_
    refine Ev_get dX7_shareWith_9 fg_X7_16_6 hS rfl ?_
    refine Ev_iload_n dX7_shareWith_12 rfl ?_
    refine Ev_icmp_gt dX7_shareWith_13 (fun c2 => ?_) (fun c2 => ?_)
    · skip
      refine Ev_iconst (v := 0) dX7_shareWith_20 (by decide) ?_
      refine Ev_istore_n dX7_shareWith_21 rfl ?_
      refine Ev_aload_n dX7_shareWith_22 rfl ?_
      refine Ev_iload_n dX7_shareWith_23 rfl ?_
      refine Ev_if_eq dX7_shareWith_24 (fun _ => ?_) (fun c => absurd (by decide) c)
      refine Ev_aload_n dX7_shareWith_36 rfl ?_
      refine Ev_callO (bc := 0) (b := 0) dX7_shareWith_37 co_X7_38_6 rfl hS (Nat.le_of_ble_eq_true rfl) (by omega) ?_
      refine c_X6_minutesAlone hS ?_
      refine Ev_put dX7_shareWith_40 fr_X7_28_6 hS rfl rfl rfl ?_
      refine Ev_aload_n dX7_shareWith_43 rfl ?_
      refine Ev_iload_n dX7_shareWith_44 rfl ?_
      refine Ev_if_eq dX7_shareWith_45 (fun _ => ?_) (fun c => absurd (by decide) c)
      refine Ev_bipush (v := 10) dX7_shareWith_53 (by decide) ?_
      refine Ev_aload_n dX7_shareWith_55 rfl ?_
      refine Ev_get dX7_shareWith_56 fg_X7_25_6 (gs hS) rfl ?_
      refine Ev_isub dX7_shareWith_59 ?_
      refine Ev_put dX7_shareWith_60 fr_X7_31_6 (gs hS) rfl rfl rfl ?_
      refine Ev_st gss ?_
      refine Ev_vret dX7_shareWith_63 rfl ?_
      exact k
    · skip
      exact absurd ⟨by rw [xle]; rw [xlt] at c1; omega, by rw [xle]; rw [xlt] at c2; omega⟩ hs

set_option maxHeartbeats 4000000 in
set_option maxRecDepth 100000 in
theorem c_X7_shareWith6_1 {d : Nat} {S : aS} {Q : Option Value → aS → Prop} {a : Nat} {nu o1 o2 lg sg dg mi te cl : Int32} (hS : S[a]? = some (.inr (6, [.int nu, .int o1, .int o2, .int lg, .int sg, .int dg, .int mi, .int te, .int cl]))) {p : Int32} (hs1 : o1 ≤ p) (hs2 : o2 ≤ p) (k : Q none (S.set a (.inr (6, [.int nu, .int o1, .int o2, .int lg, .int sg, .int dg, .int ((2 * (lg + 1)) + 1), .int (10), .int cl])))) : Mth mX7_shareWith (d + 2) 0 [.ref a, .int p] S Q := by
  refine Mth_of (by decide) rfl ?_
  refine Ev_aload_n dX7_shareWith_0 rfl ?_
  refine Ev_get dX7_shareWith_1 fg_X7_13_6 hS rfl ?_
  refine Ev_iload_n dX7_shareWith_4 rfl ?_
  refine Ev_icmp_gt dX7_shareWith_5 (fun c => absurd c (by rw [xlt]; rw [xle] at hs1; omega)) (fun _ => ?_)
  refine Ev_aload_n dX7_shareWith_8 rfl ?_
  refine Ev_get dX7_shareWith_9 fg_X7_16_6 hS rfl ?_
  refine Ev_iload_n dX7_shareWith_12 rfl ?_
  refine Ev_icmp_gt dX7_shareWith_13 (fun c => absurd c (by rw [xlt]; rw [xle] at hs2; omega)) (fun _ => ?_)
  refine Ev_iconst (v := 1) dX7_shareWith_16 (by decide) ?_
  refine Ev_goto dX7_shareWith_17 ?_
  refine Ev_istore_n dX7_shareWith_21 rfl ?_
  refine Ev_aload_n dX7_shareWith_22 rfl ?_
  refine Ev_iload_n dX7_shareWith_23 rfl ?_
  refine Ev_if_eq dX7_shareWith_24 (fun c => absurd c (by decide)) (fun _ => ?_)
  refine Ev_aload_n dX7_shareWith_27 rfl ?_
  refine Ev_callO (bc := 0) (b := 0) dX7_shareWith_28 co_X7_38_6 rfl hS (Nat.le_of_ble_eq_true rfl) (by omega) ?_
  refine c_X6_minutesAlone hS ?_
  refine Ev_iconst (v := 1) dX7_shareWith_31 (by decide) ?_
  refine Ev_iadd dX7_shareWith_32 ?_
  refine Ev_goto dX7_shareWith_33 ?_
  refine Ev_put dX7_shareWith_40 fr_X7_28_6 hS rfl rfl rfl ?_
  refine Ev_aload_n dX7_shareWith_43 rfl ?_
  refine Ev_iload_n dX7_shareWith_44 rfl ?_
  refine Ev_if_eq dX7_shareWith_45 (fun c => absurd c (by decide)) (fun _ => ?_)
  refine Ev_bipush (v := 10) dX7_shareWith_48 (by decide) ?_
  refine Ev_goto dX7_shareWith_50 ?_
  refine Ev_put dX7_shareWith_60 fr_X7_31_6 (gs hS) rfl rfl rfl ?_
  refine Ev_st gss ?_
  refine Ev_vret dX7_shareWith_63 rfl ?_
  exact k

set_option maxHeartbeats 4000000 in
set_option maxRecDepth 100000 in
theorem c_X7_toldAsStretch {d : Nat} {S : aS} {Q : Option Value → aS → Prop} {tr : Int32} (hT : S[30]? = some (.inr (9, [.int tr]))) {a ci : Nat} {nu o1 o2 lg sg dg mi te cl : Int32} (hS : S[a]? = some (.inr (ci, [.int nu, .int o1, .int o2, .int lg, .int sg, .int dg, .int mi, .int te, .int cl]))) (hci : ci = 7 ∨ ci = 1 ∨ ci = 6) (hne : 30 ≠ a) (k : Q (some (.int lg)) (S.set 30 (.inr (9, [.int (31 * tr + 1)])))) : Mth mX7_toldAsStretch (d + 1) 0 [.ref a, .ref 30] S Q := by
  rcases hci with rfl | rfl | rfl
  · skip
    refine Mth_of (by decide) rfl ?_
    refine Ev_aload_n dX7_toldAsStretch_0 rfl ?_
    refine Ev_iconst (v := 1) dX7_toldAsStretch_1 (by decide) ?_
    refine Ev_callV (bc := 0) (b := 0) dX7_toldAsStretch_2 cv_X7_46 rfl hT (Nat.le_of_ble_eq_true rfl) (by omega) ?_
    refine c_X9_leave hT ?_
    refine Ev_aload_n dX7_toldAsStretch_5 rfl ?_
    refine Ev_get dX7_toldAsStretch_6 fg_X7_19_7 (gn hne hS) rfl ?_
    refine Ev_iret dX7_toldAsStretch_9 rfl rfl ?_
    exact k
  · skip
    refine Mth_of (by decide) rfl ?_
    refine Ev_aload_n dX7_toldAsStretch_0 rfl ?_
    refine Ev_iconst (v := 1) dX7_toldAsStretch_1 (by decide) ?_
    refine Ev_callV (bc := 0) (b := 0) dX7_toldAsStretch_2 cv_X7_46 rfl hT (Nat.le_of_ble_eq_true rfl) (by omega) ?_
    refine c_X9_leave hT ?_
    refine Ev_aload_n dX7_toldAsStretch_5 rfl ?_
    refine Ev_get dX7_toldAsStretch_6 fg_X7_19_1 (gn hne hS) rfl ?_
    refine Ev_iret dX7_toldAsStretch_9 rfl rfl ?_
    exact k
  · skip
    refine Mth_of (by decide) rfl ?_
    refine Ev_aload_n dX7_toldAsStretch_0 rfl ?_
    refine Ev_iconst (v := 1) dX7_toldAsStretch_1 (by decide) ?_
    refine Ev_callV (bc := 0) (b := 0) dX7_toldAsStretch_2 cv_X7_46 rfl hT (Nat.le_of_ble_eq_true rfl) (by omega) ?_
    refine c_X9_leave hT ?_
    refine Ev_aload_n dX7_toldAsStretch_5 rfl ?_
    refine Ev_get dX7_toldAsStretch_6 fg_X7_19_6 (gn hne hS) rfl ?_
    refine Ev_iret dX7_toldAsStretch_9 rfl rfl ?_
    exact k

set_option maxHeartbeats 4000000 in
set_option maxRecDepth 100000 in
theorem c_X7_toldWith {d : Nat} {S : aS} {Q : Option Value → aS → Prop} {tr : Int32} (hT : S[30]? = some (.inr (9, [.int tr]))) {a ci : Nat} {nu o1 o2 lg sg dg mi te cl : Int32} (hS : S[a]? = some (.inr (ci, [.int nu, .int o1, .int o2, .int lg, .int sg, .int dg, .int mi, .int te, .int cl]))) (hci : ci = 7 ∨ ci = 1 ∨ ci = 6) (hne : 30 ≠ a) (k : Q (some (.int lg)) (S.set 30 (.inr (9, [.int (31 * tr + 1)])))) : Mth mX7_toldWith (d + 2) 0 [.ref a, .ref 30] S Q := by
  rcases hci with rfl | rfl | rfl
  · skip
    refine Mth_of (by decide) rfl ?_
    refine Ev_aload_n dX7_toldWith_0 rfl ?_
    refine Ev_aload_n dX7_toldWith_1 rfl ?_
    refine Ev_callO (bc := 0) (b := 0) dX7_toldWith_2 co_X7_42_7 rfl hS (Nat.le_of_ble_eq_true rfl) (by omega) ?_
    refine c_X7_toldAsStretch hT hS (Or.inl rfl) hne ?_
    refine Ev_iret dX7_toldWith_5 rfl rfl ?_
    exact k
  · skip
    refine Mth_of (by decide) rfl ?_
    refine Ev_aload_n dX7_toldWith_0 rfl ?_
    refine Ev_aload_n dX7_toldWith_1 rfl ?_
    refine Ev_callO (bc := 0) (b := 0) dX7_toldWith_2 co_X7_42_1 rfl hS (Nat.le_of_ble_eq_true rfl) (by omega) ?_
    refine c_X7_toldAsStretch hT hS (Or.inr (Or.inl rfl)) hne ?_
    refine Ev_iret dX7_toldWith_5 rfl rfl ?_
    exact k
  · skip
    refine Mth_of (by decide) rfl ?_
    refine Ev_aload_n dX7_toldWith_0 rfl ?_
    refine Ev_aload_n dX7_toldWith_1 rfl ?_
    refine Ev_callO (bc := 0) (b := 0) dX7_toldWith_2 co_X7_42_6 rfl hS (Nat.le_of_ble_eq_true rfl) (by omega) ?_
    refine c_X7_toldAsStretch hT hS (Or.inr (Or.inr rfl)) hne ?_
    refine Ev_iret dX7_toldWith_5 rfl rfl ?_
    exact k

set_option maxHeartbeats 4000000 in
set_option maxRecDepth 100000 in
theorem c_X1_toldWith1 {d : Nat} {S : aS} {Q : Option Value → aS → Prop} {tr : Int32} (hT : S[30]? = some (.inr (9, [.int tr]))) {a : Nat} {nu o1 o2 lg sg dg mi te cl : Int32} (hS : S[a]? = some (.inr (1, [.int nu, .int o1, .int o2, .int lg, .int sg, .int dg, .int mi, .int te, .int cl]))) (hne : 30 ≠ a) (k : Q (some (.int (lg + 100))) (S.set 30 (.inr (9, [.int (31 * (31 * tr + 2) + 1)])))) : Mth mX1_toldWith (d + 3) 0 [.ref a, .ref 30] S Q := by
  refine Mth_of (by decide) rfl ?_
  refine Ev_aload_n dX1_toldWith_0 rfl ?_
  refine Ev_iconst (v := 2) dX1_toldWith_1 (by decide) ?_
  refine Ev_callV (bc := 0) (b := 0) dX1_toldWith_2 cv_X1_13 rfl hT (Nat.le_of_ble_eq_true rfl) (by omega) ?_
  refine c_X9_leave hT ?_
  refine Ev_aload_n dX1_toldWith_5 rfl ?_
  refine Ev_aload_n dX1_toldWith_6 rfl ?_
  refine Ev_callU (bc := 0) (b := 0) dX1_toldWith_7 cu_X1_19 rfl (gn hne hS) (by decide) (Nat.le_of_ble_eq_true rfl) (by omega) ?_
  refine c_X7_toldWith (gs hT) (gn hne hS) (Or.inr (Or.inl rfl)) hne ?_
  refine Ev_st gss ?_
  refine Ev_bipush (v := 100) dX1_toldWith_10 (by decide) ?_
  refine Ev_iadd dX1_toldWith_12 ?_
  refine Ev_iret dX1_toldWith_13 rfl rfl ?_
  exact k

set_option maxHeartbeats 4000000 in
set_option maxRecDepth 100000 in
theorem c_X1_toldWith6 {d : Nat} {S : aS} {Q : Option Value → aS → Prop} {tr : Int32} (hT : S[30]? = some (.inr (9, [.int tr]))) {a : Nat} {nu o1 o2 lg sg dg mi te cl : Int32} (hS : S[a]? = some (.inr (6, [.int nu, .int o1, .int o2, .int lg, .int sg, .int dg, .int mi, .int te, .int cl]))) (hne : 30 ≠ a) (k : Q (some (.int (lg + 100))) (S.set 30 (.inr (9, [.int (31 * (31 * tr + 2) + 1)])))) : Mth mX1_toldWith (d + 3) 0 [.ref a, .ref 30] S Q := by
  refine Mth_of (by decide) rfl ?_
  refine Ev_aload_n dX1_toldWith_0 rfl ?_
  refine Ev_iconst (v := 2) dX1_toldWith_1 (by decide) ?_
  refine Ev_callV (bc := 0) (b := 0) dX1_toldWith_2 cv_X1_13 rfl hT (Nat.le_of_ble_eq_true rfl) (by omega) ?_
  refine c_X9_leave hT ?_
  refine Ev_aload_n dX1_toldWith_5 rfl ?_
  refine Ev_aload_n dX1_toldWith_6 rfl ?_
  refine Ev_callU (bc := 0) (b := 0) dX1_toldWith_7 cu_X1_19 rfl (gn hne hS) (by decide) (Nat.le_of_ble_eq_true rfl) (by omega) ?_
  refine c_X7_toldWith (gs hT) (gn hne hS) (Or.inr (Or.inr rfl)) hne ?_
  refine Ev_st gss ?_
  refine Ev_bipush (v := 100) dX1_toldWith_10 (by decide) ?_
  refine Ev_iadd dX1_toldWith_12 ?_
  refine Ev_iret dX1_toldWith_13 rfl rfl ?_
  exact k

set_option maxHeartbeats 4000000 in
set_option maxRecDepth 100000 in
theorem c_X6_toldWith {d : Nat} {S : aS} {Q : Option Value → aS → Prop} {tr : Int32} (hT : S[30]? = some (.inr (9, [.int tr]))) {a : Nat} {nu o1 o2 lg sg dg mi te cl : Int32} (hS : S[a]? = some (.inr (6, [.int nu, .int o1, .int o2, .int lg, .int sg, .int dg, .int mi, .int te, .int cl]))) (hne : 30 ≠ a) (k : Q (some (.int (lg + 100 + lg))) (S.set 30 (.inr (9, [.int (31 * (31 * (31 * (31 * tr + 3) + 2) + 1) + 1)])))) : Mth mX6_toldWith (d + 4) 0 [.ref a, .ref 30] S Q := by
  refine Mth_of (by decide) rfl ?_
  refine Ev_aload_n dX6_toldWith_0 rfl ?_
  refine Ev_iconst (v := 3) dX6_toldWith_1 (by decide) ?_
  refine Ev_callV (bc := 0) (b := 0) dX6_toldWith_2 cv_X6_11 rfl hT (Nat.le_of_ble_eq_true rfl) (by omega) ?_
  refine c_X9_leave hT ?_
  refine Ev_aload_n dX6_toldWith_5 rfl ?_
  refine Ev_aload_n dX6_toldWith_6 rfl ?_
  refine Ev_callU (bc := 0) (b := 0) dX6_toldWith_7 cu_X6_17 rfl (gn hne hS) (by decide) (Nat.le_of_ble_eq_true rfl) (by omega) ?_
  refine c_X1_toldWith6 (gs hT) (gn hne hS) hne ?_
  refine Ev_st gss ?_
  refine Ev_istore_n dX6_toldWith_10 rfl ?_
  refine Ev_iload_n dX6_toldWith_11 rfl ?_
  refine Ev_aload_n dX6_toldWith_12 rfl ?_
  refine Ev_aload_n dX6_toldWith_13 rfl ?_
  refine Ev_callO (bc := 0) (b := 0) dX6_toldWith_14 co_X6_21_6 rfl (gn hne hS) (Nat.le_of_ble_eq_true rfl) (by omega) ?_
  refine c_X7_toldAsStretch (gs hT) (gn hne hS) (Or.inr (Or.inr rfl)) hne ?_
  refine Ev_st gss ?_
  refine Ev_iadd dX6_toldWith_17 ?_
  refine Ev_iret dX6_toldWith_18 rfl rfl ?_
  exact k

set_option maxHeartbeats 4000000 in
set_option maxRecDepth 100000 in
theorem c_X7_sungWith7 {d : Nat} {S : aS} {Q : Option Value → aS → Prop} {tr : Int32} (hT : S[30]? = some (.inr (9, [.int tr]))) {a : Nat} {nu o1 o2 lg sg dg mi te cl : Int32} (hS : S[a]? = some (.inr (7, [.int nu, .int o1, .int o2, .int lg, .int sg, .int dg, .int mi, .int te, .int cl]))) (hne : 30 ≠ a) (k : Q (some (.int nu)) (S.set 30 (.inr (9, [.int (31 * tr + 4)])))) : Mth mX7_sungWith (d + 1) 0 [.ref a, .ref 30] S Q := by
  refine Mth_of (by decide) rfl ?_
  refine Ev_aload_n dX7_sungWith_0 rfl ?_
  refine Ev_iconst (v := 4) dX7_sungWith_1 (by decide) ?_
  refine Ev_callV (bc := 0) (b := 0) dX7_sungWith_2 cv_X7_46 rfl hT (Nat.le_of_ble_eq_true rfl) (by omega) ?_
  refine c_X9_leave hT ?_
  refine Ev_aload_n dX7_sungWith_5 rfl ?_
  refine Ev_get dX7_sungWith_6 fg_X7_7_7 (gn hne hS) rfl ?_
  refine Ev_iret dX7_sungWith_9 rfl rfl ?_
  exact k

set_option maxHeartbeats 4000000 in
set_option maxRecDepth 100000 in
theorem c_X7_sungWith1 {d : Nat} {S : aS} {Q : Option Value → aS → Prop} {tr : Int32} (hT : S[30]? = some (.inr (9, [.int tr]))) {a : Nat} {nu o1 o2 lg sg dg mi te cl : Int32} (hS : S[a]? = some (.inr (1, [.int nu, .int o1, .int o2, .int lg, .int sg, .int dg, .int mi, .int te, .int cl]))) (hne : 30 ≠ a) (k : Q (some (.int nu)) (S.set 30 (.inr (9, [.int (31 * tr + 4)])))) : Mth mX7_sungWith (d + 1) 0 [.ref a, .ref 30] S Q := by
  refine Mth_of (by decide) rfl ?_
  refine Ev_aload_n dX7_sungWith_0 rfl ?_
  refine Ev_iconst (v := 4) dX7_sungWith_1 (by decide) ?_
  refine Ev_callV (bc := 0) (b := 0) dX7_sungWith_2 cv_X7_46 rfl hT (Nat.le_of_ble_eq_true rfl) (by omega) ?_
  refine c_X9_leave hT ?_
  refine Ev_aload_n dX7_sungWith_5 rfl ?_
  refine Ev_get dX7_sungWith_6 fg_X7_7_1 (gn hne hS) rfl ?_
  refine Ev_iret dX7_sungWith_9 rfl rfl ?_
  exact k

set_option maxHeartbeats 4000000 in
set_option maxRecDepth 100000 in
theorem c_X6_sungWith {d : Nat} {S : aS} {Q : Option Value → aS → Prop} {tr : Int32} (hT : S[30]? = some (.inr (9, [.int tr]))) {a : Nat} {nu o1 o2 lg sg dg mi te cl : Int32} (hS : S[a]? = some (.inr (6, [.int nu, .int o1, .int o2, .int lg, .int sg, .int dg, .int mi, .int te, .int cl]))) (hne : 30 ≠ a) (k : Q (some (.int 40)) (S.set 30 (.inr (9, [.int (31 * tr + 5)])))) : Mth mX6_sungWith (d + 1) 0 [.ref a, .ref 30] S Q := by
  refine Mth_of (by decide) rfl ?_
  refine Ev_aload_n dX6_sungWith_0 rfl ?_
  refine Ev_iconst (v := 5) dX6_sungWith_1 (by decide) ?_
  refine Ev_callV (bc := 0) (b := 0) dX6_sungWith_2 cv_X6_11 rfl hT (Nat.le_of_ble_eq_true rfl) (by omega) ?_
  refine c_X9_leave hT ?_
  refine Ev_bipush (v := 40) dX6_sungWith_5 (by decide) ?_
  refine Ev_iret dX6_sungWith_7 rfl rfl ?_
  exact k

