set_option maxHeartbeats 4000000 in
set_option maxRecDepth 100000 in
theorem c_X12_isShared {d : Nat} {S : aS} {Q : Option Value → aS → Prop} {flt du lw fr ra rp rs ea dp bm rd tr : Int32} {bi : Int64} {pl n cs : Nat} {G : Nat → Nat → Nat} (hg : GD pl n G) (hcs : cs < 512) (hM : S[31]? = some (mo flt (nI pl) (nI n) du lw fr (nI cs) ra rp rs ea dp bm bi rd tr)) (hG : MN S n G) {j : Nat} (hj : j < n) (kt : sh G fr.toInt j = true → Q (some (.int 1)) S) (kf : ¬ sh G fr.toInt j = true → Q (some (.int 0)) S) : Mth mX12_isShared d 0 [.ref 31, .int (nI j)] S Q := by
  have hn9 := hg.2.1
  have hp7 := hg.1
  have hjG := hg.2.2 j hj
  obtain ⟨f1, a1, b1⟩ := hG 1 (by decide)
  obtain ⟨f2, a2, b2⟩ := hG 2 (by decide)
  refine Mth_of (by decide) rfl ?_
  refine Ev_aload_n dX12_isShared_0 rfl ?_
  refine Ev_get dX12_isShared_1 fg_X12_13_12 hM rfl ?_
  refine Ev_iload_n dX12_isShared_4 rfl ?_
  refine Ev_ialoadN (j := j) dX12_isShared_5 a1 (by omega) (by decide) ?_
  refine Ev_topi (y := nI (G 1 j)) (b1 _ (by omega)) ?_
  refine Ev_aload_n dX12_isShared_6 rfl ?_
  refine Ev_get dX12_isShared_7 fg_X12_155_12 hM rfl ?_
  refine Ev_icmp_gt dX12_isShared_10 (fun c1 => ?_) (fun c1 => ?_)
  · skip
    refine Ev_iconst (v := 0) dX12_isShared_30 (by decide) ?_
    refine Ev_iret dX12_isShared_31 rfl (by decide) ?_
    have e1 : (nI (G 1 j)).toInt = (G 1 j : Int) := nIt (by omega)
    have e2 : (nI (G 2 j)).toInt = (G 2 j : Int) := nIt (by omega)
    (try simp only [xlt, xle, e1, e2] at *)
    first | exact kt (by simp only [sh, decide_eq_true_eq]; omega) | exact kf (by simp only [sh, decide_eq_true_eq]; omega)
  · skip
    refine Ev_aload_n dX12_isShared_13 rfl ?_
    refine Ev_get dX12_isShared_14 fg_X12_16_12 hM rfl ?_
    refine Ev_iload_n dX12_isShared_17 rfl ?_
    refine Ev_ialoadN (j := j) dX12_isShared_18 a2 (by omega) (by decide) ?_
    refine Ev_topi (y := nI (G 2 j)) (b2 _ (by omega)) ?_
    refine Ev_aload_n dX12_isShared_19 rfl ?_
    refine Ev_get dX12_isShared_20 fg_X12_155_12 hM rfl ?_
    refine Ev_icmp_gt dX12_isShared_23 (fun c2 => ?_) (fun c2 => ?_)
    · skip
      refine Ev_iconst (v := 0) dX12_isShared_30 (by decide) ?_
      refine Ev_iret dX12_isShared_31 rfl (by decide) ?_
      have e1 : (nI (G 1 j)).toInt = (G 1 j : Int) := nIt (by omega)
      have e2 : (nI (G 2 j)).toInt = (G 2 j : Int) := nIt (by omega)
      (try simp only [xlt, xle, e1, e2] at *)
      first | exact kt (by simp only [sh, decide_eq_true_eq]; omega) | exact kf (by simp only [sh, decide_eq_true_eq]; omega)
    · skip
      refine Ev_iconst (v := 1) dX12_isShared_26 (by decide) ?_
      refine Ev_goto dX12_isShared_27 ?_
      refine Ev_iret dX12_isShared_31 rfl (by decide) ?_
      have e1 : (nI (G 1 j)).toInt = (G 1 j : Int) := nIt (by omega)
      have e2 : (nI (G 2 j)).toInt = (G 2 j : Int) := nIt (by omega)
      (try simp only [xlt, xle, e1, e2] at *)
      first | exact kt (by simp only [sh, decide_eq_true_eq]; omega) | exact kf (by simp only [sh, decide_eq_true_eq]; omega)

set_option maxHeartbeats 4000000 in
set_option maxRecDepth 100000 in
theorem c_X12_takesOf {d : Nat} {S : aS} {Q : Option Value → aS → Prop} {flt du lw fr ra rp rs ea dp bm rd tr : Int32} {bi : Int64} {pl n cs : Nat} {G : Nat → Nat → Nat} (hg : GD pl n G) (hcs : cs < 512) (hM : S[31]? = some (mo flt (nI pl) (nI n) du lw fr (nI cs) ra rp rs ea dp bm bi rd tr)) (hG : MN S n G) {j : Nat} (hj : j < n) (k : Q (some (.int (nI (tk G fr.toInt j)))) S) : Mth mX12_takesOf (d + 1) 0 [.ref 31, .int (nI j)] S Q := by
  have hn9 := hg.2.1
  have hp7 := hg.1
  have hjG := hg.2.2 j hj
  obtain ⟨f0, a0, b0⟩ := hG 0 (by decide)
  obtain ⟨f3, a3, b3⟩ := hG 3 (by decide)
  refine Mth_of (by decide) rfl ?_
  refine Ev_aload_n dX12_takesOf_0 rfl ?_
  refine Ev_get dX12_takesOf_1 fg_X12_19_12 hM rfl ?_
  refine Ev_iload_n dX12_takesOf_4 rfl ?_
  refine Ev_ialoadN (j := j) dX12_takesOf_5 a3 (by omega) (by decide) ?_
  refine Ev_topi (y := nI (G 3 j)) (b3 _ (by omega)) ?_
  refine Ev_aload_n dX12_takesOf_6 rfl ?_
  refine Ev_get dX12_takesOf_7 fg_X12_7_12 hM rfl ?_
  refine Ev_iload_n dX12_takesOf_10 rfl ?_
  refine Ev_ialoadN (j := j) dX12_takesOf_11 a0 (by omega) (by decide) ?_
  refine Ev_topi (y := nI (G 0 j)) (b0 _ (by omega)) ?_
  refine Ev_if_le dX12_takesOf_12 (fun c1 => ?_) (fun c1 => ?_)
  · skip
    have c1 : (G 0 j) ≤ 0 := (nle (a := G 0 j) (b := 0) (by omega) (by omega)).mp c1
    refine Ev_iconst (v := 0) dX12_takesOf_19 (by decide) ?_
    refine Ev_iadd dX12_takesOf_20 ?_
    refine Ev_topi (y := nI ((G 3 j) + 0)) (nI_add _ _) ?_
    refine Ev_istore_n dX12_takesOf_21 rfl ?_
    refine Ev_aload_n dX12_takesOf_22 rfl ?_
    refine Ev_get dX12_takesOf_23 fg_X12_7_12 hM rfl ?_
    refine Ev_iload_n dX12_takesOf_26 rfl ?_
    refine Ev_ialoadN (j := j) dX12_takesOf_27 a0 (by omega) (by decide) ?_
    refine Ev_topi (y := nI (G 0 j)) (b0 _ (by omega)) ?_
    refine Ev_iconst (v := 2) dX12_takesOf_28 (by decide) ?_
    refine Ev_icmp_ne dX12_takesOf_29 (fun c2 => ?_) (fun c2 => ?_)
    · skip
      have c2 : ¬ ((G 0 j) = 2) := fun z => c2 ((nIinj (a := G 0 j) (b := 2) (by omega) (by omega)).mpr z)
      refine Ev_iload_n dX12_takesOf_38 rfl ?_
      refine Ev_istore_n dX12_takesOf_39 rfl ?_
      refine Ev_aload_n dX12_takesOf_40 rfl ?_
      refine Ev_iload_n dX12_takesOf_41 rfl ?_
      refine Ev_callV (bc := 0) (b := 0) dX12_takesOf_42 cv_X12_164 rfl hM (Nat.le_of_ble_eq_true rfl) (by omega) ?_
      refine c_X12_isShared hg hcs hM hG hj (fun q3 => ?_) (fun q3 => ?_)
      · skip
        refine Ev_if_eq dX12_takesOf_45 (fun c => absurd c (by decide)) (fun _ => ?_)
        refine Ev_iload_n dX12_takesOf_48 rfl ?_
        refine Ev_iconst (v := 1) dX12_takesOf_49 (by decide) ?_
        refine Ev_iadd dX12_takesOf_50 ?_
        refine Ev_topi (y := nI (((G 3 j) + 0) + 1)) (nI_add _ _) ?_
        refine Ev_goto dX12_takesOf_51 ?_
        refine Ev_iret dX12_takesOf_55 rfl rfl ?_
        have e : tk G fr.toInt j = ((G 3 j) + 0) + 1 := by
          unfold tk tk0
          (repeat' split) <;> first | rfl | omega | contradiction | (simp_all; done) | (simp_all; omega)
        rw [e] at k
        exact k
      · skip
        refine Ev_if_eq dX12_takesOf_45 (fun _ => ?_) (fun c => absurd (by decide) c)
        refine Ev_iload_n dX12_takesOf_54 rfl ?_
        refine Ev_iret dX12_takesOf_55 rfl rfl ?_
        have e : tk G fr.toInt j = (G 3 j) + 0 := by
          unfold tk tk0
          (repeat' split) <;> first | rfl | omega | contradiction | (simp_all; done) | (simp_all; omega)
        rw [e] at k
        exact k
    · skip
      have c2 : (G 0 j) = 2 := (nIinj (a := G 0 j) (b := 2) (by omega) (by omega)).mp c2
      refine Ev_iconst (v := 2) dX12_takesOf_32 (by decide) ?_
      refine Ev_iload_n dX12_takesOf_33 rfl ?_
      refine Ev_imul dX12_takesOf_34 ?_
      refine Ev_topi (y := nI (2 * ((G 3 j) + 0))) (nmul _ _) ?_
      refine Ev_goto dX12_takesOf_35 ?_
      refine Ev_istore_n dX12_takesOf_39 rfl ?_
      refine Ev_aload_n dX12_takesOf_40 rfl ?_
      refine Ev_iload_n dX12_takesOf_41 rfl ?_
      refine Ev_callV (bc := 0) (b := 0) dX12_takesOf_42 cv_X12_164 rfl hM (Nat.le_of_ble_eq_true rfl) (by omega) ?_
      refine c_X12_isShared hg hcs hM hG hj (fun q4 => ?_) (fun q4 => ?_)
      · skip
        refine Ev_if_eq dX12_takesOf_45 (fun c => absurd c (by decide)) (fun _ => ?_)
        refine Ev_iload_n dX12_takesOf_48 rfl ?_
        refine Ev_iconst (v := 1) dX12_takesOf_49 (by decide) ?_
        refine Ev_iadd dX12_takesOf_50 ?_
        refine Ev_topi (y := nI ((2 * ((G 3 j) + 0)) + 1)) (nI_add _ _) ?_
        refine Ev_goto dX12_takesOf_51 ?_
        refine Ev_iret dX12_takesOf_55 rfl rfl ?_
        have e : tk G fr.toInt j = (2 * ((G 3 j) + 0)) + 1 := by
          unfold tk tk0
          (repeat' split) <;> first | rfl | omega | contradiction | (simp_all; done) | (simp_all; omega)
        rw [e] at k
        exact k
      · skip
        refine Ev_if_eq dX12_takesOf_45 (fun _ => ?_) (fun c => absurd (by decide) c)
        refine Ev_iload_n dX12_takesOf_54 rfl ?_
        refine Ev_iret dX12_takesOf_55 rfl rfl ?_
        have e : tk G fr.toInt j = 2 * ((G 3 j) + 0) := by
          unfold tk tk0
          (repeat' split) <;> first | rfl | omega | contradiction | (simp_all; done) | (simp_all; omega)
        rw [e] at k
        exact k
  · skip
    have c1 : ¬ ((G 0 j) ≤ 0) := fun z => c1 ((nle (a := G 0 j) (b := 0) (by omega) (by omega)).mpr z)
    refine Ev_iconst (v := 1) dX12_takesOf_15 (by decide) ?_
    refine Ev_goto dX12_takesOf_16 ?_
    refine Ev_iadd dX12_takesOf_20 ?_
    refine Ev_topi (y := nI ((G 3 j) + 1)) (nI_add _ _) ?_
    refine Ev_istore_n dX12_takesOf_21 rfl ?_
    refine Ev_aload_n dX12_takesOf_22 rfl ?_
    refine Ev_get dX12_takesOf_23 fg_X12_7_12 hM rfl ?_
    refine Ev_iload_n dX12_takesOf_26 rfl ?_
    refine Ev_ialoadN (j := j) dX12_takesOf_27 a0 (by omega) (by decide) ?_
    refine Ev_topi (y := nI (G 0 j)) (b0 _ (by omega)) ?_
    refine Ev_iconst (v := 2) dX12_takesOf_28 (by decide) ?_
    refine Ev_icmp_ne dX12_takesOf_29 (fun c5 => ?_) (fun c5 => ?_)
    · skip
      have c5 : ¬ ((G 0 j) = 2) := fun z => c5 ((nIinj (a := G 0 j) (b := 2) (by omega) (by omega)).mpr z)
      refine Ev_iload_n dX12_takesOf_38 rfl ?_
      refine Ev_istore_n dX12_takesOf_39 rfl ?_
      refine Ev_aload_n dX12_takesOf_40 rfl ?_
      refine Ev_iload_n dX12_takesOf_41 rfl ?_
      refine Ev_callV (bc := 0) (b := 0) dX12_takesOf_42 cv_X12_164 rfl hM (Nat.le_of_ble_eq_true rfl) (by omega) ?_
      refine c_X12_isShared hg hcs hM hG hj (fun q6 => ?_) (fun q6 => ?_)
      · skip
        refine Ev_if_eq dX12_takesOf_45 (fun c => absurd c (by decide)) (fun _ => ?_)
        refine Ev_iload_n dX12_takesOf_48 rfl ?_
        refine Ev_iconst (v := 1) dX12_takesOf_49 (by decide) ?_
        refine Ev_iadd dX12_takesOf_50 ?_
        refine Ev_topi (y := nI (((G 3 j) + 1) + 1)) (nI_add _ _) ?_
        refine Ev_goto dX12_takesOf_51 ?_
        refine Ev_iret dX12_takesOf_55 rfl rfl ?_
        have e : tk G fr.toInt j = ((G 3 j) + 1) + 1 := by
          unfold tk tk0
          (repeat' split) <;> first | rfl | omega | contradiction | (simp_all; done) | (simp_all; omega)
        rw [e] at k
        exact k
      · skip
        refine Ev_if_eq dX12_takesOf_45 (fun _ => ?_) (fun c => absurd (by decide) c)
        refine Ev_iload_n dX12_takesOf_54 rfl ?_
        refine Ev_iret dX12_takesOf_55 rfl rfl ?_
        have e : tk G fr.toInt j = (G 3 j) + 1 := by
          unfold tk tk0
          (repeat' split) <;> first | rfl | omega | contradiction | (simp_all; done) | (simp_all; omega)
        rw [e] at k
        exact k
    · skip
      have c5 : (G 0 j) = 2 := (nIinj (a := G 0 j) (b := 2) (by omega) (by omega)).mp c5
      refine Ev_iconst (v := 2) dX12_takesOf_32 (by decide) ?_
      refine Ev_iload_n dX12_takesOf_33 rfl ?_
      refine Ev_imul dX12_takesOf_34 ?_
      refine Ev_topi (y := nI (2 * ((G 3 j) + 1))) (nmul _ _) ?_
      refine Ev_goto dX12_takesOf_35 ?_
      refine Ev_istore_n dX12_takesOf_39 rfl ?_
      refine Ev_aload_n dX12_takesOf_40 rfl ?_
      refine Ev_iload_n dX12_takesOf_41 rfl ?_
      refine Ev_callV (bc := 0) (b := 0) dX12_takesOf_42 cv_X12_164 rfl hM (Nat.le_of_ble_eq_true rfl) (by omega) ?_
      refine c_X12_isShared hg hcs hM hG hj (fun q7 => ?_) (fun q7 => ?_)
      · skip
        refine Ev_if_eq dX12_takesOf_45 (fun c => absurd c (by decide)) (fun _ => ?_)
        refine Ev_iload_n dX12_takesOf_48 rfl ?_
        refine Ev_iconst (v := 1) dX12_takesOf_49 (by decide) ?_
        refine Ev_iadd dX12_takesOf_50 ?_
        refine Ev_topi (y := nI ((2 * ((G 3 j) + 1)) + 1)) (nI_add _ _) ?_
        refine Ev_goto dX12_takesOf_51 ?_
        refine Ev_iret dX12_takesOf_55 rfl rfl ?_
        have e : tk G fr.toInt j = (2 * ((G 3 j) + 1)) + 1 := by
          unfold tk tk0
          (repeat' split) <;> first | rfl | omega | contradiction | (simp_all; done) | (simp_all; omega)
        rw [e] at k
        exact k
      · skip
        refine Ev_if_eq dX12_takesOf_45 (fun _ => ?_) (fun c => absurd (by decide) c)
        refine Ev_iload_n dX12_takesOf_54 rfl ?_
        refine Ev_iret dX12_takesOf_55 rfl rfl ?_
        have e : tk G fr.toInt j = 2 * ((G 3 j) + 1) := by
          unfold tk tk0
          (repeat' split) <;> first | rfl | omega | contradiction | (simp_all; done) | (simp_all; omega)
        rw [e] at k
        exact k

set_option maxHeartbeats 4000000 in
set_option maxRecDepth 100000 in
theorem c_X12_safeOf {d : Nat} {S : aS} {Q : Option Value → aS → Prop} {flt du lw fr ra rp rs ea dp bm rd tr : Int32} {bi : Int64} {pl n cs : Nat} {G : Nat → Nat → Nat} (hg : GD pl n G) (hcs : cs < 512) (hM : S[31]? = some (mo flt (nI pl) (nI n) du lw fr (nI cs) ra rp rs ea dp bm bi rd tr)) (hG : MN S n G) {j : Nat} (hj : j < n) (k : Q (some (.int (nI (tn G fr.toInt j)))) S) : Mth mX12_safeOf (d + 1) 0 [.ref 31, .int (nI j)] S Q := by
  have hn9 := hg.2.1
  have hp7 := hg.1
  have hjG := hg.2.2 j hj
  obtain ⟨f5, a5, b5⟩ := hG 5 (by decide)
  refine Mth_of (by decide) rfl ?_
  refine Ev_aload_n dX12_safeOf_0 rfl ?_
  refine Ev_iload_n dX12_safeOf_1 rfl ?_
  refine Ev_callV (bc := 0) (b := 0) dX12_safeOf_2 cv_X12_164 rfl hM (Nat.le_of_ble_eq_true rfl) (by omega) ?_
  refine c_X12_isShared hg hcs hM hG hj (fun q1 => ?_) (fun q1 => ?_)
  · skip
    refine Ev_if_eq dX12_safeOf_5 (fun c => absurd c (by decide)) (fun _ => ?_)
    refine Ev_bipush (v := 10) dX12_safeOf_8 (by decide) ?_
    refine Ev_goto dX12_safeOf_10 ?_
    refine Ev_iret dX12_safeOf_22 rfl rfl ?_
    have e : tn G fr.toInt j = 10 := by
      unfold tn
      (repeat' split) <;> first | rfl | omega | contradiction | (simp_all; done) | (simp_all; omega)
    rw [e] at k
    exact k
  · skip
    refine Ev_if_eq dX12_safeOf_5 (fun _ => ?_) (fun c => absurd (by decide) c)
    refine Ev_bipush (v := 10) dX12_safeOf_13 (by decide) ?_
    refine Ev_aload_n dX12_safeOf_15 rfl ?_
    refine Ev_get dX12_safeOf_16 fg_X12_25_12 hM rfl ?_
    refine Ev_iload_n dX12_safeOf_19 rfl ?_
    refine Ev_ialoadN (j := j) dX12_safeOf_20 a5 (by omega) (by decide) ?_
    refine Ev_topi (y := nI (G 5 j)) (b5 _ (by omega)) ?_
    refine Ev_isub dX12_safeOf_21 ?_
    refine Ev_topi (y := nI (10 - G 5 j)) (nsub (a := 10) (by omega)) ?_
    refine Ev_iret dX12_safeOf_22 rfl rfl ?_
    have e : tn G fr.toInt j = 10 - G 5 j := by
      unfold tn
      (repeat' split) <;> first | rfl | omega | contradiction | (simp_all; done) | (simp_all; omega)
    rw [e] at k
    exact k

set_option maxHeartbeats 4000000 in
set_option maxRecDepth 100000 in
theorem c_X12_goesTo {d : Nat} {S : aS} {Q : Option Value → aS → Prop} {flt du lw fr ra rp rs ea dp bm rd tr : Int32} {bi : Int64} {pl n cs : Nat} {G : Nat → Nat → Nat} (hg : GD pl n G) (hcs : cs < 512) (hM : S[31]? = some (mo flt (nI pl) (nI n) du lw fr (nI cs) ra rp rs ea dp bm bi rd tr)) (hG : MN S n G) {j : Nat} (hj : j < n) {p : Nat} (hp : p < 100) (k : Q (some (.int (oi (gt G cs j p)))) S) : Mth mX12_goesTo (d + 1) 0 [.ref 31, .int (nI j), .int (nI p)] S Q := by
  have hn9 := hg.2.1
  have hp7 := hg.1
  have hjG := hg.2.2 j hj
  obtain ⟨f1, a1, b1⟩ := hG 1 (by decide)
  obtain ⟨f2, a2, b2⟩ := hG 2 (by decide)
  refine Mth_of (by decide) rfl ?_
  refine Ev_aload_n dX12_goesTo_0 rfl ?_
  refine Ev_get dX12_goesTo_1 fg_X12_158_12 hM rfl ?_
  refine Ev_iload_n dX12_goesTo_4 rfl ?_
  refine Ev_callS (bc := 0) (b := 0) dX12_goesTo_5 cs_X12_173 rfl (Nat.le_of_ble_eq_true rfl) (by omega) ?_
  refine c_X12_isIn (by omega) (by omega) (fun q1 => ?_) (fun q1 => ?_)
  · skip
    refine Ev_if_eq dX12_goesTo_8 (fun c => absurd c (by decide)) (fun _ => ?_)
    refine Ev_bipush (v := (-9)) dX12_goesTo_11 (by decide) ?_
    refine Ev_iret dX12_goesTo_13 rfl rfl ?_
    have e : gt G cs j p = none := by
      unfold gt
      (repeat' split) <;> first | rfl | omega | contradiction | (simp_all; done) | (simp_all; omega)
    rw [e] at k
    exact k
  · skip
    refine Ev_if_eq dX12_goesTo_8 (fun _ => ?_) (fun c => absurd (by decide) c)
    refine Ev_aload_n dX12_goesTo_14 rfl ?_
    refine Ev_get dX12_goesTo_15 fg_X12_13_12 hM rfl ?_
    refine Ev_iload_n dX12_goesTo_18 rfl ?_
    refine Ev_ialoadN (j := j) dX12_goesTo_19 a1 (by omega) (by decide) ?_
    refine Ev_topi (y := nI (G 1 j)) (b1 _ (by omega)) ?_
    refine Ev_iload_n dX12_goesTo_20 rfl ?_
    refine Ev_icmp_ne dX12_goesTo_21 (fun c2 => ?_) (fun c2 => ?_)
    · skip
      have c2 : ¬ ((G 1 j) = p) := fun z => c2 ((nIinj (a := G 1 j) (b := p) (by omega) (by omega)).mpr z)
      refine Ev_aload_n dX12_goesTo_33 rfl ?_
      refine Ev_get dX12_goesTo_34 fg_X12_16_12 hM rfl ?_
      refine Ev_iload_n dX12_goesTo_37 rfl ?_
      refine Ev_ialoadN (j := j) dX12_goesTo_38 a2 (by omega) (by decide) ?_
      refine Ev_topi (y := nI (G 2 j)) (b2 _ (by omega)) ?_
      refine Ev_iload_n dX12_goesTo_39 rfl ?_
      refine Ev_icmp_ne dX12_goesTo_40 (fun c3 => ?_) (fun c3 => ?_)
      · skip
        have c3 : ¬ ((G 2 j) = p) := fun z => c3 ((nIinj (a := G 2 j) (b := p) (by omega) (by omega)).mpr z)
        refine Ev_bipush (v := (-9)) dX12_goesTo_52 (by decide) ?_
        refine Ev_iret dX12_goesTo_54 rfl rfl ?_
        have e : gt G cs j p = none := by
          unfold gt
          (repeat' split) <;> first | rfl | omega | contradiction | (simp_all; done) | (simp_all; omega)
        rw [e] at k
        exact k
      · skip
        have c3 : (G 2 j) = p := (nIinj (a := G 2 j) (b := p) (by omega) (by omega)).mp c3
        refine Ev_aload_n dX12_goesTo_43 rfl ?_
        refine Ev_get dX12_goesTo_44 fg_X12_13_12 hM rfl ?_
        refine Ev_iload_n dX12_goesTo_47 rfl ?_
        refine Ev_ialoadN (j := j) dX12_goesTo_48 a1 (by omega) (by decide) ?_
        refine Ev_topi (y := nI (G 1 j)) (b1 _ (by omega)) ?_
        refine Ev_goto dX12_goesTo_49 ?_
        refine Ev_iret dX12_goesTo_54 rfl rfl ?_
        have e : gt G cs j p = some (G 1 j) := by
          unfold gt
          (repeat' split) <;> first | rfl | omega | contradiction | (simp_all; done) | (simp_all; omega)
        rw [e] at k
        exact k
    · skip
      have c2 : (G 1 j) = p := (nIinj (a := G 1 j) (b := p) (by omega) (by omega)).mp c2
      refine Ev_aload_n dX12_goesTo_24 rfl ?_
      refine Ev_get dX12_goesTo_25 fg_X12_16_12 hM rfl ?_
      refine Ev_iload_n dX12_goesTo_28 rfl ?_
      refine Ev_ialoadN (j := j) dX12_goesTo_29 a2 (by omega) (by decide) ?_
      refine Ev_topi (y := nI (G 2 j)) (b2 _ (by omega)) ?_
      refine Ev_goto dX12_goesTo_30 ?_
      refine Ev_iret dX12_goesTo_54 rfl rfl ?_
      have e : gt G cs j p = some (G 2 j) := by
        unfold gt
        (repeat' split) <;> first | rfl | omega | contradiction | (simp_all; done) | (simp_all; omega)
      rw [e] at k
      exact k

set_option maxHeartbeats 4000000 in
set_option maxRecDepth 100000 in
theorem l_X12_minutesOf {d : Nat} {S : aS} {Q : Option Value → aS → Prop} {flt du lw fr ra rp rs ea dp bm rd tr : Int32} {bi : Int64} {pl n cs : Nat} {G : Nat → Nat → Nat} (hg : GD pl n G) (hcs : cs < 512) (hM : S[31]? = some (mo flt (nI pl) (nI n) du lw fr (nI cs) ra rp rs ea dp bm bi rd tr)) (hG : MN S n G) {m : Nat} {rw_ : Nat → Int32} {r : Nat → Nat} (hm : m ≤ 12) (hr : S[44]? = some (iA 12 rw_)) (hrw : ∀ x, x < m → rw_ x = nI (r x) ∧ r x < n) (k : Q (some (.int (nI (sumN (fun x => tk G fr.toInt (r x)) m)))) S) : ∀ (t i : Nat) , i + t = m → Ev none mX12_minutesOf (d + 2) 0 4 [some (.ref 31), some (.int (nI m)), some (.int (nI (sumN (fun x => tk G fr.toInt (r x)) i))), some (.int (nI i))] [] S Q := by
  have hn9 := hg.2.1
  intro t
  induction t with
  | zero =>
    intro i  hi
    obtain rfl : i = m := by omega
    refine Ev_iload_n dX12_minutesOf_4 rfl ?_
    refine Ev_iload_n dX12_minutesOf_5 rfl ?_
    refine Ev_icmp_ge dX12_minutesOf_6 (fun _ => ?_) (fun c => absurd ((nle (by omega) (by omega)).mpr (Nat.le_refl _)) c)
    refine Ev_iload_n dX12_minutesOf_28 rfl ?_
    refine Ev_iret dX12_minutesOf_29 rfl rfl ?_
    exact k
  | succ t ih =>
    intro i  hi
    have hri := (hrw i (by omega)).2
    have hriG := hg.2.2 (r i) hri
    refine Ev_iload_n dX12_minutesOf_4 rfl ?_
    refine Ev_iload_n dX12_minutesOf_5 rfl ?_
    refine Ev_icmp_ge dX12_minutesOf_6 (fun c => absurd c (fun z => absurd ((nle (by omega) (by omega)).mp z) (by omega))) (fun _ => ?_)
    refine Ev_iload_n dX12_minutesOf_9 rfl ?_
    refine Ev_aload_n dX12_minutesOf_10 rfl ?_
    refine Ev_aload_n dX12_minutesOf_11 rfl ?_
    refine Ev_get dX12_minutesOf_12 fg_X12_46_12 hM rfl ?_
    refine Ev_iload_n dX12_minutesOf_15 rfl ?_
    refine Ev_ialoadN (j := i) dX12_minutesOf_16 hr (by omega) (by decide) ?_
    refine Ev_topi (y := nI (r i)) (hrw _ (by omega)).1 ?_
    refine Ev_callV (bc := 0) (b := 0) dX12_minutesOf_17 cv_X12_170 rfl hM (Nat.le_of_ble_eq_true rfl) (by omega) ?_
    refine c_X12_takesOf hg hcs hM hG (by omega) ?_
    refine Ev_iadd dX12_minutesOf_20 ?_
    refine Ev_topi (y := nI ((sumN (fun x => tk G fr.toInt (r x)) i) + (tk G fr.toInt (r i)))) (nI_add _ _) ?_
    refine Ev_istore_n dX12_minutesOf_21 rfl ?_
    refine Ev_iinc (v := nI (i + 1)) dX12_minutesOf_22 rfl (nI_1 _) rfl ?_
    refine Ev_goto dX12_minutesOf_25 ?_
    exact ih (i + 1) (by omega)

set_option maxHeartbeats 4000000 in
set_option maxRecDepth 100000 in
theorem c_X12_minutesOf {d : Nat} {S : aS} {Q : Option Value → aS → Prop} {flt du lw fr ra rp rs ea dp bm rd tr : Int32} {bi : Int64} {pl n cs : Nat} {G : Nat → Nat → Nat} (hg : GD pl n G) (hcs : cs < 512) (hM : S[31]? = some (mo flt (nI pl) (nI n) du lw fr (nI cs) ra rp rs ea dp bm bi rd tr)) (hG : MN S n G) {m : Nat} {rw_ : Nat → Int32} {r : Nat → Nat} (hm : m ≤ 12) (hr : S[44]? = some (iA 12 rw_)) (hrw : ∀ x, x < m → rw_ x = nI (r x) ∧ r x < n) (k : Q (some (.int (nI (sumN (fun x => tk G fr.toInt (r x)) m)))) S) : Mth mX12_minutesOf (d + 2) 0 [.ref 31, .int (nI m)] S Q := by
  refine Mth_of (by decide) rfl ?_
  refine Ev_iconst (v := 0) dX12_minutesOf_0 (by decide) ?_
  refine Ev_istore_n dX12_minutesOf_1 rfl ?_
  refine Ev_iconst (v := 0) dX12_minutesOf_2 (by decide) ?_
  refine Ev_istore_n dX12_minutesOf_3 rfl ?_
  exact l_X12_minutesOf hg hcs hM hG hm hr hrw k m 0 (by omega)

set_option maxHeartbeats 4000000 in
set_option maxRecDepth 100000 in
theorem l_X12_goneBy {d : Nat} {S : aS} {Q : Option Value → aS → Prop} {flt du lw fr ra rp rs ea dp bm rd tr : Int32} {bi : Int64} {pl n cs : Nat} {G : Nat → Nat → Nat} (hg : GD pl n G) (hcs : cs < 512) (hM : S[31]? = some (mo flt (nI pl) (nI n) du lw fr (nI cs) ra rp rs ea dp bm bi rd tr)) (hG : MN S n G) {m : Nat} {rw_ : Nat → Int32} {r : Nat → Nat} (hm : m ≤ 12) (hr : S[44]? = some (iA 12 rw_)) (hrw : ∀ x, x < m → rw_ x = nI (r x) ∧ r x < n) (k : Q (some (.int (nI (goN r m)))) S) : ∀ (t i : Nat) , i + t = m → Ev none mX12_goneBy d 0 4 [some (.ref 31), some (.int (nI m)), some (.int (nI (goN r i))), some (.int (nI i))] [] S Q := by
  have hn9 := hg.2.1
  intro t
  induction t with
  | zero =>
    intro i  hi
    obtain rfl : i = m := by omega
    refine Ev_iload_n dX12_goneBy_4 rfl ?_
    refine Ev_iload_n dX12_goneBy_5 rfl ?_
    refine Ev_icmp_ge dX12_goneBy_6 (fun _ => ?_) (fun c => absurd ((nle (by omega) (by omega)).mpr (Nat.le_refl _)) c)
    refine Ev_iload_n dX12_goneBy_26 rfl ?_
    refine Ev_iret dX12_goneBy_27 rfl rfl ?_
    exact k
  | succ t ih =>
    intro i  hi
    have hri := (hrw i (by omega)).2
    have hriG := hg.2.2 (r i) hri
    refine Ev_iload_n dX12_goneBy_4 rfl ?_
    refine Ev_iload_n dX12_goneBy_5 rfl ?_
    refine Ev_icmp_ge dX12_goneBy_6 (fun c => absurd c (fun z => absurd ((nle (by omega) (by omega)).mp z) (by omega))) (fun _ => ?_)
    refine Ev_iload_n dX12_goneBy_9 rfl ?_
    refine Ev_iconst (v := 1) dX12_goneBy_10 (by decide) ?_
    refine Ev_aload_n dX12_goneBy_11 rfl ?_
    refine Ev_get dX12_goneBy_12 fg_X12_46_12 hM rfl ?_
    refine Ev_iload_n dX12_goneBy_15 rfl ?_
    refine Ev_ialoadN (j := i) dX12_goneBy_16 hr (by omega) (by decide) ?_
    refine Ev_topi (y := nI (r i)) (hrw _ (by omega)).1 ?_
    refine Ev_ishl dX12_goneBy_17 ?_
    refine Ev_topi (y := nI (2 ^ (r i))) (oneShl (by omega)) ?_
    refine Ev_ior dX12_goneBy_18 ?_
    refine Ev_topi (y := nI ((goN r i) ||| (2 ^ (r i)))) (orN _ _) ?_
    refine Ev_istore_n dX12_goneBy_19 rfl ?_
    refine Ev_iinc (v := nI (i + 1)) dX12_goneBy_20 rfl (nI_1 _) rfl ?_
    refine Ev_goto dX12_goneBy_23 ?_
    exact ih (i + 1) (by omega)

set_option maxHeartbeats 4000000 in
set_option maxRecDepth 100000 in
theorem c_X12_goneBy {d : Nat} {S : aS} {Q : Option Value → aS → Prop} {flt du lw fr ra rp rs ea dp bm rd tr : Int32} {bi : Int64} {pl n cs : Nat} {G : Nat → Nat → Nat} (hg : GD pl n G) (hcs : cs < 512) (hM : S[31]? = some (mo flt (nI pl) (nI n) du lw fr (nI cs) ra rp rs ea dp bm bi rd tr)) (hG : MN S n G) {m : Nat} {rw_ : Nat → Int32} {r : Nat → Nat} (hm : m ≤ 12) (hr : S[44]? = some (iA 12 rw_)) (hrw : ∀ x, x < m → rw_ x = nI (r x) ∧ r x < n) (k : Q (some (.int (nI (goN r m)))) S) : Mth mX12_goneBy d 0 [.ref 31, .int (nI m)] S Q := by
  refine Mth_of (by decide) rfl ?_
  refine Ev_iconst (v := 0) dX12_goneBy_0 (by decide) ?_
  refine Ev_istore_n dX12_goneBy_1 rfl ?_
  refine Ev_iconst (v := 0) dX12_goneBy_2 (by decide) ?_
  refine Ev_istore_n dX12_goneBy_3 rfl ?_
  exact l_X12_goneBy hg hcs hM hG hm hr hrw k m 0 (by omega)

set_option maxHeartbeats 4000000 in
set_option maxRecDepth 100000 in
theorem l_X12_sightsBy {d : Nat} {S : aS} {Q : Option Value → aS → Prop} {flt du lw fr ra rp rs ea dp bm rd tr : Int32} {bi : Int64} {pl n cs : Nat} {G : Nat → Nat → Nat} (hg : GD pl n G) (hcs : cs < 512) (hM : S[31]? = some (mo flt (nI pl) (nI n) du lw fr (nI cs) ra rp rs ea dp bm bi rd tr)) (hG : MN S n G) {m : Nat} {rw_ : Nat → Int32} {r : Nat → Nat} (hm : m ≤ 12) (hr : S[44]? = some (iA 12 rw_)) (hrw : ∀ x, x < m → rw_ x = nI (r x) ∧ r x < n) (k : Q (some (.int (nI (sgN G n (goN r m))))) S) : ∀ (t i : Nat) , i + t = n → Ev none mX12_sightsBy (d + 1) 0 11 [some (.ref 31), some (.int (nI m)), some (.int (nI (goN r m))), some (.int (nI (sumN (fun x => if (goN r m).testBit x then G 4 x else 0) i))), some (.int (nI i))] [] S Q := by
  have hn9 := hg.2.1
  have hgo : goN r m < 2 ^ n := goN_lt m (fun x hx => (hrw x hx).2)
  have h512 := p9 hn9
  obtain ⟨f4, a4, b4⟩ := hG 4 (by decide)
  intro t
  induction t with
  | zero =>
    intro i  hi
    obtain rfl : i = n := by omega
    refine Ev_iload dX12_sightsBy_11 rfl ?_
    refine Ev_aload_n dX12_sightsBy_13 rfl ?_
    refine Ev_get dX12_sightsBy_14 fg_X12_101_12 hM rfl ?_
    refine Ev_icmp_ge dX12_sightsBy_17 (fun _ => ?_) (fun c => absurd ((nle (by omega) (by omega)).mpr (Nat.le_refl _)) c)
    refine Ev_iload_n dX12_sightsBy_49 rfl ?_
    refine Ev_iret dX12_sightsBy_50 rfl rfl ?_
    exact k
  | succ t ih =>
    intro i  hi
    have hriG := hg.2.2 i (by omega)
    refine Ev_iload dX12_sightsBy_11 rfl ?_
    refine Ev_aload_n dX12_sightsBy_13 rfl ?_
    refine Ev_get dX12_sightsBy_14 fg_X12_101_12 hM rfl ?_
    refine Ev_icmp_ge dX12_sightsBy_17 (fun c => absurd c (fun z => absurd ((nle (by omega) (by omega)).mp z) (by omega))) (fun _ => ?_)
    refine Ev_iload_n dX12_sightsBy_20 rfl ?_
    refine Ev_iload_n dX12_sightsBy_21 rfl ?_
    refine Ev_iload dX12_sightsBy_22 rfl ?_
    refine Ev_callS (bc := 0) (b := 0) dX12_sightsBy_24 cs_X12_173 rfl (Nat.le_of_ble_eq_true rfl) (by omega) ?_
    refine c_X12_isIn (by omega) (by omega) (fun q1 => ?_) (fun q1 => ?_)
    · skip
      refine Ev_if_eq dX12_sightsBy_27 (fun c => absurd c (by decide)) (fun _ => ?_)
      refine Ev_aload_n dX12_sightsBy_30 rfl ?_
      refine Ev_get dX12_sightsBy_31 fg_X12_22_12 hM rfl ?_
      refine Ev_iload dX12_sightsBy_34 rfl ?_
      refine Ev_ialoadN (j := i) dX12_sightsBy_36 a4 (by omega) (by decide) ?_
      refine Ev_topi (y := nI (G 4 i)) (b4 _ (by omega)) ?_
      refine Ev_goto dX12_sightsBy_37 ?_
      refine Ev_iadd dX12_sightsBy_41 ?_
      refine Ev_topi (y := nI ((sumN (fun x => if (goN r m).testBit x then G 4 x else 0) i) + (G 4 i))) (nI_add _ _) ?_
      refine Ev_istore_n dX12_sightsBy_42 rfl ?_
      refine Ev_iinc (v := nI (i + 1)) dX12_sightsBy_43 rfl (nI_1 _) rfl ?_
      refine Ev_goto dX12_sightsBy_46 ?_
      exact (show sumN (fun x => if (goN r m).testBit x then G 4 x else 0) (i + 1) = (sumN (fun x => if (goN r m).testBit x then G 4 x else 0) i) + (G 4 i) from by simp [sumN, *]) ▸ ih (i + 1) (by omega)
    · skip
      refine Ev_if_eq dX12_sightsBy_27 (fun _ => ?_) (fun c => absurd (by decide) c)
      refine Ev_iconst (v := 0) dX12_sightsBy_40 (by decide) ?_
      refine Ev_iadd dX12_sightsBy_41 ?_
      refine Ev_topi (y := nI ((sumN (fun x => if (goN r m).testBit x then G 4 x else 0) i) + 0)) (nI_add _ _) ?_
      refine Ev_istore_n dX12_sightsBy_42 rfl ?_
      refine Ev_iinc (v := nI (i + 1)) dX12_sightsBy_43 rfl (nI_1 _) rfl ?_
      refine Ev_goto dX12_sightsBy_46 ?_
      exact (show sumN (fun x => if (goN r m).testBit x then G 4 x else 0) (i + 1) = (sumN (fun x => if (goN r m).testBit x then G 4 x else 0) i) + 0 from by simp [sumN, *]) ▸ ih (i + 1) (by omega)

set_option maxHeartbeats 4000000 in
set_option maxRecDepth 100000 in
theorem c_X12_sightsBy {d : Nat} {S : aS} {Q : Option Value → aS → Prop} {flt du lw fr ra rp rs ea dp bm rd tr : Int32} {bi : Int64} {pl n cs : Nat} {G : Nat → Nat → Nat} (hg : GD pl n G) (hcs : cs < 512) (hM : S[31]? = some (mo flt (nI pl) (nI n) du lw fr (nI cs) ra rp rs ea dp bm bi rd tr)) (hG : MN S n G) {m : Nat} {rw_ : Nat → Int32} {r : Nat → Nat} (hm : m ≤ 12) (hr : S[44]? = some (iA 12 rw_)) (hrw : ∀ x, x < m → rw_ x = nI (r x) ∧ r x < n) (k : Q (some (.int (nI (sgN G n (goN r m))))) S) : Mth mX12_sightsBy (d + 1) 0 [.ref 31, .int (nI m)] S Q := by
  refine Mth_of (by decide) rfl ?_
  refine Ev_aload_n dX12_sightsBy_0 rfl ?_
  refine Ev_iload_n dX12_sightsBy_1 rfl ?_
  refine Ev_callV (bc := 0) (b := 0) dX12_sightsBy_2 cv_X12_181 rfl hM (Nat.le_of_ble_eq_true rfl) (by omega) ?_
  refine c_X12_goneBy hg hcs hM hG hm hr hrw ?_
  refine Ev_istore_n dX12_sightsBy_5 rfl ?_
  refine Ev_iconst (v := 0) dX12_sightsBy_6 (by decide) ?_
  refine Ev_istore_n dX12_sightsBy_7 rfl ?_
  refine Ev_iconst (v := 0) dX12_sightsBy_8 (by decide) ?_
  refine Ev_istore dX12_sightsBy_9 rfl ?_
  exact l_X12_sightsBy hg hcs hM hG hm hr hrw k n 0 (by omega)

