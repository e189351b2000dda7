set_option maxHeartbeats 4000000 in
set_option maxRecDepth 100000 in
theorem c_X12_reading0_full {d : Nat} {S : aS} {Q : Option Value → aS → Prop} {flt du lw fr ra rp rs ea dp bm tr : Int32} {bi : Int64} {pl n cs : Nat} {G : Nat → Nat → Nat} (hg : GD pl n G) (hcs : cs < 512) {q : Nat} (hq : q ≤ 8) (hM : S[31]? = some (mo flt (nI pl) (nI n) du lw fr (nI cs) ra rp rs ea dp bm bi (nI q) tr)) (hG : MN S n G) {fo fw : Nat → Int32} (ho : S[48]? = some (iA 8 fo)) (hw : S[49]? = some (zA 8 fw)) {j : Nat} (hj : j < n) (hf : q = 8) (k : Q (some (.int (-4))) S) : Mth mX12_reading (d + 2) 0 [.ref 31, .int (nI j), .int 0] S Q := by
  have hn9 := hg.2.1
  have hp7 := hg.1
  refine Mth_of (by decide) rfl ?_
  refine Ev_aload_n dX12_reading_0 rfl ?_
  refine Ev_iload_n dX12_reading_1 rfl ?_
  refine Ev_callV (bc := 0) (b := 0) dX12_reading_2 cv_X12_167 rfl hM (Nat.le_of_ble_eq_true rfl) (by omega) ?_
  refine c_X12_noStretch hp7 hn9 hM (fun q => absurd q (not_not_intro (by rw [nIt (by omega)]; omega))) (fun _ => ?_)
  refine Ev_if_eq dX12_reading_5 (fun _ => ?_) (fun c => absurd (by decide) c)
  refine Ev_aload_n dX12_reading_10 rfl ?_
  refine Ev_get dX12_reading_11 fg_X12_161_12 hM rfl ?_
  refine Ev_bipush (v := 8) dX12_reading_14 (by decide) ?_
  refine Ev_icmp_ne dX12_reading_16 (fun c => absurd (by rw [hf]; decide) c) (fun _ => ?_)
  refine Ev_bipush (v := (-4)) dX12_reading_19 (by decide) ?_
  refine Ev_iret dX12_reading_21 rfl rfl ?_
  exact k

set_option maxHeartbeats 4000000 in
set_option maxRecDepth 100000 in
theorem c_X12_reading0 {d : Nat} {S : aS} {Q : Option Value → aS → Prop} {flt du lw fr ra rp rs ea dp bm tr : Int32} {bi : Int64} {pl n cs : Nat} {G : Nat → Nat → Nat} (hg : GD pl n G) (hcs : cs < 512) {q : Nat} (hq : q ≤ 8) (hM : S[31]? = some (mo flt (nI pl) (nI n) du lw fr (nI cs) ra rp rs ea dp bm bi (nI q) tr)) (hG : MN S n G) {fo fw : Nat → Int32} (ho : S[48]? = some (iA 8 fo)) (hw : S[49]? = some (zA 8 fw)) {j : Nat} (hj : j < n) (hf : q < 8) (k : Q (some (.int (nI q))) (((S.set 48 (iA 8 (upd fo q (nI j)))).set 49 (zA 8 (upd fw q 0))).set 31 (mo flt (nI pl) (nI n) du lw fr (nI cs) ra rp rs ea dp bm bi (nI (q + 1)) tr))) : Mth mX12_reading (d + 2) 0 [.ref 31, .int (nI j), .int 0] S Q := by
  have hn9 := hg.2.1
  have hp7 := hg.1
  refine Mth_of (by decide) rfl ?_
  refine Ev_aload_n dX12_reading_0 rfl ?_
  refine Ev_iload_n dX12_reading_1 rfl ?_
  refine Ev_callV (bc := 0) (b := 0) dX12_reading_2 cv_X12_167 rfl hM (Nat.le_of_ble_eq_true rfl) (by omega) ?_
  refine c_X12_noStretch hp7 hn9 hM (fun q => absurd q (not_not_intro (by rw [nIt (by omega)]; omega))) (fun _ => ?_)
  refine Ev_if_eq dX12_reading_5 (fun _ => ?_) (fun c => absurd (by decide) c)
  refine Ev_aload_n dX12_reading_10 rfl ?_
  refine Ev_get dX12_reading_11 fg_X12_161_12 hM rfl ?_
  refine Ev_bipush (v := 8) dX12_reading_14 (by decide) ?_
  refine Ev_icmp_ne dX12_reading_16 (fun _ => ?_) (fun c => absurd c (fun z => absurd ((nIinj (b := 8) (by omega) (by decide)).mp z) (by omega)))
  refine Ev_aload_n dX12_reading_22 rfl ?_
  refine Ev_get dX12_reading_23 fg_X12_58_12 hM rfl ?_
  refine Ev_aload_n dX12_reading_26 rfl ?_
  refine Ev_get dX12_reading_27 fg_X12_161_12 hM rfl ?_
  refine Ev_iload_n dX12_reading_30 rfl ?_
  refine Ev_iastoreN (j := q) dX12_reading_31 ho (by omega) (by decide) ?_
  refine Ev_aload_n dX12_reading_32 rfl ?_
  refine Ev_get dX12_reading_33 fg_X12_61_12 (gn (by decide) hM) rfl ?_
  refine Ev_aload_n dX12_reading_36 rfl ?_
  refine Ev_get dX12_reading_37 fg_X12_161_12 (gn (by decide) hM) rfl ?_
  refine Ev_iload_n dX12_reading_40 rfl ?_
  refine Ev_zastoreN (j := q) dX12_reading_41 (gn (by decide) hw) (by omega) (by decide) (by decide) ?_
  refine Ev_aload_n dX12_reading_42 rfl ?_
  refine Ev_dup dX12_reading_43 rfl ?_
  refine Ev_get dX12_reading_44 fg_X12_161_12 (gn (by decide) (gn (by decide) hM)) rfl ?_
  refine Ev_iconst (v := 1) dX12_reading_47 (by decide) ?_
  refine Ev_iadd dX12_reading_48 ?_
  refine Ev_topi (y := nI (q + 1)) (nI_add _ _) ?_
  refine Ev_put dX12_reading_49 fr_X12_161_12 (gn (by decide) (gn (by decide) hM)) rfl rfl rfl ?_
  refine Ev_aload_n dX12_reading_52 rfl ?_
  refine Ev_get dX12_reading_53 fg_X12_161_12 (gs (gn (by decide) (gn (by decide) hM))) rfl ?_
  refine Ev_iconst (v := 1) dX12_reading_56 (by decide) ?_
  refine Ev_isub dX12_reading_57 ?_
  refine Ev_topi (y := nI q) (nI_pred q) ?_
  refine Ev_iret dX12_reading_58 rfl rfl ?_
  exact k

set_option maxHeartbeats 4000000 in
set_option maxRecDepth 100000 in
theorem c_X12_reading1_full {d : Nat} {S : aS} {Q : Option Value → aS → Prop} {flt du lw fr ra rp rs ea dp bm tr : Int32} {bi : Int64} {pl n cs : Nat} {G : Nat → Nat → Nat} (hg : GD pl n G) (hcs : cs < 512) {q : Nat} (hq : q ≤ 8) (hM : S[31]? = some (mo flt (nI pl) (nI n) du lw fr (nI cs) ra rp rs ea dp bm bi (nI q) tr)) (hG : MN S n G) {fo fw : Nat → Int32} (ho : S[48]? = some (iA 8 fo)) (hw : S[49]? = some (zA 8 fw)) {j : Nat} (hj : j < n) (hf : q = 8) (k : Q (some (.int (-4))) S) : Mth mX12_reading (d + 2) 0 [.ref 31, .int (nI j), .int 1] S Q := by
  have hn9 := hg.2.1
  have hp7 := hg.1
  refine Mth_of (by decide) rfl ?_
  refine Ev_aload_n dX12_reading_0 rfl ?_
  refine Ev_iload_n dX12_reading_1 rfl ?_
  refine Ev_callV (bc := 0) (b := 0) dX12_reading_2 cv_X12_167 rfl hM (Nat.le_of_ble_eq_true rfl) (by omega) ?_
  refine c_X12_noStretch hp7 hn9 hM (fun q => absurd q (not_not_intro (by rw [nIt (by omega)]; omega))) (fun _ => ?_)
  refine Ev_if_eq dX12_reading_5 (fun _ => ?_) (fun c => absurd (by decide) c)
  refine Ev_aload_n dX12_reading_10 rfl ?_
  refine Ev_get dX12_reading_11 fg_X12_161_12 hM rfl ?_
  refine Ev_bipush (v := 8) dX12_reading_14 (by decide) ?_
  refine Ev_icmp_ne dX12_reading_16 (fun c => absurd (by rw [hf]; decide) c) (fun _ => ?_)
  refine Ev_bipush (v := (-4)) dX12_reading_19 (by decide) ?_
  refine Ev_iret dX12_reading_21 rfl rfl ?_
  exact k

set_option maxHeartbeats 4000000 in
set_option maxRecDepth 100000 in
theorem c_X12_reading1 {d : Nat} {S : aS} {Q : Option Value → aS → Prop} {flt du lw fr ra rp rs ea dp bm tr : Int32} {bi : Int64} {pl n cs : Nat} {G : Nat → Nat → Nat} (hg : GD pl n G) (hcs : cs < 512) {q : Nat} (hq : q ≤ 8) (hM : S[31]? = some (mo flt (nI pl) (nI n) du lw fr (nI cs) ra rp rs ea dp bm bi (nI q) tr)) (hG : MN S n G) {fo fw : Nat → Int32} (ho : S[48]? = some (iA 8 fo)) (hw : S[49]? = some (zA 8 fw)) {j : Nat} (hj : j < n) (hf : q < 8) (k : Q (some (.int (nI q))) (((S.set 48 (iA 8 (upd fo q (nI j)))).set 49 (zA 8 (upd fw q 1))).set 31 (mo flt (nI pl) (nI n) du lw fr (nI cs) ra rp rs ea dp bm bi (nI (q + 1)) tr))) : Mth mX12_reading (d + 2) 0 [.ref 31, .int (nI j), .int 1] S Q := by
  have hn9 := hg.2.1
  have hp7 := hg.1
  refine Mth_of (by decide) rfl ?_
  refine Ev_aload_n dX12_reading_0 rfl ?_
  refine Ev_iload_n dX12_reading_1 rfl ?_
  refine Ev_callV (bc := 0) (b := 0) dX12_reading_2 cv_X12_167 rfl hM (Nat.le_of_ble_eq_true rfl) (by omega) ?_
  refine c_X12_noStretch hp7 hn9 hM (fun q => absurd q (not_not_intro (by rw [nIt (by omega)]; omega))) (fun _ => ?_)
  refine Ev_if_eq dX12_reading_5 (fun _ => ?_) (fun c => absurd (by decide) c)
  refine Ev_aload_n dX12_reading_10 rfl ?_
  refine Ev_get dX12_reading_11 fg_X12_161_12 hM rfl ?_
  refine Ev_bipush (v := 8) dX12_reading_14 (by decide) ?_
  refine Ev_icmp_ne dX12_reading_16 (fun _ => ?_) (fun c => absurd c (fun z => absurd ((nIinj (b := 8) (by omega) (by decide)).mp z) (by omega)))
  refine Ev_aload_n dX12_reading_22 rfl ?_
  refine Ev_get dX12_reading_23 fg_X12_58_12 hM rfl ?_
  refine Ev_aload_n dX12_reading_26 rfl ?_
  refine Ev_get dX12_reading_27 fg_X12_161_12 hM rfl ?_
  refine Ev_iload_n dX12_reading_30 rfl ?_
  refine Ev_iastoreN (j := q) dX12_reading_31 ho (by omega) (by decide) ?_
  refine Ev_aload_n dX12_reading_32 rfl ?_
  refine Ev_get dX12_reading_33 fg_X12_61_12 (gn (by decide) hM) rfl ?_
  refine Ev_aload_n dX12_reading_36 rfl ?_
  refine Ev_get dX12_reading_37 fg_X12_161_12 (gn (by decide) hM) rfl ?_
  refine Ev_iload_n dX12_reading_40 rfl ?_
  refine Ev_zastoreN (j := q) dX12_reading_41 (gn (by decide) hw) (by omega) (by decide) (by decide) ?_
  refine Ev_aload_n dX12_reading_42 rfl ?_
  refine Ev_dup dX12_reading_43 rfl ?_
  refine Ev_get dX12_reading_44 fg_X12_161_12 (gn (by decide) (gn (by decide) hM)) rfl ?_
  refine Ev_iconst (v := 1) dX12_reading_47 (by decide) ?_
  refine Ev_iadd dX12_reading_48 ?_
  refine Ev_topi (y := nI (q + 1)) (nI_add _ _) ?_
  refine Ev_put dX12_reading_49 fr_X12_161_12 (gn (by decide) (gn (by decide) hM)) rfl rfl rfl ?_
  refine Ev_aload_n dX12_reading_52 rfl ?_
  refine Ev_get dX12_reading_53 fg_X12_161_12 (gs (gn (by decide) (gn (by decide) hM))) rfl ?_
  refine Ev_iconst (v := 1) dX12_reading_56 (by decide) ?_
  refine Ev_isub dX12_reading_57 ?_
  refine Ev_topi (y := nI q) (nI_pred q) ?_
  refine Ev_iret dX12_reading_58 rfl rfl ?_
  exact k

set_option maxHeartbeats 4000000 in
set_option maxRecDepth 100000 in
theorem c_X12_back_bad {d : Nat} {S : aS} {Q : Option Value → aS → Prop} {flt du lw fr ra rp rs ea dp bm tr : Int32} {bi : Int64} {pl n cs : Nat} {G : Nat → Nat → Nat} (hg : GD pl n G) (hcs : cs < 512) {q : Nat} (hq : q ≤ 8) (hM : S[31]? = some (mo flt (nI pl) (nI n) du lw fr (nI cs) ra rp rs ea dp bm bi (nI q) tr)) (hG : MN S n G) {x : Int32} (hx : ¬ (0 ≤ x.toInt ∧ x.toInt ≤ q)) (k : Q (some (.int (-2))) S) : Mth mX12_back (d + 1) 0 [.ref 31, .int x] S Q := by
  refine Mth_of (by decide) rfl ?_
  refine Ev_iload_n dX12_back_0 rfl ?_
  refine Ev_i2l dX12_back_1 ?_
  refine Ev_lconst (v := 0) dX12_back_2 (by decide) ?_
  refine Ev_aload_n dX12_back_3 rfl ?_
  refine Ev_get dX12_back_4 fg_X12_161_12 hM rfl ?_
  refine Ev_i2l dX12_back_7 ?_
  refine Ev_callS (bc := 0) (b := 0) dX12_back_8 cs_X12_97 rfl (Nat.le_of_ble_eq_true rfl) (by omega) ?_
  refine c_X12_in (x := _) (y := 0) (z := (q : Int)) (x64 _) rfl ((x64 _).trans (nIt (by omega))) (fun q => absurd q hx) (fun _ => ?_)
  refine Ev_if_ne dX12_back_11 (fun c => absurd (by decide) c) (fun _ => ?_)
  refine Ev_bipush (v := (-2)) dX12_back_14 (by decide) ?_
  refine Ev_iret dX12_back_16 rfl rfl ?_
  exact k

set_option maxHeartbeats 4000000 in
set_option maxRecDepth 100000 in
theorem c_X12_back {d : Nat} {S : aS} {Q : Option Value → aS → Prop} {flt du lw fr ra rp rs ea dp bm tr : Int32} {bi : Int64} {pl n cs : Nat} {G : Nat → Nat → Nat} (hg : GD pl n G) (hcs : cs < 512) {q : Nat} (hq : q ≤ 8) (hM : S[31]? = some (mo flt (nI pl) (nI n) du lw fr (nI cs) ra rp rs ea dp bm bi (nI q) tr)) (hG : MN S n G) {y : Nat} (hy : y ≤ q) (k : Q (some (.int (nI (q - y)))) (S.set 31 (mo flt (nI pl) (nI n) du lw fr (nI cs) ra rp rs ea dp bm bi (nI (q - y)) tr))) : Mth mX12_back (d + 1) 0 [.ref 31, .int (nI y)] S Q := by
  refine Mth_of (by decide) rfl ?_
  refine Ev_iload_n dX12_back_0 rfl ?_
  refine Ev_i2l dX12_back_1 ?_
  refine Ev_lconst (v := 0) dX12_back_2 (by decide) ?_
  refine Ev_aload_n dX12_back_3 rfl ?_
  refine Ev_get dX12_back_4 fg_X12_161_12 hM rfl ?_
  refine Ev_i2l dX12_back_7 ?_
  refine Ev_callS (bc := 0) (b := 0) dX12_back_8 cs_X12_97 rfl (Nat.le_of_ble_eq_true rfl) (by omega) ?_
  refine c_X12_in (x := (y : Int)) (y := 0) (z := (q : Int)) ((x64 _).trans (nIt (by omega))) rfl ((x64 _).trans (nIt (by omega))) (fun _ => ?_) (fun q => absurd q (not_not_intro (by omega)))
  refine Ev_if_ne dX12_back_11 (fun _ => ?_) (fun c => absurd c (by decide))
  refine Ev_aload_n dX12_back_17 rfl ?_
  refine Ev_dup dX12_back_18 rfl ?_
  refine Ev_get dX12_back_19 fg_X12_161_12 hM rfl ?_
  refine Ev_iload_n dX12_back_22 rfl ?_
  refine Ev_isub dX12_back_23 ?_
  refine Ev_topi (y := nI (q - y)) (nsub hy) ?_
  refine Ev_put dX12_back_24 fr_X12_161_12 hM rfl rfl rfl ?_
  refine Ev_aload_n dX12_back_27 rfl ?_
  refine Ev_get dX12_back_28 fg_X12_161_12 (gs hM) rfl ?_
  refine Ev_iret dX12_back_31 rfl rfl ?_
  exact k

set_option maxHeartbeats 4000000 in
set_option maxRecDepth 100000 in
theorem c_X12_noCell_n {d : Nat} {S : aS} {Q : Option Value → aS → Prop} {flt pl n du lw fr cl ra rp rs ea dp bm rd tr : Int32} {bi : Int64} (hM : S[31]? = some (mo flt pl n du lw fr cl ra rp rs ea dp bm bi rd tr)) {fs fl fc : Nat → Int32} (hs : S[52]? = some (iA 4 fs)) (hl : S[53]? = some (iA 4 fl)) (hc : S[54]? = some (iA 240 fc)) {kk : Nat} (hk : kk < 4) {z : Int} (hz : fs kk = iZ z) (hzr : -1 ≤ z ∧ z ≤ 60) {i : Int32} (hn : z < 0) (k : Q (some (.int 1)) S) : Mth mX12_noCell (d + 1) 0 [.ref 31, .int (nI kk), .int i] S Q := by
  have ez : (iZ z).toInt = z := iZt (by omega)
  refine Mth_of (by decide) rfl ?_
  refine Ev_aload_n dX12_noCell_0 rfl ?_
  refine Ev_get dX12_noCell_1 fg_X12_72_12 hM rfl ?_
  refine Ev_iload_n dX12_noCell_4 rfl ?_
  refine Ev_ialoadN (j := kk) dX12_noCell_5 hs (by omega) (by decide) ?_
  refine Ev_topi (y := iZ z) hz ?_
  refine Ev_if_ge dX12_noCell_6 (fun c => absurd c (by first | (simp only [xlt, xle, xeq, z32_0, z32_1, z32_2, z32_3, z32_8, z32_12, z32_60, ez]; omega) | (simp only [xlt, xle, xeq, z32_0, z32_1, z32_2, z32_3, z32_8, z32_12, z32_60, ez]; done) | omega)) (fun _ => ?_)
  refine Ev_iconst (v := 1) dX12_noCell_9 (by decide) ?_
  refine Ev_goto dX12_noCell_10 ?_
  refine Ev_iret dX12_noCell_36 rfl rfl ?_
  exact k

set_option maxHeartbeats 4000000 in
set_option maxRecDepth 100000 in
theorem c_X12_noCell_i {d : Nat} {S : aS} {Q : Option Value → aS → Prop} {flt pl n du lw fr cl ra rp rs ea dp bm rd tr : Int32} {bi : Int64} (hM : S[31]? = some (mo flt pl n du lw fr cl ra rp rs ea dp bm bi rd tr)) {fs fl fc : Nat → Int32} (hs : S[52]? = some (iA 4 fs)) (hl : S[53]? = some (iA 4 fl)) (hc : S[54]? = some (iA 240 fc)) {kk : Nat} (hk : kk < 4) {z : Int} (hz : fs kk = iZ z) (hzr : -1 ≤ z ∧ z ≤ 60) {i : Int32} (hn : 0 ≤ z) (hi : ¬ (0 ≤ i.toInt ∧ i.toInt < z)) (k : Q (some (.int 3)) S) : Mth mX12_noCell (d + 1) 0 [.ref 31, .int (nI kk), .int i] S Q := by
  have ez : (iZ z).toInt = z := iZt (by omega)
  refine Mth_of (by decide) rfl ?_
  refine Ev_aload_n dX12_noCell_0 rfl ?_
  refine Ev_get dX12_noCell_1 fg_X12_72_12 hM rfl ?_
  refine Ev_iload_n dX12_noCell_4 rfl ?_
  refine Ev_ialoadN (j := kk) dX12_noCell_5 hs (by omega) (by decide) ?_
  refine Ev_topi (y := iZ z) hz ?_
  refine Ev_if_ge dX12_noCell_6 (fun _ => ?_) (fun c => absurd (by first | (simp only [xlt, xle, xeq, z32_0, z32_1, z32_2, z32_3, z32_8, z32_12, z32_60, ez]; omega) | (simp only [xlt, xle, xeq, z32_0, z32_1, z32_2, z32_3, z32_8, z32_12, z32_60, ez]; done) | omega) c)
  refine Ev_iload_n dX12_noCell_13 rfl ?_
  refine Ev_i2l dX12_noCell_14 ?_
  refine Ev_lconst (v := 0) dX12_noCell_15 (by decide) ?_
  refine Ev_aload_n dX12_noCell_16 rfl ?_
  refine Ev_get dX12_noCell_17 fg_X12_72_12 hM rfl ?_
  refine Ev_iload_n dX12_noCell_20 rfl ?_
  refine Ev_ialoadN (j := kk) dX12_noCell_21 hs (by omega) (by decide) ?_
  refine Ev_topi (y := iZ z) hz ?_
  refine Ev_i2l dX12_noCell_22 ?_
  refine Ev_lconst (v := 1) dX12_noCell_23 (by decide) ?_
  refine Ev_lsub dX12_noCell_24 ?_
  refine Ev_callS (bc := 0) (b := 0) dX12_noCell_25 cs_X12_97 rfl (Nat.le_of_ble_eq_true rfl) (by omega) ?_
  refine c_X12_in (x := _) (y := 0) (z := z - 1) (x64 _) rfl (ysub ((x64 _).trans ez) rfl (by omega)) (fun q => absurd q (by omega)) (fun _ => ?_)
  refine Ev_if_eq dX12_noCell_28 (fun _ => ?_) (fun c => absurd (by decide) c)
  refine Ev_iconst (v := 3) dX12_noCell_35 (by decide) ?_
  refine Ev_iret dX12_noCell_36 rfl rfl ?_
  exact k

set_option maxHeartbeats 4000000 in
set_option maxRecDepth 100000 in
theorem c_X12_noCell_o {d : Nat} {S : aS} {Q : Option Value → aS → Prop} {flt pl n du lw fr cl ra rp rs ea dp bm rd tr : Int32} {bi : Int64} (hM : S[31]? = some (mo flt pl n du lw fr cl ra rp rs ea dp bm bi rd tr)) {fs fl fc : Nat → Int32} (hs : S[52]? = some (iA 4 fs)) (hl : S[53]? = some (iA 4 fl)) (hc : S[54]? = some (iA 240 fc)) {kk : Nat} (hk : kk < 4) {z : Int} (hz : fs kk = iZ z) (hzr : -1 ≤ z ∧ z ≤ 60) {i : Int32} (hn : 0 ≤ z) (hi : 0 ≤ i.toInt ∧ i.toInt < z) (k : Q (some (.int 0)) S) : Mth mX12_noCell (d + 1) 0 [.ref 31, .int (nI kk), .int i] S Q := by
  have ez : (iZ z).toInt = z := iZt (by omega)
  refine Mth_of (by decide) rfl ?_
  refine Ev_aload_n dX12_noCell_0 rfl ?_
  refine Ev_get dX12_noCell_1 fg_X12_72_12 hM rfl ?_
  refine Ev_iload_n dX12_noCell_4 rfl ?_
  refine Ev_ialoadN (j := kk) dX12_noCell_5 hs (by omega) (by decide) ?_
  refine Ev_topi (y := iZ z) hz ?_
  refine Ev_if_ge dX12_noCell_6 (fun _ => ?_) (fun c => absurd (by first | (simp only [xlt, xle, xeq, z32_0, z32_1, z32_2, z32_3, z32_8, z32_12, z32_60, ez]; omega) | (simp only [xlt, xle, xeq, z32_0, z32_1, z32_2, z32_3, z32_8, z32_12, z32_60, ez]; done) | omega) c)
  refine Ev_iload_n dX12_noCell_13 rfl ?_
  refine Ev_i2l dX12_noCell_14 ?_
  refine Ev_lconst (v := 0) dX12_noCell_15 (by decide) ?_
  refine Ev_aload_n dX12_noCell_16 rfl ?_
  refine Ev_get dX12_noCell_17 fg_X12_72_12 hM rfl ?_
  refine Ev_iload_n dX12_noCell_20 rfl ?_
  refine Ev_ialoadN (j := kk) dX12_noCell_21 hs (by omega) (by decide) ?_
  refine Ev_topi (y := iZ z) hz ?_
  refine Ev_i2l dX12_noCell_22 ?_
  refine Ev_lconst (v := 1) dX12_noCell_23 (by decide) ?_
  refine Ev_lsub dX12_noCell_24 ?_
  refine Ev_callS (bc := 0) (b := 0) dX12_noCell_25 cs_X12_97 rfl (Nat.le_of_ble_eq_true rfl) (by omega) ?_
  refine c_X12_in (x := _) (y := 0) (z := z - 1) (x64 _) rfl (ysub ((x64 _).trans ez) rfl (by omega)) (fun _ => ?_) (fun q => absurd q (not_not_intro (by omega)))
  refine Ev_if_eq dX12_noCell_28 (fun c => absurd c (by decide)) (fun _ => ?_)
  refine Ev_iconst (v := 0) dX12_noCell_31 (by decide) ?_
  refine Ev_goto dX12_noCell_32 ?_
  refine Ev_iret dX12_noCell_36 rfl rfl ?_
  exact k

set_option maxHeartbeats 4000000 in
set_option maxRecDepth 100000 in
theorem c_X12_put_unk {d : Nat} {S : aS} {Q : Option Value → aS → Prop} {flt pl n du lw fr cl ra rp rs ea dp bm rd tr : Int32} {bi : Int64} (hM : S[31]? = some (mo flt pl n du lw fr cl ra rp rs ea dp bm bi rd tr)) {x : Int32} (hk : ¬ (0 ≤ x.toInt ∧ x.toInt ≤ 3)) {i v : Int32} (k : Q (some (.int (-1))) (S.set 31 (mo 0 pl n du lw fr cl ra rp rs ea dp bm bi rd tr))) : Mth mX12_put (d + 2) 0 [.ref 31, .int x, .int i, .int v] S Q := by
  refine Mth_of (by decide) rfl ?_
  refine Ev_iload_n dX12_put_0 rfl ?_
  refine Ev_callS (bc := 0) (b := 0) dX12_put_1 cs_X12_133 rfl (Nat.le_of_ble_eq_true rfl) (by omega) ?_
  refine c_X12_noSheet (fun _ => ?_) (fun q => absurd q hk)
  refine Ev_if_eq dX12_put_4 (fun c => absurd c (by decide)) (fun _ => ?_)
  refine Ev_aload_n dX12_put_7 rfl ?_
  refine Ev_iconst (v := (-1)) dX12_put_8 (by decide) ?_
  refine Ev_callV (bc := 0) (b := 0) dX12_put_9 cv_X12_137 rfl hM (Nat.le_of_ble_eq_true rfl) (by omega) ?_
  refine c_X12_refused hM ?_
  refine Ev_iret dX12_put_12 rfl rfl ?_
  exact k

set_option maxHeartbeats 4000000 in
set_option maxRecDepth 100000 in
theorem c_X12_put_n {d : Nat} {S : aS} {Q : Option Value → aS → Prop} {flt pl n du lw fr cl ra rp rs ea dp bm rd tr : Int32} {bi : Int64} (hM : S[31]? = some (mo flt pl n du lw fr cl ra rp rs ea dp bm bi rd tr)) {fs fl fc : Nat → Int32} (hs : S[52]? = some (iA 4 fs)) (hl : S[53]? = some (iA 4 fl)) (hc : S[54]? = some (iA 240 fc)) {kk : Nat} (hk : kk < 4) {z : Int} (hz : fs kk = iZ z) (hzr : -1 ≤ z ∧ z ≤ 60) {i v : Int32} (hn : z < 0) (k : Q (some (.int (-11))) (S.set 31 (mo 1 pl n du lw fr cl ra rp rs ea dp bm bi rd tr))) : Mth mX12_put (d + 2) 0 [.ref 31, .int (nI kk), .int i, .int v] S Q := by
  refine Mth_of (by decide) rfl ?_
  refine Ev_iload_n dX12_put_0 rfl ?_
  refine Ev_callS (bc := 0) (b := 0) dX12_put_1 cs_X12_133 rfl (Nat.le_of_ble_eq_true rfl) (by omega) ?_
  refine c_X12_noSheet (fun q => absurd q (not_not_intro (by rw [nIt (by omega)]; omega))) (fun _ => ?_)
  refine Ev_if_eq dX12_put_4 (fun _ => ?_) (fun c => absurd (by decide) c)
  refine Ev_aload_n dX12_put_13 rfl ?_
  refine Ev_iload_n dX12_put_14 rfl ?_
  refine Ev_iload_n dX12_put_15 rfl ?_
  refine Ev_callV (bc := 0) (b := 0) dX12_put_16 cv_X12_281 rfl hM (Nat.le_of_ble_eq_true rfl) (by omega) ?_
  refine c_X12_noCell_n hM hs hl hc hk hz hzr hn ?_
  refine Ev_if_le dX12_put_19 (fun c => absurd c (by decide)) (fun _ => ?_)
  refine Ev_aload_n dX12_put_22 rfl ?_
  refine Ev_aload_n dX12_put_23 rfl ?_
  refine Ev_iload_n dX12_put_24 rfl ?_
  refine Ev_iload_n dX12_put_25 rfl ?_
  refine Ev_callV (bc := 0) (b := 0) dX12_put_26 cv_X12_281 rfl hM (Nat.le_of_ble_eq_true rfl) (by omega) ?_
  refine c_X12_noCell_n hM hs hl hc hk hz hzr hn ?_
  refine Ev_callV (bc := 0) (b := 0) dX12_put_29 cv_X12_125 rfl hM (Nat.le_of_ble_eq_true rfl) (by omega) ?_
  refine c_X12_failed hM ?_
  refine Ev_topi (y := (-11)) (by decide) ?_
  refine Ev_iret dX12_put_32 rfl rfl ?_
  exact k

set_option maxHeartbeats 4000000 in
set_option maxRecDepth 100000 in
theorem c_X12_put_i {d : Nat} {S : aS} {Q : Option Value → aS → Prop} {flt pl n du lw fr cl ra rp rs ea dp bm rd tr : Int32} {bi : Int64} (hM : S[31]? = some (mo flt pl n du lw fr cl ra rp rs ea dp bm bi rd tr)) {fs fl fc : Nat → Int32} (hs : S[52]? = some (iA 4 fs)) (hl : S[53]? = some (iA 4 fl)) (hc : S[54]? = some (iA 240 fc)) {kk : Nat} (hk : kk < 4) {z : Int} (hz : fs kk = iZ z) (hzr : -1 ≤ z ∧ z ≤ 60) {i v : Int32} (hn : 0 ≤ z) (hi : ¬ (0 ≤ i.toInt ∧ i.toInt < z)) (k : Q (some (.int (-13))) (S.set 31 (mo 3 pl n du lw fr cl ra rp rs ea dp bm bi rd tr))) : Mth mX12_put (d + 2) 0 [.ref 31, .int (nI kk), .int i, .int v] S Q := by
  refine Mth_of (by decide) rfl ?_
  refine Ev_iload_n dX12_put_0 rfl ?_
  refine Ev_callS (bc := 0) (b := 0) dX12_put_1 cs_X12_133 rfl (Nat.le_of_ble_eq_true rfl) (by omega) ?_
  refine c_X12_noSheet (fun q => absurd q (not_not_intro (by rw [nIt (by omega)]; omega))) (fun _ => ?_)
  refine Ev_if_eq dX12_put_4 (fun _ => ?_) (fun c => absurd (by decide) c)
  refine Ev_aload_n dX12_put_13 rfl ?_
  refine Ev_iload_n dX12_put_14 rfl ?_
  refine Ev_iload_n dX12_put_15 rfl ?_
  refine Ev_callV (bc := 0) (b := 0) dX12_put_16 cv_X12_281 rfl hM (Nat.le_of_ble_eq_true rfl) (by omega) ?_
  refine c_X12_noCell_i hM hs hl hc hk hz hzr hn hi ?_
  refine Ev_if_le dX12_put_19 (fun c => absurd c (by decide)) (fun _ => ?_)
  refine Ev_aload_n dX12_put_22 rfl ?_
  refine Ev_aload_n dX12_put_23 rfl ?_
  refine Ev_iload_n dX12_put_24 rfl ?_
  refine Ev_iload_n dX12_put_25 rfl ?_
  refine Ev_callV (bc := 0) (b := 0) dX12_put_26 cv_X12_281 rfl hM (Nat.le_of_ble_eq_true rfl) (by omega) ?_
  refine c_X12_noCell_i hM hs hl hc hk hz hzr hn hi ?_
  refine Ev_callV (bc := 0) (b := 0) dX12_put_29 cv_X12_125 rfl hM (Nat.le_of_ble_eq_true rfl) (by omega) ?_
  refine c_X12_failed hM ?_
  refine Ev_topi (y := (-13)) (by decide) ?_
  refine Ev_iret dX12_put_32 rfl rfl ?_
  exact k

set_option maxHeartbeats 4000000 in
set_option maxRecDepth 100000 in
theorem c_X12_put_o0 {d : Nat} {S : aS} {Q : Option Value → aS → Prop} {flt pl n du lw fr cl ra rp rs ea dp bm rd tr : Int32} {bi : Int64} (hM : S[31]? = some (mo flt pl n du lw fr cl ra rp rs ea dp bm bi rd tr)) {fs fl fc : Nat → Int32} (hs : S[52]? = some (iA 4 fs)) (hl : S[53]? = some (iA 4 fl)) (hc : S[54]? = some (iA 240 fc)) {kk : Nat} (hk : kk < 4) {z : Int} (hz : fs kk = iZ z) (hzr : -1 ≤ z ∧ z ≤ 60) (hla : fl kk = 0) {ii : Nat} {v : Int32} (hi : (ii : Int) < z) (k : Q (some (.int 1)) ((S.set 54 (iA 240 (upd fc (60 * kk + ii) v.toInt8.toInt32))).set 31 (mo 0 pl n du lw fr cl ra rp rs ea dp bm bi rd tr))) : Mth mX12_put (d + 2) 0 [.ref 31, .int (nI kk), .int (nI ii), .int v] S Q := by
  refine Mth_of (by decide) rfl ?_
  refine Ev_iload_n dX12_put_0 rfl ?_
  refine Ev_callS (bc := 0) (b := 0) dX12_put_1 cs_X12_133 rfl (Nat.le_of_ble_eq_true rfl) (by omega) ?_
  refine c_X12_noSheet (fun q => absurd q (not_not_intro (by rw [nIt (by omega)]; omega))) (fun _ => ?_)
  refine Ev_if_eq dX12_put_4 (fun _ => ?_) (fun c => absurd (by decide) c)
  refine Ev_aload_n dX12_put_13 rfl ?_
  refine Ev_iload_n dX12_put_14 rfl ?_
  refine Ev_iload_n dX12_put_15 rfl ?_
  refine Ev_callV (bc := 0) (b := 0) dX12_put_16 cv_X12_281 rfl hM (Nat.le_of_ble_eq_true rfl) (by omega) ?_
  refine c_X12_noCell_o hM hs hl hc hk hz hzr (by omega) (by rw [nIt (by omega)]; omega) ?_
  refine Ev_if_le dX12_put_19 (fun _ => ?_) (fun c => absurd (by decide) c)
  refine Ev_aload_n dX12_put_33 rfl ?_
  refine Ev_get dX12_put_34 fg_X12_78_12 hM rfl ?_
  refine Ev_bipush (v := 60) dX12_put_37 (by decide) ?_
  refine Ev_iload_n dX12_put_39 rfl ?_
  refine Ev_imul dX12_put_40 ?_
  refine Ev_topi (y := nI (60 * kk)) (nmul _ _) ?_
  refine Ev_iload_n dX12_put_41 rfl ?_
  refine Ev_iadd dX12_put_42 ?_
  refine Ev_topi (y := nI ((60 * kk) + ii)) (nI_add _ _) ?_
  refine Ev_aload_n dX12_put_43 rfl ?_
  refine Ev_get dX12_put_44 fg_X12_75_12 hM rfl ?_
  refine Ev_iload_n dX12_put_47 rfl ?_
  refine Ev_ialoadN (j := kk) dX12_put_48 hl (by omega) (by decide) ?_
  refine Ev_topi (y := 0) hla ?_
  refine Ev_if_ne dX12_put_49 (fun c => absurd (by decide) c) (fun _ => ?_)
  refine Ev_iload_n dX12_put_52 rfl ?_
  refine Ev_i2b dX12_put_53 ?_
  refine Ev_goto dX12_put_54 ?_
  refine Ev_iastoreN (j := (60 * kk) + ii) dX12_put_73 hc (by omega) (by decide) ?_
  refine Ev_aload_n dX12_put_74 rfl ?_
  refine Ev_iconst (v := 1) dX12_put_75 (by decide) ?_
  refine Ev_callV (bc := 0) (b := 0) dX12_put_76 cv_X12_137 rfl (gn (by decide) hM) (Nat.le_of_ble_eq_true rfl) (by omega) ?_
  refine c_X12_refused (gn (by decide) hM) ?_
  refine Ev_iret dX12_put_79 rfl rfl ?_
  exact k

set_option maxHeartbeats 4000000 in
set_option maxRecDepth 100000 in
theorem c_X12_put_o1 {d : Nat} {S : aS} {Q : Option Value → aS → Prop} {flt pl n du lw fr cl ra rp rs ea dp bm rd tr : Int32} {bi : Int64} (hM : S[31]? = some (mo flt pl n du lw fr cl ra rp rs ea dp bm bi rd tr)) {fs fl fc : Nat → Int32} (hs : S[52]? = some (iA 4 fs)) (hl : S[53]? = some (iA 4 fl)) (hc : S[54]? = some (iA 240 fc)) {kk : Nat} (hk : kk < 4) {z : Int} (hz : fs kk = iZ z) (hzr : -1 ≤ z ∧ z ≤ 60) (hla : fl kk = 1) {ii : Nat} {v : Int32} (hi : (ii : Int) < z) (k : Q (some (.int 1)) ((S.set 54 (iA 240 (upd fc (60 * kk + ii) v.toInt16.toInt32))).set 31 (mo 0 pl n du lw fr cl ra rp rs ea dp bm bi rd tr))) : Mth mX12_put (d + 2) 0 [.ref 31, .int (nI kk), .int (nI ii), .int v] S Q := by
  refine Mth_of (by decide) rfl ?_
  refine Ev_iload_n dX12_put_0 rfl ?_
  refine Ev_callS (bc := 0) (b := 0) dX12_put_1 cs_X12_133 rfl (Nat.le_of_ble_eq_true rfl) (by omega) ?_
  refine c_X12_noSheet (fun q => absurd q (not_not_intro (by rw [nIt (by omega)]; omega))) (fun _ => ?_)
  refine Ev_if_eq dX12_put_4 (fun _ => ?_) (fun c => absurd (by decide) c)
  refine Ev_aload_n dX12_put_13 rfl ?_
  refine Ev_iload_n dX12_put_14 rfl ?_
  refine Ev_iload_n dX12_put_15 rfl ?_
  refine Ev_callV (bc := 0) (b := 0) dX12_put_16 cv_X12_281 rfl hM (Nat.le_of_ble_eq_true rfl) (by omega) ?_
  refine c_X12_noCell_o hM hs hl hc hk hz hzr (by omega) (by rw [nIt (by omega)]; omega) ?_
  refine Ev_if_le dX12_put_19 (fun _ => ?_) (fun c => absurd (by decide) c)
  refine Ev_aload_n dX12_put_33 rfl ?_
  refine Ev_get dX12_put_34 fg_X12_78_12 hM rfl ?_
  refine Ev_bipush (v := 60) dX12_put_37 (by decide) ?_
  refine Ev_iload_n dX12_put_39 rfl ?_
  refine Ev_imul dX12_put_40 ?_
  refine Ev_topi (y := nI (60 * kk)) (nmul _ _) ?_
  refine Ev_iload_n dX12_put_41 rfl ?_
  refine Ev_iadd dX12_put_42 ?_
  refine Ev_topi (y := nI ((60 * kk) + ii)) (nI_add _ _) ?_
  refine Ev_aload_n dX12_put_43 rfl ?_
  refine Ev_get dX12_put_44 fg_X12_75_12 hM rfl ?_
  refine Ev_iload_n dX12_put_47 rfl ?_
  refine Ev_ialoadN (j := kk) dX12_put_48 hl (by omega) (by decide) ?_
  refine Ev_topi (y := 1) hla ?_
  refine Ev_if_ne dX12_put_49 (fun _ => ?_) (fun c => absurd c (by decide))
  refine Ev_aload_n dX12_put_57 rfl ?_
  refine Ev_get dX12_put_58 fg_X12_75_12 hM rfl ?_
  refine Ev_iload_n dX12_put_61 rfl ?_
  refine Ev_ialoadN (j := kk) dX12_put_62 hl (by omega) (by decide) ?_
  refine Ev_topi (y := 1) hla ?_
  refine Ev_iconst (v := 1) dX12_put_63 (by decide) ?_
  refine Ev_icmp_ne dX12_put_64 (fun c => absurd (by decide) c) (fun _ => ?_)
  refine Ev_iload_n dX12_put_67 rfl ?_
  refine Ev_i2s dX12_put_68 ?_
  refine Ev_goto dX12_put_69 ?_
  refine Ev_iastoreN (j := (60 * kk) + ii) dX12_put_73 hc (by omega) (by decide) ?_
  refine Ev_aload_n dX12_put_74 rfl ?_
  refine Ev_iconst (v := 1) dX12_put_75 (by decide) ?_
  refine Ev_callV (bc := 0) (b := 0) dX12_put_76 cv_X12_137 rfl (gn (by decide) hM) (Nat.le_of_ble_eq_true rfl) (by omega) ?_
  refine c_X12_refused (gn (by decide) hM) ?_
  refine Ev_iret dX12_put_79 rfl rfl ?_
  exact k

set_option maxHeartbeats 4000000 in
set_option maxRecDepth 100000 in
theorem c_X12_put_o2 {d : Nat} {S : aS} {Q : Option Value → aS → Prop} {flt pl n du lw fr cl ra rp rs ea dp bm rd tr : Int32} {bi : Int64} (hM : S[31]? = some (mo flt pl n du lw fr cl ra rp rs ea dp bm bi rd tr)) {fs fl fc : Nat → Int32} (hs : S[52]? = some (iA 4 fs)) (hl : S[53]? = some (iA 4 fl)) (hc : S[54]? = some (iA 240 fc)) {kk : Nat} (hk : kk < 4) {z : Int} (hz : fs kk = iZ z) (hzr : -1 ≤ z ∧ z ≤ 60) (hla : fl kk = 2) {ii : Nat} {v : Int32} (hi : (ii : Int) < z) (k : Q (some (.int 1)) ((S.set 54 (iA 240 (upd fc (60 * kk + ii) v))).set 31 (mo 0 pl n du lw fr cl ra rp rs ea dp bm bi rd tr))) : Mth mX12_put (d + 2) 0 [.ref 31, .int (nI kk), .int (nI ii), .int v] S Q := by
  refine Mth_of (by decide) rfl ?_
  refine Ev_iload_n dX12_put_0 rfl ?_
  refine Ev_callS (bc := 0) (b := 0) dX12_put_1 cs_X12_133 rfl (Nat.le_of_ble_eq_true rfl) (by omega) ?_
  refine c_X12_noSheet (fun q => absurd q (not_not_intro (by rw [nIt (by omega)]; omega))) (fun _ => ?_)
  refine Ev_if_eq dX12_put_4 (fun _ => ?_) (fun c => absurd (by decide) c)
  refine Ev_aload_n dX12_put_13 rfl ?_
  refine Ev_iload_n dX12_put_14 rfl ?_
  refine Ev_iload_n dX12_put_15 rfl ?_
  refine Ev_callV (bc := 0) (b := 0) dX12_put_16 cv_X12_281 rfl hM (Nat.le_of_ble_eq_true rfl) (by omega) ?_
  refine c_X12_noCell_o hM hs hl hc hk hz hzr (by omega) (by rw [nIt (by omega)]; omega) ?_
  refine Ev_if_le dX12_put_19 (fun _ => ?_) (fun c => absurd (by decide) c)
  refine Ev_aload_n dX12_put_33 rfl ?_
  refine Ev_get dX12_put_34 fg_X12_78_12 hM rfl ?_
  refine Ev_bipush (v := 60) dX12_put_37 (by decide) ?_
  refine Ev_iload_n dX12_put_39 rfl ?_
  refine Ev_imul dX12_put_40 ?_
  refine Ev_topi (y := nI (60 * kk)) (nmul _ _) ?_
  refine Ev_iload_n dX12_put_41 rfl ?_
  refine Ev_iadd dX12_put_42 ?_
  refine Ev_topi (y := nI ((60 * kk) + ii)) (nI_add _ _) ?_
  refine Ev_aload_n dX12_put_43 rfl ?_
  refine Ev_get dX12_put_44 fg_X12_75_12 hM rfl ?_
  refine Ev_iload_n dX12_put_47 rfl ?_
  refine Ev_ialoadN (j := kk) dX12_put_48 hl (by omega) (by decide) ?_
  refine Ev_topi (y := 2) hla ?_
  refine Ev_if_ne dX12_put_49 (fun _ => ?_) (fun c => absurd c (by decide))
  refine Ev_aload_n dX12_put_57 rfl ?_
  refine Ev_get dX12_put_58 fg_X12_75_12 hM rfl ?_
  refine Ev_iload_n dX12_put_61 rfl ?_
  refine Ev_ialoadN (j := kk) dX12_put_62 hl (by omega) (by decide) ?_
  refine Ev_topi (y := 2) hla ?_
  refine Ev_iconst (v := 1) dX12_put_63 (by decide) ?_
  refine Ev_icmp_ne dX12_put_64 (fun _ => ?_) (fun c => absurd c (by decide))
  refine Ev_iload_n dX12_put_72 rfl ?_
  refine Ev_iastoreN (j := (60 * kk) + ii) dX12_put_73 hc (by omega) (by decide) ?_
  refine Ev_aload_n dX12_put_74 rfl ?_
  refine Ev_iconst (v := 1) dX12_put_75 (by decide) ?_
  refine Ev_callV (bc := 0) (b := 0) dX12_put_76 cv_X12_137 rfl (gn (by decide) hM) (Nat.le_of_ble_eq_true rfl) (by omega) ?_
  refine c_X12_refused (gn (by decide) hM) ?_
  refine Ev_iret dX12_put_79 rfl rfl ?_
  exact k

set_option maxHeartbeats 4000000 in
set_option maxRecDepth 100000 in
theorem c_X12_cell_unk {d : Nat} {S : aS} {Q : Option Value → aS → Prop} {flt pl n du lw fr cl ra rp rs ea dp bm rd tr : Int32} {bi : Int64} (hM : S[31]? = some (mo flt pl n du lw fr cl ra rp rs ea dp bm bi rd tr)) {x : Int32} (hk : ¬ (0 ≤ x.toInt ∧ x.toInt ≤ 3)) {i w : Int32} (k : Q (some (.long (-9223372036854775808))) (S.set 31 (mo 0 pl n du lw fr cl ra rp rs ea dp bm bi rd tr))) : Mth mX12_cell (d + 2) 0 [.ref 31, .int x, .int i, .int w] S Q := by
  refine Mth_of (by decide) rfl ?_
  refine Ev_aload_n dX12_cell_0 rfl ?_
  refine Ev_iconst (v := 0) dX12_cell_1 (by decide) ?_
  refine Ev_put dX12_cell_2 fr_X12_86_12 hM rfl rfl rfl ?_
  refine Ev_iload_n dX12_cell_5 rfl ?_
  refine Ev_callS (bc := 0) (b := 0) dX12_cell_6 cs_X12_133 rfl (Nat.le_of_ble_eq_true rfl) (by omega) ?_
  refine c_X12_noSheet (fun _ => ?_) (fun q => absurd q hk)
  refine Ev_if_ne dX12_cell_9 (fun _ => ?_) (fun c => absurd c (by decide))
  refine Ev_callS (bc := 0) (b := 0) dX12_cell_24 cs_X12_90 rfl (Nat.le_of_ble_eq_true rfl) (by omega) ?_
  refine c_X12_lost ?_
  refine Ev_lret dX12_cell_27 rfl ?_
  exact k

set_option maxHeartbeats 4000000 in
set_option maxRecDepth 100000 in
theorem c_X12_cell_lane {d : Nat} {S : aS} {Q : Option Value → aS → Prop} {flt pl n du lw fr cl ra rp rs ea dp bm rd tr : Int32} {bi : Int64} (hM : S[31]? = some (mo flt pl n du lw fr cl ra rp rs ea dp bm bi rd tr)) {kk : Nat} (hk : kk < 4) {i w : Int32} (hw : ¬ (0 ≤ w.toInt ∧ w.toInt ≤ 2)) (k : Q (some (.long (-9223372036854775808))) (S.set 31 (mo 0 pl n du lw fr cl ra rp rs ea dp bm bi rd tr))) : Mth mX12_cell (d + 2) 0 [.ref 31, .int (nI kk), .int i, .int w] S Q := by
  refine Mth_of (by decide) rfl ?_
  refine Ev_aload_n dX12_cell_0 rfl ?_
  refine Ev_iconst (v := 0) dX12_cell_1 (by decide) ?_
  refine Ev_put dX12_cell_2 fr_X12_86_12 hM rfl rfl rfl ?_
  refine Ev_iload_n dX12_cell_5 rfl ?_
  refine Ev_callS (bc := 0) (b := 0) dX12_cell_6 cs_X12_133 rfl (Nat.le_of_ble_eq_true rfl) (by omega) ?_
  refine c_X12_noSheet (fun q => absurd q (not_not_intro (by rw [nIt (by omega)]; omega))) (fun _ => ?_)
  refine Ev_if_ne dX12_cell_9 (fun c => absurd (by decide) c) (fun _ => ?_)
  refine Ev_iload_n dX12_cell_12 rfl ?_
  refine Ev_i2l dX12_cell_13 ?_
  refine Ev_lconst (v := 0) dX12_cell_14 (by decide) ?_
  refine Ev_ldc2 dX12_cell_15 wl_X12_140 ?_
  refine Ev_callS (bc := 0) (b := 0) dX12_cell_18 cs_X12_97 rfl (Nat.le_of_ble_eq_true rfl) (by omega) ?_
  refine c_X12_in (x := _) (y := 0) (z := 2) (x64 _) rfl rfl (fun q => absurd q hw) (fun _ => ?_)
  refine Ev_if_ne dX12_cell_21 (fun c => absurd (by decide) c) (fun _ => ?_)
  refine Ev_callS (bc := 0) (b := 0) dX12_cell_24 cs_X12_90 rfl (Nat.le_of_ble_eq_true rfl) (by omega) ?_
  refine c_X12_lost ?_
  refine Ev_lret dX12_cell_27 rfl ?_
  exact k

set_option maxHeartbeats 4000000 in
set_option maxRecDepth 100000 in
theorem c_X12_cell_cast {d : Nat} {S : aS} {Q : Option Value → aS → Prop} {flt pl n du lw fr cl ra rp rs ea dp bm rd tr : Int32} {bi : Int64} (hM : S[31]? = some (mo flt pl n du lw fr cl ra rp rs ea dp bm bi rd tr)) {fs fl fc : Nat → Int32} (hs : S[52]? = some (iA 4 fs)) (hl : S[53]? = some (iA 4 fl)) (hc : S[54]? = some (iA 240 fc)) {kk : Nat} (hk : kk < 4) {z : Int} (hz : fs kk = iZ z) (hzr : -1 ≤ z ∧ z ≤ 60) {i w : Int32} (hw : 0 ≤ w.toInt ∧ w.toInt ≤ 2) (hn : 0 ≤ z) (hne : ¬ fl kk = w) (k : Q (some (.long (-9223372036854775808))) (S.set 31 (mo 2 pl n du lw fr cl ra rp rs ea dp bm bi rd tr))) : Mth mX12_cell (d + 2) 0 [.ref 31, .int (nI kk), .int i, .int w] S Q := by
  have ez : (iZ z).toInt = z := iZt (by omega)
  refine Mth_of (by decide) rfl ?_
  refine Ev_aload_n dX12_cell_0 rfl ?_
  refine Ev_iconst (v := 0) dX12_cell_1 (by decide) ?_
  refine Ev_put dX12_cell_2 fr_X12_86_12 hM rfl rfl rfl ?_
  refine Ev_iload_n dX12_cell_5 rfl ?_
  refine Ev_callS (bc := 0) (b := 0) dX12_cell_6 cs_X12_133 rfl (Nat.le_of_ble_eq_true rfl) (by omega) ?_
  refine c_X12_noSheet (fun q => absurd q (not_not_intro (by rw [nIt (by omega)]; omega))) (fun _ => ?_)
  refine Ev_if_ne dX12_cell_9 (fun c => absurd (by decide) c) (fun _ => ?_)
  refine Ev_iload_n dX12_cell_12 rfl ?_
  refine Ev_i2l dX12_cell_13 ?_
  refine Ev_lconst (v := 0) dX12_cell_14 (by decide) ?_
  refine Ev_ldc2 dX12_cell_15 wl_X12_140 ?_
  refine Ev_callS (bc := 0) (b := 0) dX12_cell_18 cs_X12_97 rfl (Nat.le_of_ble_eq_true rfl) (by omega) ?_
  refine c_X12_in (x := _) (y := 0) (z := 2) (x64 _) rfl rfl (fun _ => ?_) (fun q => absurd q (not_not_intro hw))
  refine Ev_if_ne dX12_cell_21 (fun _ => ?_) (fun c => absurd c (by decide))
  refine Ev_aload_n dX12_cell_28 rfl ?_
  refine Ev_get dX12_cell_29 fg_X12_72_12 (gs hM) rfl ?_
  refine Ev_iload_n dX12_cell_32 rfl ?_
  refine Ev_ialoadN (j := kk) dX12_cell_33 (gn (by decide) hs) (by omega) (by decide) ?_
  refine Ev_topi (y := iZ z) hz ?_
  refine Ev_if_lt dX12_cell_34 (fun c => absurd c (by first | (simp only [xlt, xle, xeq, z32_0, z32_1, z32_2, z32_3, z32_8, z32_12, z32_60, ez]; omega) | (simp only [xlt, xle, xeq, z32_0, z32_1, z32_2, z32_3, z32_8, z32_12, z32_60, ez]; done) | omega)) (fun _ => ?_)
  refine Ev_aload_n dX12_cell_37 rfl ?_
  refine Ev_get dX12_cell_38 fg_X12_75_12 (gs hM) rfl ?_
  refine Ev_iload_n dX12_cell_41 rfl ?_
  refine Ev_ialoadN (j := kk) dX12_cell_42 (gn (by decide) hl) (by omega) (by decide) ?_
  refine Ev_topi (y := fl kk) rfl ?_
  refine Ev_iload_n dX12_cell_43 rfl ?_
  refine Ev_icmp_eq dX12_cell_44 (fun c => absurd c hne) (fun _ => ?_)
  refine Ev_aload_n dX12_cell_47 rfl ?_
  refine Ev_iconst (v := 2) dX12_cell_48 (by decide) ?_
  refine Ev_callV (bc := 0) (b := 0) dX12_cell_49 cv_X12_284 rfl (gs hM) (Nat.le_of_ble_eq_true rfl) (by omega) ?_
  refine c_X12_failedLong (gs hM) ?_
  refine Ev_st gss ?_
  refine Ev_lret dX12_cell_52 rfl ?_
  exact k

set_option maxHeartbeats 4000000 in
set_option maxRecDepth 100000 in
theorem c_X12_cell_n {d : Nat} {S : aS} {Q : Option Value → aS → Prop} {flt pl n du lw fr cl ra rp rs ea dp bm rd tr : Int32} {bi : Int64} (hM : S[31]? = some (mo flt pl n du lw fr cl ra rp rs ea dp bm bi rd tr)) {fs fl fc : Nat → Int32} (hs : S[52]? = some (iA 4 fs)) (hl : S[53]? = some (iA 4 fl)) (hc : S[54]? = some (iA 240 fc)) {kk : Nat} (hk : kk < 4) {z : Int} (hz : fs kk = iZ z) (hzr : -1 ≤ z ∧ z ≤ 60) {i w : Int32} (hw : 0 ≤ w.toInt ∧ w.toInt ≤ 2) (hn : z < 0) (k : Q (some (.long (-9223372036854775808))) (S.set 31 (mo 1 pl n du lw fr cl ra rp rs ea dp bm bi rd tr))) : Mth mX12_cell (d + 2) 0 [.ref 31, .int (nI kk), .int i, .int w] S Q := by
  have ez : (iZ z).toInt = z := iZt (by omega)
  refine Mth_of (by decide) rfl ?_
  refine Ev_aload_n dX12_cell_0 rfl ?_
  refine Ev_iconst (v := 0) dX12_cell_1 (by decide) ?_
  refine Ev_put dX12_cell_2 fr_X12_86_12 hM rfl rfl rfl ?_
  refine Ev_iload_n dX12_cell_5 rfl ?_
  refine Ev_callS (bc := 0) (b := 0) dX12_cell_6 cs_X12_133 rfl (Nat.le_of_ble_eq_true rfl) (by omega) ?_
  refine c_X12_noSheet (fun q => absurd q (not_not_intro (by rw [nIt (by omega)]; omega))) (fun _ => ?_)
  refine Ev_if_ne dX12_cell_9 (fun c => absurd (by decide) c) (fun _ => ?_)
  refine Ev_iload_n dX12_cell_12 rfl ?_
  refine Ev_i2l dX12_cell_13 ?_
  refine Ev_lconst (v := 0) dX12_cell_14 (by decide) ?_
  refine Ev_ldc2 dX12_cell_15 wl_X12_140 ?_
  refine Ev_callS (bc := 0) (b := 0) dX12_cell_18 cs_X12_97 rfl (Nat.le_of_ble_eq_true rfl) (by omega) ?_
  refine c_X12_in (x := _) (y := 0) (z := 2) (x64 _) rfl rfl (fun _ => ?_) (fun q => absurd q (not_not_intro hw))
  refine Ev_if_ne dX12_cell_21 (fun _ => ?_) (fun c => absurd c (by decide))
  refine Ev_aload_n dX12_cell_28 rfl ?_
  refine Ev_get dX12_cell_29 fg_X12_72_12 (gs hM) rfl ?_
  refine Ev_iload_n dX12_cell_32 rfl ?_
  refine Ev_ialoadN (j := kk) dX12_cell_33 (gn (by decide) hs) (by omega) (by decide) ?_
  refine Ev_topi (y := iZ z) hz ?_
  refine Ev_if_lt dX12_cell_34 (fun _ => ?_) (fun c => absurd (by first | (simp only [xlt, xle, xeq, z32_0, z32_1, z32_2, z32_3, z32_8, z32_12, z32_60, ez]; omega) | (simp only [xlt, xle, xeq, z32_0, z32_1, z32_2, z32_3, z32_8, z32_12, z32_60, ez]; done) | omega) c)
  refine Ev_aload_n dX12_cell_53 rfl ?_
  refine Ev_iload_n dX12_cell_54 rfl ?_
  refine Ev_iload_n dX12_cell_55 rfl ?_
  refine Ev_callV (bc := 0) (b := 0) dX12_cell_56 cv_X12_281 rfl (gs hM) (Nat.le_of_ble_eq_true rfl) (by omega) ?_
  refine c_X12_noCell_n (gs hM) (gn (by decide) hs) (gn (by decide) hl) (gn (by decide) hc) hk hz hzr hn ?_
  refine Ev_if_le dX12_cell_59 (fun c => absurd c (by decide)) (fun _ => ?_)
  refine Ev_aload_n dX12_cell_62 rfl ?_
  refine Ev_aload_n dX12_cell_63 rfl ?_
  refine Ev_iload_n dX12_cell_64 rfl ?_
  refine Ev_iload_n dX12_cell_65 rfl ?_
  refine Ev_callV (bc := 0) (b := 0) dX12_cell_66 cv_X12_281 rfl (gs hM) (Nat.le_of_ble_eq_true rfl) (by omega) ?_
  refine c_X12_noCell_n (gs hM) (gn (by decide) hs) (gn (by decide) hl) (gn (by decide) hc) hk hz hzr hn ?_
  refine Ev_callV (bc := 0) (b := 0) dX12_cell_69 cv_X12_284 rfl (gs hM) (Nat.le_of_ble_eq_true rfl) (by omega) ?_
  refine c_X12_failedLong (gs hM) ?_
  refine Ev_st gss ?_
  refine Ev_goto dX12_cell_72 ?_
  refine Ev_lret dX12_cell_87 rfl ?_
  exact k

set_option maxHeartbeats 4000000 in
set_option maxRecDepth 100000 in
theorem c_X12_cell_i {d : Nat} {S : aS} {Q : Option Value → aS → Prop} {flt pl n du lw fr cl ra rp rs ea dp bm rd tr : Int32} {bi : Int64} (hM : S[31]? = some (mo flt pl n du lw fr cl ra rp rs ea dp bm bi rd tr)) {fs fl fc : Nat → Int32} (hs : S[52]? = some (iA 4 fs)) (hl : S[53]? = some (iA 4 fl)) (hc : S[54]? = some (iA 240 fc)) {kk : Nat} (hk : kk < 4) {z : Int} (hz : fs kk = iZ z) (hzr : -1 ≤ z ∧ z ≤ 60) {i w : Int32} (hw : 0 ≤ w.toInt ∧ w.toInt ≤ 2) (hn : 0 ≤ z) (heq : fl kk = w) (hi : ¬ (0 ≤ i.toInt ∧ i.toInt < z)) (k : Q (some (.long (-9223372036854775808))) (S.set 31 (mo 3 pl n du lw fr cl ra rp rs ea dp bm bi rd tr))) : Mth mX12_cell (d + 2) 0 [.ref 31, .int (nI kk), .int i, .int w] S Q := by
  have ez : (iZ z).toInt = z := iZt (by omega)
  refine Mth_of (by decide) rfl ?_
  refine Ev_aload_n dX12_cell_0 rfl ?_
  refine Ev_iconst (v := 0) dX12_cell_1 (by decide) ?_
  refine Ev_put dX12_cell_2 fr_X12_86_12 hM rfl rfl rfl ?_
  refine Ev_iload_n dX12_cell_5 rfl ?_
  refine Ev_callS (bc := 0) (b := 0) dX12_cell_6 cs_X12_133 rfl (Nat.le_of_ble_eq_true rfl) (by omega) ?_
  refine c_X12_noSheet (fun q => absurd q (not_not_intro (by rw [nIt (by omega)]; omega))) (fun _ => ?_)
  refine Ev_if_ne dX12_cell_9 (fun c => absurd (by decide) c) (fun _ => ?_)
  refine Ev_iload_n dX12_cell_12 rfl ?_
  refine Ev_i2l dX12_cell_13 ?_
  refine Ev_lconst (v := 0) dX12_cell_14 (by decide) ?_
  refine Ev_ldc2 dX12_cell_15 wl_X12_140 ?_
  refine Ev_callS (bc := 0) (b := 0) dX12_cell_18 cs_X12_97 rfl (Nat.le_of_ble_eq_true rfl) (by omega) ?_
  refine c_X12_in (x := _) (y := 0) (z := 2) (x64 _) rfl rfl (fun _ => ?_) (fun q => absurd q (not_not_intro hw))
  refine Ev_if_ne dX12_cell_21 (fun _ => ?_) (fun c => absurd c (by decide))
  refine Ev_aload_n dX12_cell_28 rfl ?_
  refine Ev_get dX12_cell_29 fg_X12_72_12 (gs hM) rfl ?_
  refine Ev_iload_n dX12_cell_32 rfl ?_
  refine Ev_ialoadN (j := kk) dX12_cell_33 (gn (by decide) hs) (by omega) (by decide) ?_
  refine Ev_topi (y := iZ z) hz ?_
  refine Ev_if_lt dX12_cell_34 (fun c => absurd c (by first | (simp only [xlt, xle, xeq, z32_0, z32_1, z32_2, z32_3, z32_8, z32_12, z32_60, ez]; omega) | (simp only [xlt, xle, xeq, z32_0, z32_1, z32_2, z32_3, z32_8, z32_12, z32_60, ez]; done) | omega)) (fun _ => ?_)
  refine Ev_aload_n dX12_cell_37 rfl ?_
  refine Ev_get dX12_cell_38 fg_X12_75_12 (gs hM) rfl ?_
  refine Ev_iload_n dX12_cell_41 rfl ?_
  refine Ev_ialoadN (j := kk) dX12_cell_42 (gn (by decide) hl) (by omega) (by decide) ?_
  refine Ev_topi (y := fl kk) rfl ?_
  refine Ev_iload_n dX12_cell_43 rfl ?_
  refine Ev_icmp_eq dX12_cell_44 (fun _ => ?_) (fun c => absurd heq c)
  refine Ev_aload_n dX12_cell_53 rfl ?_
  refine Ev_iload_n dX12_cell_54 rfl ?_
  refine Ev_iload_n dX12_cell_55 rfl ?_
  refine Ev_callV (bc := 0) (b := 0) dX12_cell_56 cv_X12_281 rfl (gs hM) (Nat.le_of_ble_eq_true rfl) (by omega) ?_
  refine c_X12_noCell_i (gs hM) (gn (by decide) hs) (gn (by decide) hl) (gn (by decide) hc) hk hz hzr hn hi ?_
  refine Ev_if_le dX12_cell_59 (fun c => absurd c (by decide)) (fun _ => ?_)
  refine Ev_aload_n dX12_cell_62 rfl ?_
  refine Ev_aload_n dX12_cell_63 rfl ?_
  refine Ev_iload_n dX12_cell_64 rfl ?_
  refine Ev_iload_n dX12_cell_65 rfl ?_
  refine Ev_callV (bc := 0) (b := 0) dX12_cell_66 cv_X12_281 rfl (gs hM) (Nat.le_of_ble_eq_true rfl) (by omega) ?_
  refine c_X12_noCell_i (gs hM) (gn (by decide) hs) (gn (by decide) hl) (gn (by decide) hc) hk hz hzr hn hi ?_
  refine Ev_callV (bc := 0) (b := 0) dX12_cell_69 cv_X12_284 rfl (gs hM) (Nat.le_of_ble_eq_true rfl) (by omega) ?_
  refine c_X12_failedLong (gs hM) ?_
  refine Ev_st gss ?_
  refine Ev_goto dX12_cell_72 ?_
  refine Ev_lret dX12_cell_87 rfl ?_
  exact k

set_option maxHeartbeats 4000000 in
set_option maxRecDepth 100000 in
theorem c_X12_cell_o {d : Nat} {S : aS} {Q : Option Value → aS → Prop} {flt pl n du lw fr cl ra rp rs ea dp bm rd tr : Int32} {bi : Int64} (hM : S[31]? = some (mo flt pl n du lw fr cl ra rp rs ea dp bm bi rd tr)) {fs fl fc : Nat → Int32} (hs : S[52]? = some (iA 4 fs)) (hl : S[53]? = some (iA 4 fl)) (hc : S[54]? = some (iA 240 fc)) {kk : Nat} (hk : kk < 4) {z : Int} (hz : fs kk = iZ z) (hzr : -1 ≤ z ∧ z ≤ 60) {ii : Nat} {w : Int32} (hw : 0 ≤ w.toInt ∧ w.toInt ≤ 2) (hn : 0 ≤ z) (heq : fl kk = w) (hi : (ii : Int) < z) (k : Q (some (.long (fc (60 * kk + ii)).toInt64)) (S.set 31 (mo 0 pl n du lw fr cl ra rp rs ea dp bm bi rd tr))) : Mth mX12_cell (d + 2) 0 [.ref 31, .int (nI kk), .int (nI ii), .int w] S Q := by
  have ez : (iZ z).toInt = z := iZt (by omega)
  refine Mth_of (by decide) rfl ?_
  refine Ev_aload_n dX12_cell_0 rfl ?_
  refine Ev_iconst (v := 0) dX12_cell_1 (by decide) ?_
  refine Ev_put dX12_cell_2 fr_X12_86_12 hM rfl rfl rfl ?_
  refine Ev_iload_n dX12_cell_5 rfl ?_
  refine Ev_callS (bc := 0) (b := 0) dX12_cell_6 cs_X12_133 rfl (Nat.le_of_ble_eq_true rfl) (by omega) ?_
  refine c_X12_noSheet (fun q => absurd q (not_not_intro (by rw [nIt (by omega)]; omega))) (fun _ => ?_)
  refine Ev_if_ne dX12_cell_9 (fun c => absurd (by decide) c) (fun _ => ?_)
  refine Ev_iload_n dX12_cell_12 rfl ?_
  refine Ev_i2l dX12_cell_13 ?_
  refine Ev_lconst (v := 0) dX12_cell_14 (by decide) ?_
  refine Ev_ldc2 dX12_cell_15 wl_X12_140 ?_
  refine Ev_callS (bc := 0) (b := 0) dX12_cell_18 cs_X12_97 rfl (Nat.le_of_ble_eq_true rfl) (by omega) ?_
  refine c_X12_in (x := _) (y := 0) (z := 2) (x64 _) rfl rfl (fun _ => ?_) (fun q => absurd q (not_not_intro hw))
  refine Ev_if_ne dX12_cell_21 (fun _ => ?_) (fun c => absurd c (by decide))
  refine Ev_aload_n dX12_cell_28 rfl ?_
  refine Ev_get dX12_cell_29 fg_X12_72_12 (gs hM) rfl ?_
  refine Ev_iload_n dX12_cell_32 rfl ?_
  refine Ev_ialoadN (j := kk) dX12_cell_33 (gn (by decide) hs) (by omega) (by decide) ?_
  refine Ev_topi (y := iZ z) hz ?_
  refine Ev_if_lt dX12_cell_34 (fun c => absurd c (by first | (simp only [xlt, xle, xeq, z32_0, z32_1, z32_2, z32_3, z32_8, z32_12, z32_60, ez]; omega) | (simp only [xlt, xle, xeq, z32_0, z32_1, z32_2, z32_3, z32_8, z32_12, z32_60, ez]; done) | omega)) (fun _ => ?_)
  refine Ev_aload_n dX12_cell_37 rfl ?_
  refine Ev_get dX12_cell_38 fg_X12_75_12 (gs hM) rfl ?_
  refine Ev_iload_n dX12_cell_41 rfl ?_
  refine Ev_ialoadN (j := kk) dX12_cell_42 (gn (by decide) hl) (by omega) (by decide) ?_
  refine Ev_topi (y := fl kk) rfl ?_
  refine Ev_iload_n dX12_cell_43 rfl ?_
  refine Ev_icmp_eq dX12_cell_44 (fun _ => ?_) (fun c => absurd heq c)
  refine Ev_aload_n dX12_cell_53 rfl ?_
  refine Ev_iload_n dX12_cell_54 rfl ?_
  refine Ev_iload_n dX12_cell_55 rfl ?_
  refine Ev_callV (bc := 0) (b := 0) dX12_cell_56 cv_X12_281 rfl (gs hM) (Nat.le_of_ble_eq_true rfl) (by omega) ?_
  refine c_X12_noCell_o (gs hM) (gn (by decide) hs) (gn (by decide) hl) (gn (by decide) hc) hk hz hzr (by omega) (by rw [nIt (by omega)]; omega) ?_
  refine Ev_if_le dX12_cell_59 (fun _ => ?_) (fun c => absurd (by decide) c)
  refine Ev_aload_n dX12_cell_75 rfl ?_
  refine Ev_get dX12_cell_76 fg_X12_78_12 (gs hM) rfl ?_
  refine Ev_bipush (v := 60) dX12_cell_79 (by decide) ?_
  refine Ev_iload_n dX12_cell_81 rfl ?_
  refine Ev_imul dX12_cell_82 ?_
  refine Ev_topi (y := nI (60 * kk)) (nmul _ _) ?_
  refine Ev_iload_n dX12_cell_83 rfl ?_
  refine Ev_iadd dX12_cell_84 ?_
  refine Ev_topi (y := nI ((60 * kk) + ii)) (nI_add _ _) ?_
  refine Ev_ialoadN (j := (60 * kk) + ii) dX12_cell_85 (gn (by decide) hc) (by omega) (by decide) ?_
  refine Ev_i2l dX12_cell_86 ?_
  refine Ev_lret dX12_cell_87 rfl ?_
  exact k

set_option maxHeartbeats 4000000 in
set_option maxRecDepth 100000 in
theorem c_X12_lose_unk {d : Nat} {S : aS} {Q : Option Value → aS → Prop} {flt pl n du lw fr cl ra rp rs ea dp bm rd tr : Int32} {bi : Int64} (hM : S[31]? = some (mo flt pl n du lw fr cl ra rp rs ea dp bm bi rd tr)) {x : Int32} (hk : ¬ (0 ≤ x.toInt ∧ x.toInt ≤ 3)) (k : Q (some (.int (-1))) S) : Mth mX12_lose (d + 2) 0 [.ref 31, .int x] S Q := by
  refine Mth_of (by decide) rfl ?_
  refine Ev_iload_n dX12_lose_0 rfl ?_
  refine Ev_callS (bc := 0) (b := 0) dX12_lose_1 cs_X12_133 rfl (Nat.le_of_ble_eq_true rfl) (by omega) ?_
  refine c_X12_noSheet (fun _ => ?_) (fun q => absurd q hk)
  refine Ev_if_eq dX12_lose_4 (fun c => absurd c (by decide)) (fun _ => ?_)
  refine Ev_iconst (v := (-1)) dX12_lose_7 (by decide) ?_
  refine Ev_iret dX12_lose_8 rfl rfl ?_
  exact k

set_option maxHeartbeats 4000000 in
set_option maxRecDepth 100000 in
theorem c_X12_lose_n {d : Nat} {S : aS} {Q : Option Value → aS → Prop} {flt pl n du lw fr cl ra rp rs ea dp bm rd tr : Int32} {bi : Int64} (hM : S[31]? = some (mo flt pl n du lw fr cl ra rp rs ea dp bm bi rd tr)) {fs fl fc : Nat → Int32} (hs : S[52]? = some (iA 4 fs)) (hl : S[53]? = some (iA 4 fl)) (hc : S[54]? = some (iA 240 fc)) {kk : Nat} (hk : kk < 4) {z : Int} (hz : fs kk = iZ z) (hzr : -1 ≤ z ∧ z ≤ 60) (hn : z < 0) (k : Q (some (.int 0)) (S.set 52 (iA 4 (upd fs kk (-1))))) : Mth mX12_lose (d + 2) 0 [.ref 31, .int (nI kk)] S Q := by
  have ez : (iZ z).toInt = z := iZt (by omega)
  refine Mth_of (by decide) rfl ?_
  refine Ev_iload_n dX12_lose_0 rfl ?_
  refine Ev_callS (bc := 0) (b := 0) dX12_lose_1 cs_X12_133 rfl (Nat.le_of_ble_eq_true rfl) (by omega) ?_
  refine c_X12_noSheet (fun q => absurd q (not_not_intro (by rw [nIt (by omega)]; omega))) (fun _ => ?_)
  refine Ev_if_eq dX12_lose_4 (fun _ => ?_) (fun c => absurd (by decide) c)
  refine Ev_aload_n dX12_lose_9 rfl ?_
  refine Ev_get dX12_lose_10 fg_X12_72_12 hM rfl ?_
  refine Ev_iload_n dX12_lose_13 rfl ?_
  refine Ev_ialoadN (j := kk) dX12_lose_14 hs (by omega) (by decide) ?_
  refine Ev_topi (y := iZ z) hz ?_
  refine Ev_if_ge dX12_lose_15 (fun c => absurd c (by first | (simp only [xlt, xle, xeq, z32_0, z32_1, z32_2, z32_3, z32_8, z32_12, z32_60, ez]; omega) | (simp only [xlt, xle, xeq, z32_0, z32_1, z32_2, z32_3, z32_8, z32_12, z32_60, ez]; done) | omega)) (fun _ => ?_)
  refine Ev_iconst (v := 0) dX12_lose_18 (by decide) ?_
  refine Ev_goto dX12_lose_19 ?_
  refine Ev_istore_n dX12_lose_23 rfl ?_
  refine Ev_aload_n dX12_lose_24 rfl ?_
  refine Ev_get dX12_lose_25 fg_X12_72_12 hM rfl ?_
  refine Ev_iload_n dX12_lose_28 rfl ?_
  refine Ev_iconst (v := (-1)) dX12_lose_29 (by decide) ?_
  refine Ev_iastoreN (j := kk) dX12_lose_30 hs (by omega) (by decide) ?_
  refine Ev_iload_n dX12_lose_31 rfl ?_
  refine Ev_iret dX12_lose_32 rfl rfl ?_
  exact k

set_option maxHeartbeats 4000000 in
set_option maxRecDepth 100000 in
theorem c_X12_lose_o {d : Nat} {S : aS} {Q : Option Value → aS → Prop} {flt pl n du lw fr cl ra rp rs ea dp bm rd tr : Int32} {bi : Int64} (hM : S[31]? = some (mo flt pl n du lw fr cl ra rp rs ea dp bm bi rd tr)) {fs fl fc : Nat → Int32} (hs : S[52]? = some (iA 4 fs)) (hl : S[53]? = some (iA 4 fl)) (hc : S[54]? = some (iA 240 fc)) {kk : Nat} (hk : kk < 4) {z : Int} (hz : fs kk = iZ z) (hzr : -1 ≤ z ∧ z ≤ 60) (hn : 0 ≤ z) (k : Q (some (.int 1)) (S.set 52 (iA 4 (upd fs kk (-1))))) : Mth mX12_lose (d + 2) 0 [.ref 31, .int (nI kk)] S Q := by
  have ez : (iZ z).toInt = z := iZt (by omega)
  refine Mth_of (by decide) rfl ?_
  refine Ev_iload_n dX12_lose_0 rfl ?_
  refine Ev_callS (bc := 0) (b := 0) dX12_lose_1 cs_X12_133 rfl (Nat.le_of_ble_eq_true rfl) (by omega) ?_
  refine c_X12_noSheet (fun q => absurd q (not_not_intro (by rw [nIt (by omega)]; omega))) (fun _ => ?_)
  refine Ev_if_eq dX12_lose_4 (fun _ => ?_) (fun c => absurd (by decide) c)
  refine Ev_aload_n dX12_lose_9 rfl ?_
  refine Ev_get dX12_lose_10 fg_X12_72_12 hM rfl ?_
  refine Ev_iload_n dX12_lose_13 rfl ?_
  refine Ev_ialoadN (j := kk) dX12_lose_14 hs (by omega) (by decide) ?_
  refine Ev_topi (y := iZ z) hz ?_
  refine Ev_if_ge dX12_lose_15 (fun _ => ?_) (fun c => absurd (by first | (simp only [xlt, xle, xeq, z32_0, z32_1, z32_2, z32_3, z32_8, z32_12, z32_60, ez]; omega) | (simp only [xlt, xle, xeq, z32_0, z32_1, z32_2, z32_3, z32_8, z32_12, z32_60, ez]; done) | omega) c)
  refine Ev_iconst (v := 1) dX12_lose_22 (by decide) ?_
  refine Ev_istore_n dX12_lose_23 rfl ?_
  refine Ev_aload_n dX12_lose_24 rfl ?_
  refine Ev_get dX12_lose_25 fg_X12_72_12 hM rfl ?_
  refine Ev_iload_n dX12_lose_28 rfl ?_
  refine Ev_iconst (v := (-1)) dX12_lose_29 (by decide) ?_
  refine Ev_iastoreN (j := kk) dX12_lose_30 hs (by omega) (by decide) ?_
  refine Ev_iload_n dX12_lose_31 rfl ?_
  refine Ev_iret dX12_lose_32 rfl rfl ?_
  exact k

set_option maxHeartbeats 4000000 in
set_option maxRecDepth 100000 in
theorem c_X12_sheet_unk {d : Nat} {S : aS} {Q : Option Value → aS → Prop} {flt pl n du lw fr cl ra rp rs ea dp bm rd tr : Int32} {bi : Int64} (hM : S[31]? = some (mo flt pl n du lw fr cl ra rp rs ea dp bm bi rd tr)) {x : Int32} (hk : ¬ (0 ≤ x.toInt ∧ x.toInt ≤ 3)) {w n9 : Int32} (k : Q (some (.int (-1))) (S.set 31 (mo 0 pl n du lw fr cl ra rp rs ea dp bm bi rd tr))) : Mth mX12_sheet (d + 2) 0 [.ref 31, .int x, .int w, .int n9] S Q := by
  refine Mth_of (by decide) rfl ?_
  refine Ev_iload_n dX12_sheet_0 rfl ?_
  refine Ev_callS (bc := 0) (b := 0) dX12_sheet_1 cs_X12_133 rfl (Nat.le_of_ble_eq_true rfl) (by omega) ?_
  refine c_X12_noSheet (fun _ => ?_) (fun q => absurd q hk)
  refine Ev_if_eq dX12_sheet_4 (fun c => absurd c (by decide)) (fun _ => ?_)
  refine Ev_aload_n dX12_sheet_7 rfl ?_
  refine Ev_iconst (v := (-1)) dX12_sheet_8 (by decide) ?_
  refine Ev_callV (bc := 0) (b := 0) dX12_sheet_9 cv_X12_137 rfl hM (Nat.le_of_ble_eq_true rfl) (by omega) ?_
  refine c_X12_refused hM ?_
  refine Ev_iret dX12_sheet_12 rfl rfl ?_
  exact k

set_option maxHeartbeats 4000000 in
set_option maxRecDepth 100000 in
theorem c_X12_sheet_lane {d : Nat} {S : aS} {Q : Option Value → aS → Prop} {flt pl n du lw fr cl ra rp rs ea dp bm rd tr : Int32} {bi : Int64} (hM : S[31]? = some (mo flt pl n du lw fr cl ra rp rs ea dp bm bi rd tr)) {kk : Nat} (hk : kk < 4) {w n9 : Int32} (hw : ¬ (0 ≤ w.toInt ∧ w.toInt ≤ 2)) (k : Q (some (.int (-2))) (S.set 31 (mo 0 pl n du lw fr cl ra rp rs ea dp bm bi rd tr))) : Mth mX12_sheet (d + 2) 0 [.ref 31, .int (nI kk), .int w, .int n9] S Q := by
  refine Mth_of (by decide) rfl ?_
  refine Ev_iload_n dX12_sheet_0 rfl ?_
  refine Ev_callS (bc := 0) (b := 0) dX12_sheet_1 cs_X12_133 rfl (Nat.le_of_ble_eq_true rfl) (by omega) ?_
  refine c_X12_noSheet (fun q => absurd q (not_not_intro (by rw [nIt (by omega)]; omega))) (fun _ => ?_)
  refine Ev_if_eq dX12_sheet_4 (fun _ => ?_) (fun c => absurd (by decide) c)
  refine Ev_iload_n dX12_sheet_13 rfl ?_
  refine Ev_i2l dX12_sheet_14 ?_
  refine Ev_lconst (v := 0) dX12_sheet_15 (by decide) ?_
  refine Ev_ldc2 dX12_sheet_16 wl_X12_140 ?_
  refine Ev_callS (bc := 0) (b := 0) dX12_sheet_19 cs_X12_97 rfl (Nat.le_of_ble_eq_true rfl) (by omega) ?_
  refine c_X12_in (x := _) (y := 0) (z := 2) (x64 _) rfl rfl (fun q => absurd q hw) (fun _ => ?_)
  refine Ev_if_eq dX12_sheet_22 (fun _ => ?_) (fun c => absurd (by decide) c)
  refine Ev_aload_n dX12_sheet_31 rfl ?_
  refine Ev_bipush (v := (-2)) dX12_sheet_32 (by decide) ?_
  refine Ev_callV (bc := 0) (b := 0) dX12_sheet_34 cv_X12_137 rfl hM (Nat.le_of_ble_eq_true rfl) (by omega) ?_
  refine c_X12_refused hM ?_
  refine Ev_iret dX12_sheet_37 rfl rfl ?_
  exact k

set_option maxHeartbeats 4000000 in
set_option maxRecDepth 100000 in
theorem c_X12_sheet_big {d : Nat} {S : aS} {Q : Option Value → aS → Prop} {flt pl n du lw fr cl ra rp rs ea dp bm rd tr : Int32} {bi : Int64} (hM : S[31]? = some (mo flt pl n du lw fr cl ra rp rs ea dp bm bi rd tr)) {kk : Nat} (hk : kk < 4) {w n9 : Int32} (hw : 0 ≤ w.toInt ∧ w.toInt ≤ 2) (hb : 60 < n9.toInt) (k : Q (some (.int (-2))) (S.set 31 (mo 0 pl n du lw fr cl ra rp rs ea dp bm bi rd tr))) : Mth mX12_sheet (d + 2) 0 [.ref 31, .int (nI kk), .int w, .int n9] S Q := by
  refine Mth_of (by decide) rfl ?_
  refine Ev_iload_n dX12_sheet_0 rfl ?_
  refine Ev_callS (bc := 0) (b := 0) dX12_sheet_1 cs_X12_133 rfl (Nat.le_of_ble_eq_true rfl) (by omega) ?_
  refine c_X12_noSheet (fun q => absurd q (not_not_intro (by rw [nIt (by omega)]; omega))) (fun _ => ?_)
  refine Ev_if_eq dX12_sheet_4 (fun _ => ?_) (fun c => absurd (by decide) c)
  refine Ev_iload_n dX12_sheet_13 rfl ?_
  refine Ev_i2l dX12_sheet_14 ?_
  refine Ev_lconst (v := 0) dX12_sheet_15 (by decide) ?_
  refine Ev_ldc2 dX12_sheet_16 wl_X12_140 ?_
  refine Ev_callS (bc := 0) (b := 0) dX12_sheet_19 cs_X12_97 rfl (Nat.le_of_ble_eq_true rfl) (by omega) ?_
  refine c_X12_in (x := _) (y := 0) (z := 2) (x64 _) rfl rfl (fun _ => ?_) (fun q => absurd q (not_not_intro hw))
  refine Ev_if_eq dX12_sheet_22 (fun c => absurd c (by decide)) (fun _ => ?_)
  refine Ev_iload_n dX12_sheet_25 rfl ?_
  refine Ev_bipush (v := 60) dX12_sheet_26 (by decide) ?_
  refine Ev_icmp_le dX12_sheet_28 (fun c => absurd c (by first | (simp only [xlt, xle, xeq, z32_0, z32_1, z32_2, z32_3, z32_8, z32_12, z32_60]; omega) | (simp only [xlt, xle, xeq, z32_0, z32_1, z32_2, z32_3, z32_8, z32_12, z32_60]; done) | omega)) (fun _ => ?_)
  refine Ev_aload_n dX12_sheet_31 rfl ?_
  refine Ev_bipush (v := (-2)) dX12_sheet_32 (by decide) ?_
  refine Ev_callV (bc := 0) (b := 0) dX12_sheet_34 cv_X12_137 rfl hM (Nat.le_of_ble_eq_true rfl) (by omega) ?_
  refine c_X12_refused hM ?_
  refine Ev_iret dX12_sheet_37 rfl rfl ?_
  exact k

set_option maxHeartbeats 4000000 in
set_option maxRecDepth 100000 in
theorem c_X12_sheet_size {d : Nat} {S : aS} {Q : Option Value → aS → Prop} {flt pl n du lw fr cl ra rp rs ea dp bm rd tr : Int32} {bi : Int64} (hM : S[31]? = some (mo flt pl n du lw fr cl ra rp rs ea dp bm bi rd tr)) {kk : Nat} (hk : kk < 4) {w n9 : Int32} (hw : 0 ≤ w.toInt ∧ w.toInt ≤ 2) (hb : n9.toInt < 0) (k : Q (some (.int (-14))) (S.set 31 (mo 4 pl n du lw fr cl ra rp rs ea dp bm bi rd tr))) : Mth mX12_sheet (d + 2) 0 [.ref 31, .int (nI kk), .int w, .int n9] S Q := by
  refine Mth_of (by decide) rfl ?_
  refine Ev_iload_n dX12_sheet_0 rfl ?_
  refine Ev_callS (bc := 0) (b := 0) dX12_sheet_1 cs_X12_133 rfl (Nat.le_of_ble_eq_true rfl) (by omega) ?_
  refine c_X12_noSheet (fun q => absurd q (not_not_intro (by rw [nIt (by omega)]; omega))) (fun _ => ?_)
  refine Ev_if_eq dX12_sheet_4 (fun _ => ?_) (fun c => absurd (by decide) c)
  refine Ev_iload_n dX12_sheet_13 rfl ?_
  refine Ev_i2l dX12_sheet_14 ?_
  refine Ev_lconst (v := 0) dX12_sheet_15 (by decide) ?_
  refine Ev_ldc2 dX12_sheet_16 wl_X12_140 ?_
  refine Ev_callS (bc := 0) (b := 0) dX12_sheet_19 cs_X12_97 rfl (Nat.le_of_ble_eq_true rfl) (by omega) ?_
  refine c_X12_in (x := _) (y := 0) (z := 2) (x64 _) rfl rfl (fun _ => ?_) (fun q => absurd q (not_not_intro hw))
  refine Ev_if_eq dX12_sheet_22 (fun c => absurd c (by decide)) (fun _ => ?_)
  refine Ev_iload_n dX12_sheet_25 rfl ?_
  refine Ev_bipush (v := 60) dX12_sheet_26 (by decide) ?_
  refine Ev_icmp_le dX12_sheet_28 (fun _ => ?_) (fun c => absurd (by first | (simp only [xlt, xle, xeq, z32_0, z32_1, z32_2, z32_3, z32_8, z32_12, z32_60]; omega) | (simp only [xlt, xle, xeq, z32_0, z32_1, z32_2, z32_3, z32_8, z32_12, z32_60]; done) | omega) c)
  refine Ev_iload_n dX12_sheet_38 rfl ?_
  refine Ev_if_ge dX12_sheet_39 (fun c => absurd c (by first | (simp only [xlt, xle, xeq, z32_0, z32_1, z32_2, z32_3, z32_8, z32_12, z32_60]; omega) | (simp only [xlt, xle, xeq, z32_0, z32_1, z32_2, z32_3, z32_8, z32_12, z32_60]; done) | omega)) (fun _ => ?_)
  refine Ev_aload_n dX12_sheet_42 rfl ?_
  refine Ev_iconst (v := 4) dX12_sheet_43 (by decide) ?_
  refine Ev_callV (bc := 0) (b := 0) dX12_sheet_44 cv_X12_125 rfl hM (Nat.le_of_ble_eq_true rfl) (by omega) ?_
  refine c_X12_failed hM ?_
  refine Ev_topi (y := (-14)) (by decide) ?_
  refine Ev_iret dX12_sheet_47 rfl rfl ?_
  exact k

def zerN (f : Nat → Int32) (o : Nat) : Nat → Nat → Int32
  | 0 => f
  | m + 1 => upd (zerN f o m) (o + m) 0
theorem zerN_in {f : Nat → Int32} {o : Nat} : ∀ (m i : Nat), i < m → zerN f o m (o + i) = 0
  | 0, i, h => by omega
  | m + 1, i, h => by
    by_cases e : i = m
    · subst e; simp [zerN, upd]
    · simp only [zerN, upd]
      rw [if_neg (by omega)]
      exact zerN_in m i (by omega)
theorem zerN_out {f : Nat → Int32} {o : Nat} : ∀ (m i : Nat), i < o ∨ o + m ≤ i → zerN f o m i = f i
  | 0, i, h => rfl
  | m + 1, i, h => by
    simp only [zerN, upd]
    rw [if_neg (by omega)]
    exact zerN_out m i (by omega)

set_option maxHeartbeats 4000000 in
set_option maxRecDepth 100000 in
theorem l_X12_sheet {d : Nat} {S : aS} {Q : Option Value → aS → Prop} {flt pl n du lw fr cl ra rp rs ea dp bm rd tr : Int32} {bi : Int64} (hM : S[31]? = some (mo flt pl n du lw fr cl ra rp rs ea dp bm bi rd tr)) {fc : Nat → Int32} (hc : S[54]? = some (iA 240 fc)) {kk : Nat} (hk : kk < 4) {n9 : Nat} (hb : n9 ≤ 60) {w : Int32} (k : Q (some (.int 1)) ((S.set 54 (iA 240 (zerN fc (60 * kk) n9))).set 31 (mo 0 pl n du lw fr cl ra rp rs ea dp bm bi rd tr))) : ∀ (t i : Nat) , i + t = n9 → Ev none mX12_sheet (d + 2) 0 65 [some (.ref 31), some (.int (nI kk)), some (.int w), some (.int (nI n9)), some (.int (nI i))] [] (S.set 54 (iA 240 (zerN fc (60 * kk) i))) Q := by
  intro t
  induction t with
  | zero =>
    intro i  hi
    obtain rfl : i = n9 := by omega
    refine Ev_iload dX12_sheet_65 rfl ?_
    refine Ev_iload_n dX12_sheet_67 rfl ?_
    refine Ev_icmp_ge dX12_sheet_68 (fun _ => ?_) (fun c => absurd ((nle (by omega) (by omega)).mpr (Nat.le_refl _)) c)
    refine Ev_aload_n dX12_sheet_90 rfl ?_
    refine Ev_iconst (v := 1) dX12_sheet_91 (by decide) ?_
    refine Ev_callV (bc := 0) (b := 0) dX12_sheet_92 cv_X12_137 rfl (gn (by decide) hM) (Nat.le_of_ble_eq_true rfl) (by omega) ?_
    refine c_X12_refused (gn (by decide) hM) ?_
    refine Ev_iret dX12_sheet_95 rfl rfl ?_
    exact k
  | succ t ih =>
    intro i  hi
    refine Ev_iload dX12_sheet_65 rfl ?_
    refine Ev_iload_n dX12_sheet_67 rfl ?_
    refine Ev_icmp_ge dX12_sheet_68 (fun c => absurd c (fun z => absurd ((nle (by omega) (by omega)).mp z) (by omega))) (fun _ => ?_)
    refine Ev_aload_n dX12_sheet_71 rfl ?_
    refine Ev_get dX12_sheet_72 fg_X12_78_12 (gn (by decide) hM) rfl ?_
    refine Ev_bipush (v := 60) dX12_sheet_75 (by decide) ?_
    refine Ev_iload_n dX12_sheet_77 rfl ?_
    refine Ev_imul dX12_sheet_78 ?_
    refine Ev_topi (y := nI (60 * kk)) (nmul _ _) ?_
    refine Ev_iload dX12_sheet_79 rfl ?_
    refine Ev_iadd dX12_sheet_81 ?_
    refine Ev_topi (y := nI ((60 * kk) + i)) (nI_add _ _) ?_
    refine Ev_iconst (v := 0) dX12_sheet_82 (by decide) ?_
    refine Ev_iastoreN (j := (60 * kk) + i) dX12_sheet_83 (gs hc) (by omega) (by decide) ?_
    refine Ev_iinc (v := nI (i + 1)) dX12_sheet_84 rfl (nI_1 _) rfl ?_
    refine Ev_goto dX12_sheet_87 ?_
    exact Ev_st gss (ih (i + 1) (by omega))

set_option maxHeartbeats 4000000 in
set_option maxRecDepth 100000 in
theorem c_X12_sheet_o {d : Nat} {S : aS} {Q : Option Value → aS → Prop} {flt pl n du lw fr cl ra rp rs ea dp bm rd tr : Int32} {bi : Int64} (hM : S[31]? = some (mo flt pl n du lw fr cl ra rp rs ea dp bm bi rd tr)) {fs fl fc : Nat → Int32} (hs : S[52]? = some (iA 4 fs)) (hl : S[53]? = some (iA 4 fl)) (hc : S[54]? = some (iA 240 fc)) {kk : Nat} (hk : kk < 4) {n9 : Nat} (hb : n9 ≤ 60) {w : Int32} (hw : 0 ≤ w.toInt ∧ w.toInt ≤ 2) (k : Q (some (.int 1)) ((((S.set 52 (iA 4 (upd fs kk (nI n9)))).set 53 (iA 4 (upd fl kk w))).set 54 (iA 240 (zerN fc (60 * kk) n9))).set 31 (mo 0 pl n du lw fr cl ra rp rs ea dp bm bi rd tr))) : Mth mX12_sheet (d + 2) 0 [.ref 31, .int (nI kk), .int w, .int (nI n9)] S Q := by
  refine Mth_of (by decide) rfl ?_
  refine Ev_iload_n dX12_sheet_0 rfl ?_
  refine Ev_callS (bc := 0) (b := 0) dX12_sheet_1 cs_X12_133 rfl (Nat.le_of_ble_eq_true rfl) (by omega) ?_
  refine c_X12_noSheet (fun q => absurd q (not_not_intro (by rw [nIt (by omega)]; omega))) (fun _ => ?_)
  refine Ev_if_eq dX12_sheet_4 (fun _ => ?_) (fun c => absurd (by decide) c)
  refine Ev_iload_n dX12_sheet_13 rfl ?_
  refine Ev_i2l dX12_sheet_14 ?_
  refine Ev_lconst (v := 0) dX12_sheet_15 (by decide) ?_
  refine Ev_ldc2 dX12_sheet_16 wl_X12_140 ?_
  refine Ev_callS (bc := 0) (b := 0) dX12_sheet_19 cs_X12_97 rfl (Nat.le_of_ble_eq_true rfl) (by omega) ?_
  refine c_X12_in (x := _) (y := 0) (z := 2) (x64 _) rfl rfl (fun _ => ?_) (fun q => absurd q (not_not_intro hw))
  refine Ev_if_eq dX12_sheet_22 (fun c => absurd c (by decide)) (fun _ => ?_)
  refine Ev_iload_n dX12_sheet_25 rfl ?_
  refine Ev_bipush (v := 60) dX12_sheet_26 (by decide) ?_
  refine Ev_icmp_le dX12_sheet_28 (fun _ => ?_) (fun c => absurd ((nle (b := 60) (by omega) (by omega)).mpr hb) c)
  refine Ev_iload_n dX12_sheet_38 rfl ?_
  refine Ev_if_ge dX12_sheet_39 (fun _ => ?_) (fun c => absurd (nI_pos' (by omega)) c)
  refine Ev_aload_n dX12_sheet_48 rfl ?_
  refine Ev_get dX12_sheet_49 fg_X12_72_12 hM rfl ?_
  refine Ev_iload_n dX12_sheet_52 rfl ?_
  refine Ev_iload_n dX12_sheet_53 rfl ?_
  refine Ev_iastoreN (j := kk) dX12_sheet_54 hs (by omega) (by decide) ?_
  refine Ev_aload_n dX12_sheet_55 rfl ?_
  refine Ev_get dX12_sheet_56 fg_X12_75_12 (gn (by decide) hM) rfl ?_
  refine Ev_iload_n dX12_sheet_59 rfl ?_
  refine Ev_iload_n dX12_sheet_60 rfl ?_
  refine Ev_iastoreN (j := kk) dX12_sheet_61 (gn (by decide) hl) (by omega) (by decide) ?_
  refine Ev_iconst (v := 0) dX12_sheet_62 (by decide) ?_
  refine Ev_istore dX12_sheet_63 rfl ?_
  have e54 : ((S.set 52 (iA 4 (upd fs kk (nI n9)))).set 53 (iA 4 (upd fl kk w)))[54]? = some (iA 240 fc) := (gn (by decide) (gn (by decide) hc))
  have h0 := l_X12_sheet (S := ((S.set 52 (iA 4 (upd fs kk (nI n9)))).set 53 (iA 4 (upd fl kk w)))) (d := d) (Q := Q) (w := w) (gn (by decide) (gn (by decide) hM)) e54 hk hb k n9 0 (by omega)
  rw [show zerN fc (60 * kk) 0 = fc from rfl, gid e54] at h0
  exact h0

set_option maxHeartbeats 4000000 in
set_option maxRecDepth 100000 in
theorem c_X12_barred_cast {d : Nat} {S : aS} {Q : Option Value → aS → Prop} {flt pl n du lw fr cl ra rp rs ea dp bm rd tr : Int32} {bi : Int64} (hM : S[31]? = some (mo flt pl n du lw fr cl ra rp rs ea dp bm bi rd tr)) {fs fl fc : Nat → Int32} (hs : S[52]? = some (iA 4 fs)) (hl : S[53]? = some (iA 4 fl)) (hc : S[54]? = some (iA 240 fc)) {kk : Nat} (hk : kk < 4) {z : Int} (hz : fs kk = iZ z) (hzr : -1 ≤ z ∧ z ≤ 60) {w i : Int32} {n9 : Int64} {y : Int} (hy : n9.toInt = y) (hyr : -2147483648 ≤ y ∧ y ≤ 2147483647) (hn : 0 ≤ z) (hne : ¬ fl kk = w) (k : Q (some (.int (-12))) (S.set 31 (mo 2 pl n du lw fr cl ra rp rs ea dp bm bi rd tr))) : Mth mX12_cellsBarred (d + 1) 0 [.ref 31, .int (nI kk), .int w, .int i, .long n9] S Q := by
  have ez : (iZ z).toInt = z := iZt (by omega)
  refine Mth_of (by decide) rfl ?_
  refine Ev_aload_n dX12_cellsBarred_0 rfl ?_
  refine Ev_get dX12_cellsBarred_1 fg_X12_72_12 hM rfl ?_
  refine Ev_iload_n dX12_cellsBarred_4 rfl ?_
  refine Ev_ialoadN (j := kk) dX12_cellsBarred_5 hs (by omega) (by decide) ?_
  refine Ev_topi (y := iZ z) hz ?_
  refine Ev_if_lt dX12_cellsBarred_6 (fun c => absurd c (by first | (simp only [xlt, xle, xeq, z32_0, z32_1, z32_2, z32_3, z32_8, z32_12, z32_60, ez]; omega) | (simp only [xlt, xle, xeq, z32_0, z32_1, z32_2, z32_3, z32_8, z32_12, z32_60, ez]; done) | omega)) (fun _ => ?_)
  refine Ev_aload_n dX12_cellsBarred_9 rfl ?_
  refine Ev_get dX12_cellsBarred_10 fg_X12_75_12 hM rfl ?_
  refine Ev_iload_n dX12_cellsBarred_13 rfl ?_
  refine Ev_ialoadN (j := kk) dX12_cellsBarred_14 hl (by omega) (by decide) ?_
  refine Ev_topi (y := fl kk) rfl ?_
  refine Ev_iload_n dX12_cellsBarred_15 rfl ?_
  refine Ev_icmp_eq dX12_cellsBarred_16 (fun c => absurd c hne) (fun _ => ?_)
  refine Ev_aload_n dX12_cellsBarred_19 rfl ?_
  refine Ev_iconst (v := 2) dX12_cellsBarred_20 (by decide) ?_
  refine Ev_callV (bc := 0) (b := 0) dX12_cellsBarred_21 cv_X12_125 rfl hM (Nat.le_of_ble_eq_true rfl) (by omega) ?_
  refine c_X12_failed hM ?_
  refine Ev_topi (y := (-12)) (by decide) ?_
  refine Ev_iret dX12_cellsBarred_24 rfl rfl ?_
  exact k

set_option maxHeartbeats 4000000 in
set_option maxRecDepth 100000 in
theorem c_X12_barred_n {d : Nat} {S : aS} {Q : Option Value → aS → Prop} {flt pl n du lw fr cl ra rp rs ea dp bm rd tr : Int32} {bi : Int64} (hM : S[31]? = some (mo flt pl n du lw fr cl ra rp rs ea dp bm bi rd tr)) {fs fl fc : Nat → Int32} (hs : S[52]? = some (iA 4 fs)) (hl : S[53]? = some (iA 4 fl)) (hc : S[54]? = some (iA 240 fc)) {kk : Nat} (hk : kk < 4) {z : Int} (hz : fs kk = iZ z) (hzr : -1 ≤ z ∧ z ≤ 60) {w i : Int32} {n9 : Int64} {y : Int} (hy : n9.toInt = y) (hyr : -2147483648 ≤ y ∧ y ≤ 2147483647) (hn : z < 0) (k : Q (some (.int (-11))) (S.set 31 (mo 1 pl n du lw fr cl ra rp rs ea dp bm bi rd tr))) : Mth mX12_cellsBarred (d + 1) 0 [.ref 31, .int (nI kk), .int w, .int i, .long n9] S Q := by
  have ez : (iZ z).toInt = z := iZt (by omega)
  refine Mth_of (by decide) rfl ?_
  refine Ev_aload_n dX12_cellsBarred_0 rfl ?_
  refine Ev_get dX12_cellsBarred_1 fg_X12_72_12 hM rfl ?_
  refine Ev_iload_n dX12_cellsBarred_4 rfl ?_
  refine Ev_ialoadN (j := kk) dX12_cellsBarred_5 hs (by omega) (by decide) ?_
  refine Ev_topi (y := iZ z) hz ?_
  refine Ev_if_lt dX12_cellsBarred_6 (fun _ => ?_) (fun c => absurd (by first | (simp only [xlt, xle, xeq, z32_0, z32_1, z32_2, z32_3, z32_8, z32_12, z32_60, ez]; omega) | (simp only [xlt, xle, xeq, z32_0, z32_1, z32_2, z32_3, z32_8, z32_12, z32_60, ez]; done) | omega) c)
  refine Ev_aload_n dX12_cellsBarred_25 rfl ?_
  refine Ev_get dX12_cellsBarred_26 fg_X12_72_12 hM rfl ?_
  refine Ev_iload_n dX12_cellsBarred_29 rfl ?_
  refine Ev_ialoadN (j := kk) dX12_cellsBarred_30 hs (by omega) (by decide) ?_
  refine Ev_topi (y := iZ z) hz ?_
  refine Ev_if_ge dX12_cellsBarred_31 (fun c => absurd c (by first | (simp only [xlt, xle, xeq, z32_0, z32_1, z32_2, z32_3, z32_8, z32_12, z32_60, ez]; omega) | (simp only [xlt, xle, xeq, z32_0, z32_1, z32_2, z32_3, z32_8, z32_12, z32_60, ez]; done) | omega)) (fun _ => ?_)
  refine Ev_aload_n dX12_cellsBarred_34 rfl ?_
  refine Ev_iconst (v := 1) dX12_cellsBarred_35 (by decide) ?_
  refine Ev_callV (bc := 0) (b := 0) dX12_cellsBarred_36 cv_X12_125 rfl hM (Nat.le_of_ble_eq_true rfl) (by omega) ?_
  refine c_X12_failed hM ?_
  refine Ev_topi (y := (-11)) (by decide) ?_
  refine Ev_iret dX12_cellsBarred_39 rfl rfl ?_
  exact k

set_option maxHeartbeats 4000000 in
set_option maxRecDepth 100000 in
theorem c_X12_barred_size {d : Nat} {S : aS} {Q : Option Value → aS → Prop} {flt pl n du lw fr cl ra rp rs ea dp bm rd tr : Int32} {bi : Int64} (hM : S[31]? = some (mo flt pl n du lw fr cl ra rp rs ea dp bm bi rd tr)) {fs fl fc : Nat → Int32} (hs : S[52]? = some (iA 4 fs)) (hl : S[53]? = some (iA 4 fl)) (hc : S[54]? = some (iA 240 fc)) {kk : Nat} (hk : kk < 4) {z : Int} (hz : fs kk = iZ z) (hzr : -1 ≤ z ∧ z ≤ 60) {w i : Int32} {n9 : Int64} {y : Int} (hy : n9.toInt = y) (hyr : -2147483648 ≤ y ∧ y ≤ 2147483647) (hn : 0 ≤ z) (heq : fl kk = w) (hs4 : y < 0) (k : Q (some (.int (-14))) (S.set 31 (mo 4 pl n du lw fr cl ra rp rs ea dp bm bi rd tr))) : Mth mX12_cellsBarred (d + 1) 0 [.ref 31, .int (nI kk), .int w, .int i, .long n9] S Q := by
  have ez : (iZ z).toInt = z := iZt (by omega)
  refine Mth_of (by decide) rfl ?_
  refine Ev_aload_n dX12_cellsBarred_0 rfl ?_
  refine Ev_get dX12_cellsBarred_1 fg_X12_72_12 hM rfl ?_
  refine Ev_iload_n dX12_cellsBarred_4 rfl ?_
  refine Ev_ialoadN (j := kk) dX12_cellsBarred_5 hs (by omega) (by decide) ?_
  refine Ev_topi (y := iZ z) hz ?_
  refine Ev_if_lt dX12_cellsBarred_6 (fun c => absurd c (by first | (simp only [xlt, xle, xeq, z32_0, z32_1, z32_2, z32_3, z32_8, z32_12, z32_60, ez]; omega) | (simp only [xlt, xle, xeq, z32_0, z32_1, z32_2, z32_3, z32_8, z32_12, z32_60, ez]; done) | omega)) (fun _ => ?_)
  refine Ev_aload_n dX12_cellsBarred_9 rfl ?_
  refine Ev_get dX12_cellsBarred_10 fg_X12_75_12 hM rfl ?_
  refine Ev_iload_n dX12_cellsBarred_13 rfl ?_
  refine Ev_ialoadN (j := kk) dX12_cellsBarred_14 hl (by omega) (by decide) ?_
  refine Ev_topi (y := fl kk) rfl ?_
  refine Ev_iload_n dX12_cellsBarred_15 rfl ?_
  refine Ev_icmp_eq dX12_cellsBarred_16 (fun _ => ?_) (fun c => absurd heq c)
  refine Ev_aload_n dX12_cellsBarred_25 rfl ?_
  refine Ev_get dX12_cellsBarred_26 fg_X12_72_12 hM rfl ?_
  refine Ev_iload_n dX12_cellsBarred_29 rfl ?_
  refine Ev_ialoadN (j := kk) dX12_cellsBarred_30 hs (by omega) (by decide) ?_
  refine Ev_topi (y := iZ z) hz ?_
  refine Ev_if_ge dX12_cellsBarred_31 (fun _ => ?_) (fun c => absurd (by first | (simp only [xlt, xle, xeq, z32_0, z32_1, z32_2, z32_3, z32_8, z32_12, z32_60, ez]; omega) | (simp only [xlt, xle, xeq, z32_0, z32_1, z32_2, z32_3, z32_8, z32_12, z32_60, ez]; done) | omega) c)
  refine Ev_lload dX12_cellsBarred_40 rfl ?_
  refine Ev_lconst (v := 0) dX12_cellsBarred_42 (by decide) ?_
  refine Ev_lcmp dX12_cellsBarred_43 ?_
  refine Ev_if_ge dX12_cellsBarred_44 (fun c => absurd c (fun c9 => absurd (lg_ge.mp c9) (by rw [hy]; exact (by omega : ¬ (0 : Int) ≤ y)))) (fun _ => ?_)
  refine Ev_aload_n dX12_cellsBarred_47 rfl ?_
  refine Ev_iconst (v := 4) dX12_cellsBarred_48 (by decide) ?_
  refine Ev_callV (bc := 0) (b := 0) dX12_cellsBarred_49 cv_X12_125 rfl hM (Nat.le_of_ble_eq_true rfl) (by omega) ?_
  refine c_X12_failed hM ?_
  refine Ev_topi (y := (-14)) (by decide) ?_
  refine Ev_iret dX12_cellsBarred_52 rfl rfl ?_
  exact k

set_option maxHeartbeats 4000000 in
set_option maxRecDepth 100000 in
theorem c_X12_barred_ix {d : Nat} {S : aS} {Q : Option Value → aS → Prop} {flt pl n du lw fr cl ra rp rs ea dp bm rd tr : Int32} {bi : Int64} (hM : S[31]? = some (mo flt pl n du lw fr cl ra rp rs ea dp bm bi rd tr)) {fs fl fc : Nat → Int32} (hs : S[52]? = some (iA 4 fs)) (hl : S[53]? = some (iA 4 fl)) (hc : S[54]? = some (iA 240 fc)) {kk : Nat} (hk : kk < 4) {z : Int} (hz : fs kk = iZ z) (hzr : -1 ≤ z ∧ z ≤ 60) {w i : Int32} {n9 : Int64} {y : Int} (hy : n9.toInt = y) (hyr : -2147483648 ≤ y ∧ y ≤ 2147483647) (hn : 0 ≤ z) (heq : fl kk = w) (hs4 : 0 ≤ y) (hi : ¬ (0 ≤ i.toInt ∧ i.toInt + y ≤ z)) (k : Q (some (.int (-13))) (S.set 31 (mo 3 pl n du lw fr cl ra rp rs ea dp bm bi rd tr))) : Mth mX12_cellsBarred (d + 1) 0 [.ref 31, .int (nI kk), .int w, .int i, .long n9] S Q := by
  have ez : (iZ z).toInt = z := iZt (by omega)
  refine Mth_of (by decide) rfl ?_
  refine Ev_aload_n dX12_cellsBarred_0 rfl ?_
  refine Ev_get dX12_cellsBarred_1 fg_X12_72_12 hM rfl ?_
  refine Ev_iload_n dX12_cellsBarred_4 rfl ?_
  refine Ev_ialoadN (j := kk) dX12_cellsBarred_5 hs (by omega) (by decide) ?_
  refine Ev_topi (y := iZ z) hz ?_
  refine Ev_if_lt dX12_cellsBarred_6 (fun c => absurd c (by first | (simp only [xlt, xle, xeq, z32_0, z32_1, z32_2, z32_3, z32_8, z32_12, z32_60, ez]; omega) | (simp only [xlt, xle, xeq, z32_0, z32_1, z32_2, z32_3, z32_8, z32_12, z32_60, ez]; done) | omega)) (fun _ => ?_)
  refine Ev_aload_n dX12_cellsBarred_9 rfl ?_
  refine Ev_get dX12_cellsBarred_10 fg_X12_75_12 hM rfl ?_
  refine Ev_iload_n dX12_cellsBarred_13 rfl ?_
  refine Ev_ialoadN (j := kk) dX12_cellsBarred_14 hl (by omega) (by decide) ?_
  refine Ev_topi (y := fl kk) rfl ?_
  refine Ev_iload_n dX12_cellsBarred_15 rfl ?_
  refine Ev_icmp_eq dX12_cellsBarred_16 (fun _ => ?_) (fun c => absurd heq c)
  refine Ev_aload_n dX12_cellsBarred_25 rfl ?_
  refine Ev_get dX12_cellsBarred_26 fg_X12_72_12 hM rfl ?_
  refine Ev_iload_n dX12_cellsBarred_29 rfl ?_
  refine Ev_ialoadN (j := kk) dX12_cellsBarred_30 hs (by omega) (by decide) ?_
  refine Ev_topi (y := iZ z) hz ?_
  refine Ev_if_ge dX12_cellsBarred_31 (fun _ => ?_) (fun c => absurd (by first | (simp only [xlt, xle, xeq, z32_0, z32_1, z32_2, z32_3, z32_8, z32_12, z32_60, ez]; omega) | (simp only [xlt, xle, xeq, z32_0, z32_1, z32_2, z32_3, z32_8, z32_12, z32_60, ez]; done) | omega) c)
  refine Ev_lload dX12_cellsBarred_40 rfl ?_
  refine Ev_lconst (v := 0) dX12_cellsBarred_42 (by decide) ?_
  refine Ev_lcmp dX12_cellsBarred_43 ?_
  refine Ev_if_ge dX12_cellsBarred_44 (fun _ => ?_) (fun c => absurd (lg_ge.mpr (by rw [hy]; exact (by omega : (0 : Int) ≤ y))) c)
  refine Ev_iload_n dX12_cellsBarred_53 rfl ?_
  refine Ev_lload dX12_cellsBarred_54 rfl ?_
  refine Ev_aload_n dX12_cellsBarred_56 rfl ?_
  refine Ev_get dX12_cellsBarred_57 fg_X12_72_12 hM rfl ?_
  refine Ev_iload_n dX12_cellsBarred_60 rfl ?_
  refine Ev_ialoadN (j := kk) dX12_cellsBarred_61 hs (by omega) (by decide) ?_
  refine Ev_topi (y := iZ z) hz ?_
  refine Ev_callS (bc := 0) (b := 0) dX12_cellsBarred_62 cs_X12_129 rfl (Nat.le_of_ble_eq_true rfl) (by omega) ?_
  refine c_X12_isBeyond (z := y) hy hyr (fun _ => ?_) (fun q => absurd q (not_not_intro (by rw [ez]; omega)))
  refine Ev_if_eq dX12_cellsBarred_65 (fun c => absurd c (by decide)) (fun _ => ?_)
  refine Ev_aload_n dX12_cellsBarred_68 rfl ?_
  refine Ev_iconst (v := 3) dX12_cellsBarred_69 (by decide) ?_
  refine Ev_callV (bc := 0) (b := 0) dX12_cellsBarred_70 cv_X12_125 rfl hM (Nat.le_of_ble_eq_true rfl) (by omega) ?_
  refine c_X12_failed hM ?_
  refine Ev_topi (y := (-13)) (by decide) ?_
  refine Ev_goto dX12_cellsBarred_73 ?_
  refine Ev_iret dX12_cellsBarred_77 rfl rfl ?_
  exact k

set_option maxHeartbeats 4000000 in
set_option maxRecDepth 100000 in
theorem c_X12_barred_o {d : Nat} {S : aS} {Q : Option Value → aS → Prop} {flt pl n du lw fr cl ra rp rs ea dp bm rd tr : Int32} {bi : Int64} (hM : S[31]? = some (mo flt pl n du lw fr cl ra rp rs ea dp bm bi rd tr)) {fs fl fc : Nat → Int32} (hs : S[52]? = some (iA 4 fs)) (hl : S[53]? = some (iA 4 fl)) (hc : S[54]? = some (iA 240 fc)) {kk : Nat} (hk : kk < 4) {z : Int} (hz : fs kk = iZ z) (hzr : -1 ≤ z ∧ z ≤ 60) {w i : Int32} {n9 : Int64} {y : Int} (hy : n9.toInt = y) (hyr : -2147483648 ≤ y ∧ y ≤ 2147483647) (hn : 0 ≤ z) (heq : fl kk = w) (hs4 : 0 ≤ y) (hi : 0 ≤ i.toInt ∧ i.toInt + y ≤ z) (k : Q (some (.int 0)) S) : Mth mX12_cellsBarred (d + 1) 0 [.ref 31, .int (nI kk), .int w, .int i, .long n9] S Q := by
  have ez : (iZ z).toInt = z := iZt (by omega)
  refine Mth_of (by decide) rfl ?_
  refine Ev_aload_n dX12_cellsBarred_0 rfl ?_
  refine Ev_get dX12_cellsBarred_1 fg_X12_72_12 hM rfl ?_
  refine Ev_iload_n dX12_cellsBarred_4 rfl ?_
  refine Ev_ialoadN (j := kk) dX12_cellsBarred_5 hs (by omega) (by decide) ?_
  refine Ev_topi (y := iZ z) hz ?_
  refine Ev_if_lt dX12_cellsBarred_6 (fun c => absurd c (by first | (simp only [xlt, xle, xeq, z32_0, z32_1, z32_2, z32_3, z32_8, z32_12, z32_60, ez]; omega) | (simp only [xlt, xle, xeq, z32_0, z32_1, z32_2, z32_3, z32_8, z32_12, z32_60, ez]; done) | omega)) (fun _ => ?_)
  refine Ev_aload_n dX12_cellsBarred_9 rfl ?_
  refine Ev_get dX12_cellsBarred_10 fg_X12_75_12 hM rfl ?_
  refine Ev_iload_n dX12_cellsBarred_13 rfl ?_
  refine Ev_ialoadN (j := kk) dX12_cellsBarred_14 hl (by omega) (by decide) ?_
  refine Ev_topi (y := fl kk) rfl ?_
  refine Ev_iload_n dX12_cellsBarred_15 rfl ?_
  refine Ev_icmp_eq dX12_cellsBarred_16 (fun _ => ?_) (fun c => absurd heq c)
  refine Ev_aload_n dX12_cellsBarred_25 rfl ?_
  refine Ev_get dX12_cellsBarred_26 fg_X12_72_12 hM rfl ?_
  refine Ev_iload_n dX12_cellsBarred_29 rfl ?_
  refine Ev_ialoadN (j := kk) dX12_cellsBarred_30 hs (by omega) (by decide) ?_
  refine Ev_topi (y := iZ z) hz ?_
  refine Ev_if_ge dX12_cellsBarred_31 (fun _ => ?_) (fun c => absurd (by first | (simp only [xlt, xle, xeq, z32_0, z32_1, z32_2, z32_3, z32_8, z32_12, z32_60, ez]; omega) | (simp only [xlt, xle, xeq, z32_0, z32_1, z32_2, z32_3, z32_8, z32_12, z32_60, ez]; done) | omega) c)
  refine Ev_lload dX12_cellsBarred_40 rfl ?_
  refine Ev_lconst (v := 0) dX12_cellsBarred_42 (by decide) ?_
  refine Ev_lcmp dX12_cellsBarred_43 ?_
  refine Ev_if_ge dX12_cellsBarred_44 (fun _ => ?_) (fun c => absurd (lg_ge.mpr (by rw [hy]; exact (by omega : (0 : Int) ≤ y))) c)
  refine Ev_iload_n dX12_cellsBarred_53 rfl ?_
  refine Ev_lload dX12_cellsBarred_54 rfl ?_
  refine Ev_aload_n dX12_cellsBarred_56 rfl ?_
  refine Ev_get dX12_cellsBarred_57 fg_X12_72_12 hM rfl ?_
  refine Ev_iload_n dX12_cellsBarred_60 rfl ?_
  refine Ev_ialoadN (j := kk) dX12_cellsBarred_61 hs (by omega) (by decide) ?_
  refine Ev_topi (y := iZ z) hz ?_
  refine Ev_callS (bc := 0) (b := 0) dX12_cellsBarred_62 cs_X12_129 rfl (Nat.le_of_ble_eq_true rfl) (by omega) ?_
  refine c_X12_isBeyond (z := y) hy hyr (fun q => absurd q (by rw [ez]; omega)) (fun _ => ?_)
  refine Ev_if_eq dX12_cellsBarred_65 (fun _ => ?_) (fun c => absurd (by decide) c)
  refine Ev_iconst (v := 0) dX12_cellsBarred_76 (by decide) ?_
  refine Ev_iret dX12_cellsBarred_77 rfl rfl ?_
  exact k

def cpN (g f : Nat → Int32) (so dz : Nat) : Nat → Nat → Int32
  | 0 => f
  | m + 1 => upd (cpN g f so dz m) (dz + m) (g (so + m))
theorem cpN_in {g f : Nat → Int32} {so dz : Nat} : ∀ (m i : Nat), i < m → cpN g f so dz m (dz + i) = g (so + i)
  | 0, i, h => by omega
  | m + 1, i, h => by
    by_cases e : i = m
    · subst e; simp [cpN, upd]
    · simp only [cpN, upd]
      rw [if_neg (by omega)]
      exact cpN_in m i (by omega)
theorem cpN_out {g f : Nat → Int32} {so dz : Nat} : ∀ (m i : Nat), i < dz ∨ dz + m ≤ i → cpN g f so dz m i = f i
  | 0, i, h => rfl
  | m + 1, i, h => by
    simp only [cpN, upd]
    rw [if_neg (by omega)]
    exact cpN_out m i (by omega)

set_option maxHeartbeats 4000000 in
set_option maxRecDepth 100000 in
theorem c_X12_copy_unk1 {d : Nat} {S : aS} {Q : Option Value → aS → Prop} {flt pl n du lw fr cl ra rp rs ea dp bm rd tr : Int32} {bi : Int64} (hM : S[31]? = some (mo flt pl n du lw fr cl ra rp rs ea dp bm bi rd tr)) {x : Int32} (hk : ¬ (0 ≤ x.toInt ∧ x.toInt ≤ 3)) {i x2 j n9 : Int32} (k : Q (some (.int (-1))) (S.set 31 (mo 0 pl n du lw fr cl ra rp rs ea dp bm bi rd tr))) : Mth mX12_copy (d + 2) 0 [.ref 31, .int x, .int i, .int x2, .int j, .int n9] S Q := by
  refine Mth_of (by decide) rfl ?_
  refine Ev_iload_n dX12_copy_0 rfl ?_
  refine Ev_callS (bc := 0) (b := 0) dX12_copy_1 cs_X12_133 rfl (Nat.le_of_ble_eq_true rfl) (by omega) ?_
  refine c_X12_noSheet (fun _ => ?_) (fun q => absurd q hk)
  refine Ev_if_ne dX12_copy_4 (fun _ => ?_) (fun c => absurd c (by decide))
  refine Ev_aload_n dX12_copy_14 rfl ?_
  refine Ev_iconst (v := (-1)) dX12_copy_15 (by decide) ?_
  refine Ev_callV (bc := 0) (b := 0) dX12_copy_16 cv_X12_137 rfl hM (Nat.le_of_ble_eq_true rfl) (by omega) ?_
  refine c_X12_refused hM ?_
  refine Ev_iret dX12_copy_19 rfl rfl ?_
  exact k

set_option maxHeartbeats 4000000 in
set_option maxRecDepth 100000 in
theorem c_X12_copy_unk2 {d : Nat} {S : aS} {Q : Option Value → aS → Prop} {flt pl n du lw fr cl ra rp rs ea dp bm rd tr : Int32} {bi : Int64} (hM : S[31]? = some (mo flt pl n du lw fr cl ra rp rs ea dp bm bi rd tr)) {kk : Nat} (hk : kk < 4) {i x j n9 : Int32} (hx : ¬ (0 ≤ x.toInt ∧ x.toInt ≤ 3)) (k : Q (some (.int (-1))) (S.set 31 (mo 0 pl n du lw fr cl ra rp rs ea dp bm bi rd tr))) : Mth mX12_copy (d + 2) 0 [.ref 31, .int (nI kk), .int i, .int x, .int j, .int n9] S Q := by
  refine Mth_of (by decide) rfl ?_
  refine Ev_iload_n dX12_copy_0 rfl ?_
  refine Ev_callS (bc := 0) (b := 0) dX12_copy_1 cs_X12_133 rfl (Nat.le_of_ble_eq_true rfl) (by omega) ?_
  refine c_X12_noSheet (fun q => absurd q (not_not_intro (by rw [nIt (by omega)]; omega))) (fun _ => ?_)
  refine Ev_if_ne dX12_copy_4 (fun c => absurd (by decide) c) (fun _ => ?_)
  refine Ev_iload_n dX12_copy_7 rfl ?_
  refine Ev_callS (bc := 0) (b := 0) dX12_copy_8 cs_X12_133 rfl (Nat.le_of_ble_eq_true rfl) (by omega) ?_
  refine c_X12_noSheet (fun _ => ?_) (fun q => absurd q hx)
  refine Ev_if_eq dX12_copy_11 (fun c => absurd c (by decide)) (fun _ => ?_)
  refine Ev_aload_n dX12_copy_14 rfl ?_
  refine Ev_iconst (v := (-1)) dX12_copy_15 (by decide) ?_
  refine Ev_callV (bc := 0) (b := 0) dX12_copy_16 cv_X12_137 rfl hM (Nat.le_of_ble_eq_true rfl) (by omega) ?_
  refine c_X12_refused hM ?_
  refine Ev_iret dX12_copy_19 rfl rfl ?_
  exact k

set_option maxHeartbeats 4000000 in
set_option maxRecDepth 100000 in
theorem c_X12_copy_n1 {d : Nat} {S : aS} {Q : Option Value → aS → Prop} {flt pl n du lw fr cl ra rp rs ea dp bm rd tr : Int32} {bi : Int64} (hM : S[31]? = some (mo flt pl n du lw fr cl ra rp rs ea dp bm bi rd tr)) {fs fl fc : Nat → Int32} (hs : S[52]? = some (iA 4 fs)) (hl : S[53]? = some (iA 4 fl)) (hc : S[54]? = some (iA 240 fc)) {kk : Nat} (hk : kk < 4) {z : Int} (hz : fs kk = iZ z) (hzr : -1 ≤ z ∧ z ≤ 60) {oo : Nat} (ho : oo < 4) {z2 : Int} (hz2 : fs oo = iZ z2) (hzr2 : -1 ≤ z2 ∧ z2 ≤ 60) {i j n9 : Int32} (hn : z < 0) (k : Q (some (.int (-11))) (S.set 31 (mo 1 pl n du lw fr cl ra rp rs ea dp bm bi rd tr))) : Mth mX12_copy (d + 2) 0 [.ref 31, .int (nI kk), .int i, .int (nI oo), .int j, .int n9] S Q := by
  have ez : (iZ z).toInt = z := iZt (by omega)
  have ez2 : (iZ z2).toInt = z2 := iZt (by omega)
  refine Mth_of (by decide) rfl ?_
  refine Ev_iload_n dX12_copy_0 rfl ?_
  refine Ev_callS (bc := 0) (b := 0) dX12_copy_1 cs_X12_133 rfl (Nat.le_of_ble_eq_true rfl) (by omega) ?_
  refine c_X12_noSheet (fun q => absurd q (not_not_intro (by rw [nIt (by omega)]; omega))) (fun _ => ?_)
  refine Ev_if_ne dX12_copy_4 (fun c => absurd (by decide) c) (fun _ => ?_)
  refine Ev_iload_n dX12_copy_7 rfl ?_
  refine Ev_callS (bc := 0) (b := 0) dX12_copy_8 cs_X12_133 rfl (Nat.le_of_ble_eq_true rfl) (by omega) ?_
  refine c_X12_noSheet (fun q => absurd q (not_not_intro (by rw [nIt (by omega)]; omega))) (fun _ => ?_)
  refine Ev_if_eq dX12_copy_11 (fun _ => ?_) (fun c => absurd (by decide) c)
  refine Ev_aload_n dX12_copy_20 rfl ?_
  refine Ev_get dX12_copy_21 fg_X12_72_12 hM rfl ?_
  refine Ev_iload_n dX12_copy_24 rfl ?_
  refine Ev_ialoadN (j := kk) dX12_copy_25 hs (by omega) (by decide) ?_
  refine Ev_topi (y := iZ z) hz ?_
  refine Ev_if_lt dX12_copy_26 (fun _ => ?_) (fun c => absurd (by first | (simp only [xlt, xle, xeq, z32_0, z32_1, z32_2, z32_3, z32_8, z32_12, z32_60, ez, ez2]; omega) | (simp only [xlt, xle, xeq, z32_0, z32_1, z32_2, z32_3, z32_8, z32_12, z32_60, ez, ez2]; done) | omega) c)
  refine Ev_aload_n dX12_copy_38 rfl ?_
  refine Ev_iconst (v := 1) dX12_copy_39 (by decide) ?_
  refine Ev_callV (bc := 0) (b := 0) dX12_copy_40 cv_X12_125 rfl hM (Nat.le_of_ble_eq_true rfl) (by omega) ?_
  refine c_X12_failed hM ?_
  refine Ev_topi (y := (-11)) (by decide) ?_
  refine Ev_iret dX12_copy_43 rfl rfl ?_
  exact k

set_option maxHeartbeats 4000000 in
set_option maxRecDepth 100000 in
theorem c_X12_copy_n2 {d : Nat} {S : aS} {Q : Option Value → aS → Prop} {flt pl n du lw fr cl ra rp rs ea dp bm rd tr : Int32} {bi : Int64} (hM : S[31]? = some (mo flt pl n du lw fr cl ra rp rs ea dp bm bi rd tr)) {fs fl fc : Nat → Int32} (hs : S[52]? = some (iA 4 fs)) (hl : S[53]? = some (iA 4 fl)) (hc : S[54]? = some (iA 240 fc)) {kk : Nat} (hk : kk < 4) {z : Int} (hz : fs kk = iZ z) (hzr : -1 ≤ z ∧ z ≤ 60) {oo : Nat} (ho : oo < 4) {z2 : Int} (hz2 : fs oo = iZ z2) (hzr2 : -1 ≤ z2 ∧ z2 ≤ 60) {i j n9 : Int32} (hn : 0 ≤ z) (hn2 : z2 < 0) (k : Q (some (.int (-11))) (S.set 31 (mo 1 pl n du lw fr cl ra rp rs ea dp bm bi rd tr))) : Mth mX12_copy (d + 2) 0 [.ref 31, .int (nI kk), .int i, .int (nI oo), .int j, .int n9] S Q := by
  have ez : (iZ z).toInt = z := iZt (by omega)
  have ez2 : (iZ z2).toInt = z2 := iZt (by omega)
  refine Mth_of (by decide) rfl ?_
  refine Ev_iload_n dX12_copy_0 rfl ?_
  refine Ev_callS (bc := 0) (b := 0) dX12_copy_1 cs_X12_133 rfl (Nat.le_of_ble_eq_true rfl) (by omega) ?_
  refine c_X12_noSheet (fun q => absurd q (not_not_intro (by rw [nIt (by omega)]; omega))) (fun _ => ?_)
  refine Ev_if_ne dX12_copy_4 (fun c => absurd (by decide) c) (fun _ => ?_)
  refine Ev_iload_n dX12_copy_7 rfl ?_
  refine Ev_callS (bc := 0) (b := 0) dX12_copy_8 cs_X12_133 rfl (Nat.le_of_ble_eq_true rfl) (by omega) ?_
  refine c_X12_noSheet (fun q => absurd q (not_not_intro (by rw [nIt (by omega)]; omega))) (fun _ => ?_)
  refine Ev_if_eq dX12_copy_11 (fun _ => ?_) (fun c => absurd (by decide) c)
  refine Ev_aload_n dX12_copy_20 rfl ?_
  refine Ev_get dX12_copy_21 fg_X12_72_12 hM rfl ?_
  refine Ev_iload_n dX12_copy_24 rfl ?_
  refine Ev_ialoadN (j := kk) dX12_copy_25 hs (by omega) (by decide) ?_
  refine Ev_topi (y := iZ z) hz ?_
  refine Ev_if_lt dX12_copy_26 (fun c => absurd c (by first | (simp only [xlt, xle, xeq, z32_0, z32_1, z32_2, z32_3, z32_8, z32_12, z32_60, ez, ez2]; omega) | (simp only [xlt, xle, xeq, z32_0, z32_1, z32_2, z32_3, z32_8, z32_12, z32_60, ez, ez2]; done) | omega)) (fun _ => ?_)
  refine Ev_aload_n dX12_copy_29 rfl ?_
  refine Ev_get dX12_copy_30 fg_X12_72_12 hM rfl ?_
  refine Ev_iload_n dX12_copy_33 rfl ?_
  refine Ev_ialoadN (j := oo) dX12_copy_34 hs (by omega) (by decide) ?_
  refine Ev_topi (y := iZ z2) hz2 ?_
  refine Ev_if_ge dX12_copy_35 (fun c => absurd c (by first | (simp only [xlt, xle, xeq, z32_0, z32_1, z32_2, z32_3, z32_8, z32_12, z32_60, ez, ez2]; omega) | (simp only [xlt, xle, xeq, z32_0, z32_1, z32_2, z32_3, z32_8, z32_12, z32_60, ez, ez2]; done) | omega)) (fun _ => ?_)
  refine Ev_aload_n dX12_copy_38 rfl ?_
  refine Ev_iconst (v := 1) dX12_copy_39 (by decide) ?_
  refine Ev_callV (bc := 0) (b := 0) dX12_copy_40 cv_X12_125 rfl hM (Nat.le_of_ble_eq_true rfl) (by omega) ?_
  refine c_X12_failed hM ?_
  refine Ev_topi (y := (-11)) (by decide) ?_
  refine Ev_iret dX12_copy_43 rfl rfl ?_
  exact k

set_option maxHeartbeats 4000000 in
set_option maxRecDepth 100000 in
theorem c_X12_copy_cast {d : Nat} {S : aS} {Q : Option Value → aS → Prop} {flt pl n du lw fr cl ra rp rs ea dp bm rd tr : Int32} {bi : Int64} (hM : S[31]? = some (mo flt pl n du lw fr cl ra rp rs ea dp bm bi rd tr)) {fs fl fc : Nat → Int32} (hs : S[52]? = some (iA 4 fs)) (hl : S[53]? = some (iA 4 fl)) (hc : S[54]? = some (iA 240 fc)) {kk : Nat} (hk : kk < 4) {z : Int} (hz : fs kk = iZ z) (hzr : -1 ≤ z ∧ z ≤ 60) {oo : Nat} (ho : oo < 4) {z2 : Int} (hz2 : fs oo = iZ z2) (hzr2 : -1 ≤ z2 ∧ z2 ≤ 60) {i j n9 : Int32} (hn : 0 ≤ z) (hn2 : 0 ≤ z2) (hne : ¬ fl kk = fl oo) (k : Q (some (.int (-12))) (S.set 31 (mo 2 pl n du lw fr cl ra rp rs ea dp bm bi rd tr))) : Mth mX12_copy (d + 2) 0 [.ref 31, .int (nI kk), .int i, .int (nI oo), .int j, .int n9] S Q := by
  have ez : (iZ z).toInt = z := iZt (by omega)
  have ez2 : (iZ z2).toInt = z2 := iZt (by omega)
  refine Mth_of (by decide) rfl ?_
  refine Ev_iload_n dX12_copy_0 rfl ?_
  refine Ev_callS (bc := 0) (b := 0) dX12_copy_1 cs_X12_133 rfl (Nat.le_of_ble_eq_true rfl) (by omega) ?_
  refine c_X12_noSheet (fun q => absurd q (not_not_intro (by rw [nIt (by omega)]; omega))) (fun _ => ?_)
  refine Ev_if_ne dX12_copy_4 (fun c => absurd (by decide) c) (fun _ => ?_)
  refine Ev_iload_n dX12_copy_7 rfl ?_
  refine Ev_callS (bc := 0) (b := 0) dX12_copy_8 cs_X12_133 rfl (Nat.le_of_ble_eq_true rfl) (by omega) ?_
  refine c_X12_noSheet (fun q => absurd q (not_not_intro (by rw [nIt (by omega)]; omega))) (fun _ => ?_)
  refine Ev_if_eq dX12_copy_11 (fun _ => ?_) (fun c => absurd (by decide) c)
  refine Ev_aload_n dX12_copy_20 rfl ?_
  refine Ev_get dX12_copy_21 fg_X12_72_12 hM rfl ?_
  refine Ev_iload_n dX12_copy_24 rfl ?_
  refine Ev_ialoadN (j := kk) dX12_copy_25 hs (by omega) (by decide) ?_
  refine Ev_topi (y := iZ z) hz ?_
  refine Ev_if_lt dX12_copy_26 (fun c => absurd c (by first | (simp only [xlt, xle, xeq, z32_0, z32_1, z32_2, z32_3, z32_8, z32_12, z32_60, ez, ez2]; omega) | (simp only [xlt, xle, xeq, z32_0, z32_1, z32_2, z32_3, z32_8, z32_12, z32_60, ez, ez2]; done) | omega)) (fun _ => ?_)
  refine Ev_aload_n dX12_copy_29 rfl ?_
  refine Ev_get dX12_copy_30 fg_X12_72_12 hM rfl ?_
  refine Ev_iload_n dX12_copy_33 rfl ?_
  refine Ev_ialoadN (j := oo) dX12_copy_34 hs (by omega) (by decide) ?_
  refine Ev_topi (y := iZ z2) hz2 ?_
  refine Ev_if_ge dX12_copy_35 (fun _ => ?_) (fun c => absurd (by first | (simp only [xlt, xle, xeq, z32_0, z32_1, z32_2, z32_3, z32_8, z32_12, z32_60, ez, ez2]; omega) | (simp only [xlt, xle, xeq, z32_0, z32_1, z32_2, z32_3, z32_8, z32_12, z32_60, ez, ez2]; done) | omega) c)
  refine Ev_aload_n dX12_copy_44 rfl ?_
  refine Ev_get dX12_copy_45 fg_X12_75_12 hM rfl ?_
  refine Ev_iload_n dX12_copy_48 rfl ?_
  refine Ev_ialoadN (j := kk) dX12_copy_49 hl (by omega) (by decide) ?_
  refine Ev_topi (y := fl kk) rfl ?_
  refine Ev_aload_n dX12_copy_50 rfl ?_
  refine Ev_get dX12_copy_51 fg_X12_75_12 hM rfl ?_
  refine Ev_iload_n dX12_copy_54 rfl ?_
  refine Ev_ialoadN (j := oo) dX12_copy_55 hl (by omega) (by decide) ?_
  refine Ev_topi (y := fl oo) rfl ?_
  refine Ev_icmp_eq dX12_copy_56 (fun c => absurd c hne) (fun _ => ?_)
  refine Ev_aload_n dX12_copy_59 rfl ?_
  refine Ev_iconst (v := 2) dX12_copy_60 (by decide) ?_
  refine Ev_callV (bc := 0) (b := 0) dX12_copy_61 cv_X12_125 rfl hM (Nat.le_of_ble_eq_true rfl) (by omega) ?_
  refine c_X12_failed hM ?_
  refine Ev_topi (y := (-12)) (by decide) ?_
  refine Ev_iret dX12_copy_64 rfl rfl ?_
  exact k

set_option maxHeartbeats 4000000 in
set_option maxRecDepth 100000 in
theorem c_X12_copy_i1 {d : Nat} {S : aS} {Q : Option Value → aS → Prop} {flt pl n du lw fr cl ra rp rs ea dp bm rd tr : Int32} {bi : Int64} (hM : S[31]? = some (mo flt pl n du lw fr cl ra rp rs ea dp bm bi rd tr)) {fs fl fc : Nat → Int32} (hs : S[52]? = some (iA 4 fs)) (hl : S[53]? = some (iA 4 fl)) (hc : S[54]? = some (iA 240 fc)) {kk : Nat} (hk : kk < 4) {z : Int} (hz : fs kk = iZ z) (hzr : -1 ≤ z ∧ z ≤ 60) {oo : Nat} (ho : oo < 4) {z2 : Int} (hz2 : fs oo = iZ z2) (hzr2 : -1 ≤ z2 ∧ z2 ≤ 60) {i j n9 : Int32} (hn : 0 ≤ z) (hn2 : 0 ≤ z2) (heq : fl kk = fl oo) (hi : i.toInt < 0 ∨ n9.toInt < 0 ∨ z < i.toInt + n9.toInt) (k : Q (some (.int (-13))) (S.set 31 (mo 3 pl n du lw fr cl ra rp rs ea dp bm bi rd tr))) : Mth mX12_copy (d + 2) 0 [.ref 31, .int (nI kk), .int i, .int (nI oo), .int j, .int n9] S Q := by
  have ez : (iZ z).toInt = z := iZt (by omega)
  have ez2 : (iZ z2).toInt = z2 := iZt (by omega)
  refine Mth_of (by decide) rfl ?_
  refine Ev_iload_n dX12_copy_0 rfl ?_
  refine Ev_callS (bc := 0) (b := 0) dX12_copy_1 cs_X12_133 rfl (Nat.le_of_ble_eq_true rfl) (by omega) ?_
  refine c_X12_noSheet (fun q => absurd q (not_not_intro (by rw [nIt (by omega)]; omega))) (fun _ => ?_)
  refine Ev_if_ne dX12_copy_4 (fun c => absurd (by decide) c) (fun _ => ?_)
  refine Ev_iload_n dX12_copy_7 rfl ?_
  refine Ev_callS (bc := 0) (b := 0) dX12_copy_8 cs_X12_133 rfl (Nat.le_of_ble_eq_true rfl) (by omega) ?_
  refine c_X12_noSheet (fun q => absurd q (not_not_intro (by rw [nIt (by omega)]; omega))) (fun _ => ?_)
  refine Ev_if_eq dX12_copy_11 (fun _ => ?_) (fun c => absurd (by decide) c)
  refine Ev_aload_n dX12_copy_20 rfl ?_
  refine Ev_get dX12_copy_21 fg_X12_72_12 hM rfl ?_
  refine Ev_iload_n dX12_copy_24 rfl ?_
  refine Ev_ialoadN (j := kk) dX12_copy_25 hs (by omega) (by decide) ?_
  refine Ev_topi (y := iZ z) hz ?_
  refine Ev_if_lt dX12_copy_26 (fun c => absurd c (by first | (simp only [xlt, xle, xeq, z32_0, z32_1, z32_2, z32_3, z32_8, z32_12, z32_60, ez, ez2]; omega) | (simp only [xlt, xle, xeq, z32_0, z32_1, z32_2, z32_3, z32_8, z32_12, z32_60, ez, ez2]; done) | omega)) (fun _ => ?_)
  refine Ev_aload_n dX12_copy_29 rfl ?_
  refine Ev_get dX12_copy_30 fg_X12_72_12 hM rfl ?_
  refine Ev_iload_n dX12_copy_33 rfl ?_
  refine Ev_ialoadN (j := oo) dX12_copy_34 hs (by omega) (by decide) ?_
  refine Ev_topi (y := iZ z2) hz2 ?_
  refine Ev_if_ge dX12_copy_35 (fun _ => ?_) (fun c => absurd (by first | (simp only [xlt, xle, xeq, z32_0, z32_1, z32_2, z32_3, z32_8, z32_12, z32_60, ez, ez2]; omega) | (simp only [xlt, xle, xeq, z32_0, z32_1, z32_2, z32_3, z32_8, z32_12, z32_60, ez, ez2]; done) | omega) c)
  refine Ev_aload_n dX12_copy_44 rfl ?_
  refine Ev_get dX12_copy_45 fg_X12_75_12 hM rfl ?_
  refine Ev_iload_n dX12_copy_48 rfl ?_
  refine Ev_ialoadN (j := kk) dX12_copy_49 hl (by omega) (by decide) ?_
  refine Ev_topi (y := fl kk) rfl ?_
  refine Ev_aload_n dX12_copy_50 rfl ?_
  refine Ev_get dX12_copy_51 fg_X12_75_12 hM rfl ?_
  refine Ev_iload_n dX12_copy_54 rfl ?_
  refine Ev_ialoadN (j := oo) dX12_copy_55 hl (by omega) (by decide) ?_
  refine Ev_topi (y := fl oo) rfl ?_
  refine Ev_icmp_eq dX12_copy_56 (fun _ => ?_) (fun c => absurd heq c)
  refine Ev_iload_n dX12_copy_65 rfl ?_
  refine Ev_iload dX12_copy_66 rfl ?_
  refine Ev_i2l dX12_copy_68 ?_
  refine Ev_aload_n dX12_copy_69 rfl ?_
  refine Ev_get dX12_copy_70 fg_X12_72_12 hM rfl ?_
  refine Ev_iload_n dX12_copy_73 rfl ?_
  refine Ev_ialoadN (j := kk) dX12_copy_74 hs (by omega) (by decide) ?_
  refine Ev_topi (y := iZ z) hz ?_
  refine Ev_callS (bc := 0) (b := 0) dX12_copy_75 cs_X12_129 rfl (Nat.le_of_ble_eq_true rfl) (by omega) ?_
  refine c_X12_isBeyond (z := n9.toInt) (x64 _) (by have := xr32 n9; omega) (fun _ => ?_) (fun q => absurd q (not_not_intro (by rw [ez]; omega)))
  refine Ev_if_ne dX12_copy_78 (fun _ => ?_) (fun c => absurd c (by decide))
  refine Ev_aload_n dX12_copy_98 rfl ?_
  refine Ev_iconst (v := 3) dX12_copy_99 (by decide) ?_
  refine Ev_callV (bc := 0) (b := 0) dX12_copy_100 cv_X12_125 rfl hM (Nat.le_of_ble_eq_true rfl) (by omega) ?_
  refine c_X12_failed hM ?_
  refine Ev_topi (y := (-13)) (by decide) ?_
  refine Ev_iret dX12_copy_103 rfl rfl ?_
  exact k

set_option maxHeartbeats 4000000 in
set_option maxRecDepth 100000 in
theorem c_X12_copy_i2 {d : Nat} {S : aS} {Q : Option Value → aS → Prop} {flt pl n du lw fr cl ra rp rs ea dp bm rd tr : Int32} {bi : Int64} (hM : S[31]? = some (mo flt pl n du lw fr cl ra rp rs ea dp bm bi rd tr)) {fs fl fc : Nat → Int32} (hs : S[52]? = some (iA 4 fs)) (hl : S[53]? = some (iA 4 fl)) (hc : S[54]? = some (iA 240 fc)) {kk : Nat} (hk : kk < 4) {z : Int} (hz : fs kk = iZ z) (hzr : -1 ≤ z ∧ z ≤ 60) {oo : Nat} (ho : oo < 4) {z2 : Int} (hz2 : fs oo = iZ z2) (hzr2 : -1 ≤ z2 ∧ z2 ≤ 60) {i j n9 : Int32} (hn : 0 ≤ z) (hn2 : 0 ≤ z2) (heq : fl kk = fl oo) (hi : ¬ (i.toInt < 0 ∨ n9.toInt < 0 ∨ z < i.toInt + n9.toInt)) (hj : j.toInt < 0 ∨ n9.toInt < 0 ∨ z2 < j.toInt + n9.toInt) (k : Q (some (.int (-13))) (S.set 31 (mo 3 pl n du lw fr cl ra rp rs ea dp bm bi rd tr))) : Mth mX12_copy (d + 2) 0 [.ref 31, .int (nI kk), .int i, .int (nI oo), .int j, .int n9] S Q := by
  have ez : (iZ z).toInt = z := iZt (by omega)
  have ez2 : (iZ z2).toInt = z2 := iZt (by omega)
  refine Mth_of (by decide) rfl ?_
  refine Ev_iload_n dX12_copy_0 rfl ?_
  refine Ev_callS (bc := 0) (b := 0) dX12_copy_1 cs_X12_133 rfl (Nat.le_of_ble_eq_true rfl) (by omega) ?_
  refine c_X12_noSheet (fun q => absurd q (not_not_intro (by rw [nIt (by omega)]; omega))) (fun _ => ?_)
  refine Ev_if_ne dX12_copy_4 (fun c => absurd (by decide) c) (fun _ => ?_)
  refine Ev_iload_n dX12_copy_7 rfl ?_
  refine Ev_callS (bc := 0) (b := 0) dX12_copy_8 cs_X12_133 rfl (Nat.le_of_ble_eq_true rfl) (by omega) ?_
  refine c_X12_noSheet (fun q => absurd q (not_not_intro (by rw [nIt (by omega)]; omega))) (fun _ => ?_)
  refine Ev_if_eq dX12_copy_11 (fun _ => ?_) (fun c => absurd (by decide) c)
  refine Ev_aload_n dX12_copy_20 rfl ?_
  refine Ev_get dX12_copy_21 fg_X12_72_12 hM rfl ?_
  refine Ev_iload_n dX12_copy_24 rfl ?_
  refine Ev_ialoadN (j := kk) dX12_copy_25 hs (by omega) (by decide) ?_
  refine Ev_topi (y := iZ z) hz ?_
  refine Ev_if_lt dX12_copy_26 (fun c => absurd c (by first | (simp only [xlt, xle, xeq, z32_0, z32_1, z32_2, z32_3, z32_8, z32_12, z32_60, ez, ez2]; omega) | (simp only [xlt, xle, xeq, z32_0, z32_1, z32_2, z32_3, z32_8, z32_12, z32_60, ez, ez2]; done) | omega)) (fun _ => ?_)
  refine Ev_aload_n dX12_copy_29 rfl ?_
  refine Ev_get dX12_copy_30 fg_X12_72_12 hM rfl ?_
  refine Ev_iload_n dX12_copy_33 rfl ?_
  refine Ev_ialoadN (j := oo) dX12_copy_34 hs (by omega) (by decide) ?_
  refine Ev_topi (y := iZ z2) hz2 ?_
  refine Ev_if_ge dX12_copy_35 (fun _ => ?_) (fun c => absurd (by first | (simp only [xlt, xle, xeq, z32_0, z32_1, z32_2, z32_3, z32_8, z32_12, z32_60, ez, ez2]; omega) | (simp only [xlt, xle, xeq, z32_0, z32_1, z32_2, z32_3, z32_8, z32_12, z32_60, ez, ez2]; done) | omega) c)
  refine Ev_aload_n dX12_copy_44 rfl ?_
  refine Ev_get dX12_copy_45 fg_X12_75_12 hM rfl ?_
  refine Ev_iload_n dX12_copy_48 rfl ?_
  refine Ev_ialoadN (j := kk) dX12_copy_49 hl (by omega) (by decide) ?_
  refine Ev_topi (y := fl kk) rfl ?_
  refine Ev_aload_n dX12_copy_50 rfl ?_
  refine Ev_get dX12_copy_51 fg_X12_75_12 hM rfl ?_
  refine Ev_iload_n dX12_copy_54 rfl ?_
  refine Ev_ialoadN (j := oo) dX12_copy_55 hl (by omega) (by decide) ?_
  refine Ev_topi (y := fl oo) rfl ?_
  refine Ev_icmp_eq dX12_copy_56 (fun _ => ?_) (fun c => absurd heq c)
  refine Ev_iload_n dX12_copy_65 rfl ?_
  refine Ev_iload dX12_copy_66 rfl ?_
  refine Ev_i2l dX12_copy_68 ?_
  refine Ev_aload_n dX12_copy_69 rfl ?_
  refine Ev_get dX12_copy_70 fg_X12_72_12 hM rfl ?_
  refine Ev_iload_n dX12_copy_73 rfl ?_
  refine Ev_ialoadN (j := kk) dX12_copy_74 hs (by omega) (by decide) ?_
  refine Ev_topi (y := iZ z) hz ?_
  refine Ev_callS (bc := 0) (b := 0) dX12_copy_75 cs_X12_129 rfl (Nat.le_of_ble_eq_true rfl) (by omega) ?_
  refine c_X12_isBeyond (z := n9.toInt) (x64 _) (by have := xr32 n9; omega) (fun q => absurd q (by rw [ez]; omega)) (fun _ => ?_)
  refine Ev_if_ne dX12_copy_78 (fun c => absurd (by decide) c) (fun _ => ?_)
  refine Ev_iload dX12_copy_81 rfl ?_
  refine Ev_iload dX12_copy_83 rfl ?_
  refine Ev_i2l dX12_copy_85 ?_
  refine Ev_aload_n dX12_copy_86 rfl ?_
  refine Ev_get dX12_copy_87 fg_X12_72_12 hM rfl ?_
  refine Ev_iload_n dX12_copy_90 rfl ?_
  refine Ev_ialoadN (j := oo) dX12_copy_91 hs (by omega) (by decide) ?_
  refine Ev_topi (y := iZ z2) hz2 ?_
  refine Ev_callS (bc := 0) (b := 0) dX12_copy_92 cs_X12_129 rfl (Nat.le_of_ble_eq_true rfl) (by omega) ?_
  refine c_X12_isBeyond (z := n9.toInt) (x64 _) (by have := xr32 n9; omega) (fun _ => ?_) (fun q => absurd q (not_not_intro (by rw [ez2]; omega)))
  refine Ev_if_eq dX12_copy_95 (fun c => absurd c (by decide)) (fun _ => ?_)
  refine Ev_aload_n dX12_copy_98 rfl ?_
  refine Ev_iconst (v := 3) dX12_copy_99 (by decide) ?_
  refine Ev_callV (bc := 0) (b := 0) dX12_copy_100 cv_X12_125 rfl hM (Nat.le_of_ble_eq_true rfl) (by omega) ?_
  refine c_X12_failed hM ?_
  refine Ev_topi (y := (-13)) (by decide) ?_
  refine Ev_iret dX12_copy_103 rfl rfl ?_
  exact k

set_option maxHeartbeats 4000000 in
set_option maxRecDepth 100000 in
theorem l_X12_copy2 {d : Nat} {S : aS} {Q : Option Value → aS → Prop} {flt pl n du lw fr cl ra rp rs ea dp bm rd tr : Int32} {bi : Int64} (hM : S[31]? = some (mo flt pl n du lw fr cl ra rp rs ea dp bm bi rd tr)) {fc fh : Nat → Int32} (hc : S[54]? = some (iA 240 fc)) (hh : S[55]? = some (iA 60 fh)) {kk oo ii jj nn : Nat} (hk : kk < 4) (ho : oo < 4) (hiN : ii + nn ≤ 60) (hjN : jj + nn ≤ 60) (k : Q (some (.int (nI nn))) ((S.set 54 (iA 240 (cpN fh fc 0 (60 * oo + jj) nn))).set 31 (mo 0 pl n du lw fr cl ra rp rs ea dp bm bi rd tr))) : ∀ (t i : Nat) , i + t = nn → Ev none mX12_copy (d + 2) 0 144 [some (.ref 31), some (.int (nI kk)), some (.int (nI ii)), some (.int (nI oo)), some (.int (nI jj)), some (.int (nI nn)), some (.int (nI i))] [] (S.set 54 (iA 240 (cpN fh fc 0 (60 * oo + jj) i))) Q := by
  intro t
  induction t with
  | zero =>
    intro i  hi
    obtain rfl : i = nn := by omega
    refine Ev_iload dX12_copy_144 rfl ?_
    refine Ev_iload dX12_copy_146 rfl ?_
    refine Ev_icmp_ge dX12_copy_148 (fun _ => ?_) (fun c => absurd ((nle (by omega) (by omega)).mpr (Nat.le_refl _)) c)
    refine Ev_aload_n dX12_copy_179 rfl ?_
    refine Ev_iload dX12_copy_180 rfl ?_
    refine Ev_callV (bc := 0) (b := 0) dX12_copy_182 cv_X12_137 rfl (gn (by decide) hM) (Nat.le_of_ble_eq_true rfl) (by omega) ?_
    refine c_X12_refused (gn (by decide) hM) ?_
    refine Ev_iret dX12_copy_185 rfl rfl ?_
    exact k
  | succ t ih =>
    intro i  hi
    refine Ev_iload dX12_copy_144 rfl ?_
    refine Ev_iload dX12_copy_146 rfl ?_
    refine Ev_icmp_ge dX12_copy_148 (fun c => absurd c (fun z => absurd ((nle (by omega) (by omega)).mp z) (by omega))) (fun _ => ?_)
    refine Ev_aload_n dX12_copy_151 rfl ?_
    refine Ev_get dX12_copy_152 fg_X12_78_12 (gn (by decide) hM) rfl ?_
    refine Ev_bipush (v := 60) dX12_copy_155 (by decide) ?_
    refine Ev_iload_n dX12_copy_157 rfl ?_
    refine Ev_imul dX12_copy_158 ?_
    refine Ev_topi (y := nI (60 * oo)) (nmul _ _) ?_
    refine Ev_iload dX12_copy_159 rfl ?_
    refine Ev_iadd dX12_copy_161 ?_
    refine Ev_topi (y := nI ((60 * oo) + jj)) (nI_add _ _) ?_
    refine Ev_iload dX12_copy_162 rfl ?_
    refine Ev_iadd dX12_copy_164 ?_
    refine Ev_topi (y := nI (((60 * oo) + jj) + i)) (nI_add _ _) ?_
    refine Ev_aload_n dX12_copy_165 rfl ?_
    refine Ev_get dX12_copy_166 fg_X12_81_12 (gn (by decide) hM) rfl ?_
    refine Ev_iload dX12_copy_169 rfl ?_
    refine Ev_ialoadN (j := i) dX12_copy_171 (gn (by decide) hh) (by omega) (by decide) ?_
    refine Ev_iastoreN (j := ((60 * oo) + jj) + i) dX12_copy_172 (gs hc) (by omega) (by decide) ?_
    refine Ev_iinc (v := nI (i + 1)) dX12_copy_173 rfl (nI_1 _) rfl ?_
    refine Ev_goto dX12_copy_176 ?_
    exact Ev_st gss ((show cpN fh fc 0 (60 * oo + jj) (i + 1) = upd (cpN fh fc 0 (60 * oo + jj) i) (60 * oo + jj + i) (fh i) from by simp only [cpN, Nat.zero_add]) ▸ ih (i + 1) (by omega))

set_option maxHeartbeats 4000000 in
set_option maxRecDepth 100000 in
theorem l_X12_copy1 {d : Nat} {S : aS} {Q : Option Value → aS → Prop} {flt pl n du lw fr cl ra rp rs ea dp bm rd tr : Int32} {bi : Int64} (hM : S[31]? = some (mo flt pl n du lw fr cl ra rp rs ea dp bm bi rd tr)) {fc fh : Nat → Int32} (hc : S[54]? = some (iA 240 fc)) (hh : S[55]? = some (iA 60 fh)) {kk oo ii jj nn : Nat} (hk : kk < 4) (ho : oo < 4) (hiN : ii + nn ≤ 60) (hjN : jj + nn ≤ 60) (k : Q (some (.int (nI nn))) (((S.set 55 (iA 60 (cpN fc fh (60 * kk + ii) 0 nn))).set 54 (iA 240 (cpN (cpN fc fh (60 * kk + ii) 0 nn) fc 0 (60 * oo + jj) nn))).set 31 (mo 0 pl n du lw fr cl ra rp rs ea dp bm bi rd tr))) : ∀ (t i : Nat) , i + t = nn → Ev none mX12_copy (d + 2) 0 107 [some (.ref 31), some (.int (nI kk)), some (.int (nI ii)), some (.int (nI oo)), some (.int (nI jj)), some (.int (nI nn)), some (.int (nI i))] [] (S.set 55 (iA 60 (cpN fc fh (60 * kk + ii) 0 i))) Q := by
  intro t
  induction t with
  | zero =>
    intro i  hi
    obtain rfl : i = nn := by omega
    refine Ev_iload dX12_copy_107 rfl ?_
    refine Ev_iload dX12_copy_109 rfl ?_
    refine Ev_icmp_ge dX12_copy_111 (fun _ => ?_) (fun c => absurd ((nle (by omega) (by omega)).mpr (Nat.le_refl _)) c)
    refine Ev_iconst (v := 0) dX12_copy_141 (by decide) ?_
    refine Ev_istore dX12_copy_142 rfl ?_
    have e54 : (S.set 55 (iA 60 (cpN fc fh (60 * kk + ii) 0 i)))[54]? = some (iA 240 fc) := (gn (by decide) hc)
    have h0 := l_X12_copy2 (S := (S.set 55 (iA 60 (cpN fc fh (60 * kk + ii) 0 i)))) (d := d) (Q := Q) (gn (by decide) hM) e54 (gs hh) hk ho hiN hjN k i 0 (by omega)
    rw [show cpN (cpN fc fh (60 * kk + ii) 0 i) fc 0 (60 * oo + jj) 0 = fc from rfl, gid e54] at h0
    exact h0
  | succ t ih =>
    intro i  hi
    refine Ev_iload dX12_copy_107 rfl ?_
    refine Ev_iload dX12_copy_109 rfl ?_
    refine Ev_icmp_ge dX12_copy_111 (fun c => absurd c (fun z => absurd ((nle (by omega) (by omega)).mp z) (by omega))) (fun _ => ?_)
    refine Ev_aload_n dX12_copy_114 rfl ?_
    refine Ev_get dX12_copy_115 fg_X12_81_12 (gn (by decide) hM) rfl ?_
    refine Ev_iload dX12_copy_118 rfl ?_
    refine Ev_aload_n dX12_copy_120 rfl ?_
    refine Ev_get dX12_copy_121 fg_X12_78_12 (gn (by decide) hM) rfl ?_
    refine Ev_bipush (v := 60) dX12_copy_124 (by decide) ?_
    refine Ev_iload_n dX12_copy_126 rfl ?_
    refine Ev_imul dX12_copy_127 ?_
    refine Ev_topi (y := nI (60 * kk)) (nmul _ _) ?_
    refine Ev_iload_n dX12_copy_128 rfl ?_
    refine Ev_iadd dX12_copy_129 ?_
    refine Ev_topi (y := nI ((60 * kk) + ii)) (nI_add _ _) ?_
    refine Ev_iload dX12_copy_130 rfl ?_
    refine Ev_iadd dX12_copy_132 ?_
    refine Ev_topi (y := nI (((60 * kk) + ii) + i)) (nI_add _ _) ?_
    refine Ev_ialoadN (j := ((60 * kk) + ii) + i) dX12_copy_133 (gn (by decide) hc) (by omega) (by decide) ?_
    refine Ev_iastoreN (j := i) dX12_copy_134 (gs hh) (by omega) (by decide) ?_
    refine Ev_iinc (v := nI (i + 1)) dX12_copy_135 rfl (nI_1 _) rfl ?_
    refine Ev_goto dX12_copy_138 ?_
    exact Ev_st gss ((show cpN fc fh (60 * kk + ii) 0 (i + 1) = upd (cpN fc fh (60 * kk + ii) 0 i) i (fc (60 * kk + ii + i)) from by simp only [cpN, Nat.zero_add]) ▸ ih (i + 1) (by omega))

set_option maxHeartbeats 4000000 in
set_option maxRecDepth 100000 in
theorem c_X12_copy_o {d : Nat} {S : aS} {Q : Option Value → aS → Prop} {flt pl n du lw fr cl ra rp rs ea dp bm rd tr : Int32} {bi : Int64} (hM : S[31]? = some (mo flt pl n du lw fr cl ra rp rs ea dp bm bi rd tr)) {fs fl fc : Nat → Int32} (hs : S[52]? = some (iA 4 fs)) (hl : S[53]? = some (iA 4 fl)) (hc : S[54]? = some (iA 240 fc)) {fh : Nat → Int32} (hh : S[55]? = some (iA 60 fh)) {kk : Nat} (hk : kk < 4) {z : Int} (hz : fs kk = iZ z) (hzr : -1 ≤ z ∧ z ≤ 60) {oo : Nat} (ho : oo < 4) {z2 : Int} (hz2 : fs oo = iZ z2) (hzr2 : -1 ≤ z2 ∧ z2 ≤ 60) {ii jj nn : Nat} (hn : 0 ≤ z) (hn2 : 0 ≤ z2) (heq : fl kk = fl oo) (hiz : (ii : Int) + nn ≤ z) (hjz : (jj : Int) + nn ≤ z2) (k : Q (some (.int (nI nn))) (((S.set 55 (iA 60 (cpN fc fh (60 * kk + ii) 0 nn))).set 54 (iA 240 (cpN (cpN fc fh (60 * kk + ii) 0 nn) fc 0 (60 * oo + jj) nn))).set 31 (mo 0 pl n du lw fr cl ra rp rs ea dp bm bi rd tr))) : Mth mX12_copy (d + 2) 0 [.ref 31, .int (nI kk), .int (nI ii), .int (nI oo), .int (nI jj), .int (nI nn)] S Q := by
  have ez : (iZ z).toInt = z := iZt (by omega)
  have ez2 : (iZ z2).toInt = z2 := iZt (by omega)
  have hiN : ii + nn ≤ 60 := by omega
  have hjN : jj + nn ≤ 60 := by omega
  refine Mth_of (by decide) rfl ?_
  refine Ev_iload_n dX12_copy_0 rfl ?_
  refine Ev_callS (bc := 0) (b := 0) dX12_copy_1 cs_X12_133 rfl (Nat.le_of_ble_eq_true rfl) (by omega) ?_
  refine c_X12_noSheet (fun q => absurd q (not_not_intro (by rw [nIt (by omega)]; omega))) (fun _ => ?_)
  refine Ev_if_ne dX12_copy_4 (fun c => absurd (by decide) c) (fun _ => ?_)
  refine Ev_iload_n dX12_copy_7 rfl ?_
  refine Ev_callS (bc := 0) (b := 0) dX12_copy_8 cs_X12_133 rfl (Nat.le_of_ble_eq_true rfl) (by omega) ?_
  refine c_X12_noSheet (fun q => absurd q (not_not_intro (by rw [nIt (by omega)]; omega))) (fun _ => ?_)
  refine Ev_if_eq dX12_copy_11 (fun _ => ?_) (fun c => absurd (by decide) c)
  refine Ev_aload_n dX12_copy_20 rfl ?_
  refine Ev_get dX12_copy_21 fg_X12_72_12 hM rfl ?_
  refine Ev_iload_n dX12_copy_24 rfl ?_
  refine Ev_ialoadN (j := kk) dX12_copy_25 hs (by omega) (by decide) ?_
  refine Ev_topi (y := iZ z) hz ?_
  refine Ev_if_lt dX12_copy_26 (fun c => absurd c (by first | (simp only [xlt, xle, xeq, z32_0, z32_1, z32_2, z32_3, z32_8, z32_12, z32_60, ez, ez2]; omega) | (simp only [xlt, xle, xeq, z32_0, z32_1, z32_2, z32_3, z32_8, z32_12, z32_60, ez, ez2]; done) | omega)) (fun _ => ?_)
  refine Ev_aload_n dX12_copy_29 rfl ?_
  refine Ev_get dX12_copy_30 fg_X12_72_12 hM rfl ?_
  refine Ev_iload_n dX12_copy_33 rfl ?_
  refine Ev_ialoadN (j := oo) dX12_copy_34 hs (by omega) (by decide) ?_
  refine Ev_topi (y := iZ z2) hz2 ?_
  refine Ev_if_ge dX12_copy_35 (fun _ => ?_) (fun c => absurd (by first | (simp only [xlt, xle, xeq, z32_0, z32_1, z32_2, z32_3, z32_8, z32_12, z32_60, ez, ez2]; omega) | (simp only [xlt, xle, xeq, z32_0, z32_1, z32_2, z32_3, z32_8, z32_12, z32_60, ez, ez2]; done) | omega) c)
  refine Ev_aload_n dX12_copy_44 rfl ?_
  refine Ev_get dX12_copy_45 fg_X12_75_12 hM rfl ?_
  refine Ev_iload_n dX12_copy_48 rfl ?_
  refine Ev_ialoadN (j := kk) dX12_copy_49 hl (by omega) (by decide) ?_
  refine Ev_topi (y := fl kk) rfl ?_
  refine Ev_aload_n dX12_copy_50 rfl ?_
  refine Ev_get dX12_copy_51 fg_X12_75_12 hM rfl ?_
  refine Ev_iload_n dX12_copy_54 rfl ?_
  refine Ev_ialoadN (j := oo) dX12_copy_55 hl (by omega) (by decide) ?_
  refine Ev_topi (y := fl oo) rfl ?_
  refine Ev_icmp_eq dX12_copy_56 (fun _ => ?_) (fun c => absurd heq c)
  refine Ev_iload_n dX12_copy_65 rfl ?_
  refine Ev_iload dX12_copy_66 rfl ?_
  refine Ev_i2l dX12_copy_68 ?_
  refine Ev_topl (y := lN nn) (nl (by omega)) ?_
  refine Ev_aload_n dX12_copy_69 rfl ?_
  refine Ev_get dX12_copy_70 fg_X12_72_12 hM rfl ?_
  refine Ev_iload_n dX12_copy_73 rfl ?_
  refine Ev_ialoadN (j := kk) dX12_copy_74 hs (by omega) (by decide) ?_
  refine Ev_topi (y := iZ z) hz ?_
  refine Ev_callS (bc := 0) (b := 0) dX12_copy_75 cs_X12_129 rfl (Nat.le_of_ble_eq_true rfl) (by omega) ?_
  refine c_X12_isBeyond (z := (nn : Int)) (lN_toInt (by omega)) (by omega) (fun q => absurd q (by rw [ez, nIt (by omega)]; omega)) (fun _ => ?_)
  refine Ev_if_ne dX12_copy_78 (fun c => absurd (by decide) c) (fun _ => ?_)
  refine Ev_iload dX12_copy_81 rfl ?_
  refine Ev_iload dX12_copy_83 rfl ?_
  refine Ev_i2l dX12_copy_85 ?_
  refine Ev_topl (y := lN nn) (nl (by omega)) ?_
  refine Ev_aload_n dX12_copy_86 rfl ?_
  refine Ev_get dX12_copy_87 fg_X12_72_12 hM rfl ?_
  refine Ev_iload_n dX12_copy_90 rfl ?_
  refine Ev_ialoadN (j := oo) dX12_copy_91 hs (by omega) (by decide) ?_
  refine Ev_topi (y := iZ z2) hz2 ?_
  refine Ev_callS (bc := 0) (b := 0) dX12_copy_92 cs_X12_129 rfl (Nat.le_of_ble_eq_true rfl) (by omega) ?_
  refine c_X12_isBeyond (z := (nn : Int)) (lN_toInt (by omega)) (by omega) (fun q => absurd q (by rw [ez2, nIt (by omega)]; omega)) (fun _ => ?_)
  refine Ev_if_eq dX12_copy_95 (fun _ => ?_) (fun c => absurd (by decide) c)
  refine Ev_iconst (v := 0) dX12_copy_104 (by decide) ?_
  refine Ev_istore dX12_copy_105 rfl ?_
  have h0 := l_X12_copy1 (S := S) (d := d) (Q := Q) hM hc hh hk ho hiN hjN k nn 0 (by omega)
  rw [show cpN fc fh (60 * kk + ii) 0 0 = fh from rfl, gid hh] at h0
  exact h0

