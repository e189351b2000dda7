abbrev mo (flt pl n du lw fr cl ra rp rs ea dp bm : Int32) (bi : Int64) (rd tr : Int32) : aE := .inr (12, [.int flt, .int pl, .int n, .ref 32, .ref 33, .ref 34, .ref 35, .ref 36, .ref 37, .int du, .int lw, .int fr, .int cl, .int ra, .int rp, .int rs, .ref 38, .ref 39, .ref 40, .ref 41, .ref 42, .ref 43, .ref 44, .int ea, .ref 45, .ref 46, .int dp, .ref 47, .int bm, .long bi, .int rd, .ref 48, .ref 49, .ref 50, .ref 51, .ref 52, .ref 53, .ref 54, .ref 55, .int tr])
theorem pm1 {p : Nat} (h : p < 1000) : ((nI p).toInt64 - 1).toInt = (p : Int) - 1 := ysub ((x64 _).trans (nIt (by omega))) rfl (by omega)

set_option maxHeartbeats 4000000 in
set_option maxRecDepth 100000 in
theorem c_X12_in {d : Nat} {S : aS} {Q : Option Value → aS → Prop} {v l h : Int64} {x y z : Int} (hv : v.toInt = x) (hl : l.toInt = y) (hh : h.toInt = z) (kt : y ≤ x ∧ x ≤ z → Q (some (.int 1)) S) (kf : ¬ (y ≤ x ∧ x ≤ z) → Q (some (.int 0)) S) : Mth mX12_in d 0 [.long v, .long l, .long h] S Q := by
  refine Mth_of (by decide) rfl ?_
  refine Ev_lload_n dX12_in_0 rfl ?_
  refine Ev_lload_n dX12_in_1 rfl ?_
  refine Ev_lcmp dX12_in_2 ?_
  refine Ev_if_lt dX12_in_3 (fun c1 => ?_) (fun c1 => ?_)
  · skip
    refine Ev_iconst (v := 0) dX12_in_17 (by decide) ?_
    refine Ev_iret dX12_in_18 rfl (by decide) ?_
    subst hv; subst hl; subst hh
    (try simp only [lg_lt, lg_le, lg_ge, lg_gt, lg_eq] at *)
    first | exact kt (by omega) | exact kf (by omega)
  · skip
    refine Ev_lload_n dX12_in_6 rfl ?_
    refine Ev_lload dX12_in_7 rfl ?_
    refine Ev_lcmp dX12_in_9 ?_
    refine Ev_if_gt dX12_in_10 (fun c2 => ?_) (fun c2 => ?_)
    · skip
      refine Ev_iconst (v := 0) dX12_in_17 (by decide) ?_
      refine Ev_iret dX12_in_18 rfl (by decide) ?_
      subst hv; subst hl; subst hh
      (try simp only [lg_lt, lg_le, lg_ge, lg_gt, lg_eq] at *)
      first | exact kt (by omega) | exact kf (by omega)
    · skip
      refine Ev_iconst (v := 1) dX12_in_13 (by decide) ?_
      refine Ev_goto dX12_in_14 ?_
      refine Ev_iret dX12_in_18 rfl (by decide) ?_
      subst hv; subst hl; subst hh
      (try simp only [lg_lt, lg_le, lg_ge, lg_gt, lg_eq] at *)
      first | exact kt (by omega) | exact kf (by omega)

set_option maxHeartbeats 4000000 in
set_option maxRecDepth 100000 in
theorem c_X12_lost {d : Nat} {S : aS} {Q : Option Value → aS → Prop} (k : Q (some (.long (-9223372036854775808))) S) : Mth mX12_lost d 0 [] S Q := by
  refine Mth_of (by decide) rfl ?_
  refine Ev_ldc2 dX12_lost_0 wl_X12_84 ?_
  refine Ev_lret dX12_lost_3 rfl ?_
  exact k

set_option maxHeartbeats 4000000 in
set_option maxRecDepth 100000 in
theorem c_X12_isIn {d : Nat} {S : aS} {Q : Option Value → aS → Prop} {cs j : Nat} (hc : cs < 2147483648) (hj : j < 31) (kt : cs.testBit j = true → Q (some (.int 1)) S) (kf : ¬ (cs.testBit j = true) → Q (some (.int 0)) S) : Mth mX12_isIn d 0 [.int (nI cs), .int (nI j)] S Q := by
  refine Mth_of (by decide) rfl ?_
  refine Ev_iload_n dX12_isIn_0 rfl ?_
  refine Ev_iload_n dX12_isIn_1 rfl ?_
  refine Ev_ishr dX12_isIn_2 ?_
  refine Ev_iconst (v := 1) dX12_isIn_3 (by decide) ?_
  refine Ev_iand dX12_isIn_4 ?_
  refine Ev_iconst (v := 1) dX12_isIn_5 (by decide) ?_
  refine Ev_icmp_ne dX12_isIn_6 (fun c1 => ?_) (fun c1 => ?_)
  · skip
    refine Ev_iconst (v := 0) dX12_isIn_13 (by decide) ?_
    refine Ev_iret dX12_isIn_14 rfl (by decide) ?_
    rw [isInN hc hj] at c1
    first | exact kt c1 | exact kf c1 | exact kt (by simpa using c1)
  · skip
    refine Ev_iconst (v := 1) dX12_isIn_9 (by decide) ?_
    refine Ev_goto dX12_isIn_10 ?_
    refine Ev_iret dX12_isIn_14 rfl (by decide) ?_
    rw [isInN hc hj] at c1
    first | exact kt c1 | exact kf c1 | exact kt (by simpa using c1)

set_option maxHeartbeats 4000000 in
set_option maxRecDepth 100000 in
theorem c_X12_refused {d : Nat} {S : aS} {Q : Option Value → aS → Prop} {flt pl n du lw fr cl ra rp rs ea dp bm rd tr : Int32} {bi : Int64} (hM : S[31]? = some (mo flt pl n du lw fr cl ra rp rs ea dp bm bi rd tr)) {code : Int32} (k : Q (some (.int code)) (S.set 31 (mo 0 pl n du lw fr cl ra rp rs ea dp bm bi rd tr))) : Mth mX12_refused d 0 [.ref 31, .int code] S Q := by
  refine Mth_of (by decide) rfl ?_
  refine Ev_aload_n dX12_refused_0 rfl ?_
  refine Ev_iconst (v := 0) dX12_refused_1 (by decide) ?_
  refine Ev_put dX12_refused_2 fr_X12_86_12 hM rfl rfl rfl ?_
  refine Ev_iload_n dX12_refused_5 rfl ?_
  refine Ev_iret dX12_refused_6 rfl rfl ?_
  exact k

set_option maxHeartbeats 4000000 in
set_option maxRecDepth 100000 in
theorem c_X12_failed {d : Nat} {S : aS} {Q : Option Value → aS → Prop} {flt pl n du lw fr cl ra rp rs ea dp bm rd tr : Int32} {bi : Int64} (hM : S[31]? = some (mo flt pl n du lw fr cl ra rp rs ea dp bm bi rd tr)) {f : Int32} (k : Q (some (.int (-10 - f))) (S.set 31 (mo f pl n du lw fr cl ra rp rs ea dp bm bi rd tr))) : Mth mX12_failed d 0 [.ref 31, .int f] S Q := by
  refine Mth_of (by decide) rfl ?_
  refine Ev_aload_n dX12_failed_0 rfl ?_
  refine Ev_iload_n dX12_failed_1 rfl ?_
  refine Ev_put dX12_failed_2 fr_X12_86_12 hM rfl rfl rfl ?_
  refine Ev_bipush (v := (-10)) dX12_failed_5 (by decide) ?_
  refine Ev_iload_n dX12_failed_7 rfl ?_
  refine Ev_isub dX12_failed_8 ?_
  refine Ev_iret dX12_failed_9 rfl rfl ?_
  exact k

set_option maxHeartbeats 4000000 in
set_option maxRecDepth 100000 in
theorem c_X12_failedLong {d : Nat} {S : aS} {Q : Option Value → aS → Prop} {flt pl n du lw fr cl ra rp rs ea dp bm rd tr : Int32} {bi : Int64} (hM : S[31]? = some (mo flt pl n du lw fr cl ra rp rs ea dp bm bi rd tr)) {f : Int32} (k : Q (some (.long (-9223372036854775808))) (S.set 31 (mo f pl n du lw fr cl ra rp rs ea dp bm bi rd tr))) : Mth mX12_failedLong (d + 1) 0 [.ref 31, .int f] S Q := by
  refine Mth_of (by decide) rfl ?_
  refine Ev_aload_n dX12_failedLong_0 rfl ?_
  refine Ev_iload_n dX12_failedLong_1 rfl ?_
  refine Ev_put dX12_failedLong_2 fr_X12_86_12 hM rfl rfl rfl ?_
  refine Ev_callS (bc := 0) (b := 0) dX12_failedLong_5 cs_X12_90 rfl (Nat.le_of_ble_eq_true rfl) (by omega) ?_
  refine c_X12_lost ?_
  refine Ev_lret dX12_failedLong_8 rfl ?_
  exact k

set_option maxHeartbeats 4000000 in
set_option maxRecDepth 100000 in
theorem c_X12_refusedLong {d : Nat} {S : aS} {Q : Option Value → aS → Prop} {flt pl n du lw fr cl ra rp rs ea dp bm rd tr : Int32} {bi : Int64} (hM : S[31]? = some (mo flt pl n du lw fr cl ra rp rs ea dp bm bi rd tr)) (k : Q (some (.long (-9223372036854775808))) (S.set 31 (mo 0 pl n du lw fr cl ra rp rs ea dp bm bi rd tr))) : Mth mX12_refusedLong (d + 1) 0 [.ref 31] S Q := by
  refine Mth_of (by decide) rfl ?_
  refine Ev_aload_n dX12_refusedLong_0 rfl ?_
  refine Ev_iconst (v := 0) dX12_refusedLong_1 (by decide) ?_
  refine Ev_put dX12_refusedLong_2 fr_X12_86_12 hM rfl rfl rfl ?_
  refine Ev_callS (bc := 0) (b := 0) dX12_refusedLong_5 cs_X12_90 rfl (Nat.le_of_ble_eq_true rfl) (by omega) ?_
  refine c_X12_lost ?_
  refine Ev_lret dX12_refusedLong_8 rfl ?_
  exact k

set_option maxHeartbeats 4000000 in
set_option maxRecDepth 100000 in
theorem c_X12_noPlace {d : Nat} {S : aS} {Q : Option Value → aS → Prop} {flt du lw fr cl ra rp rs ea dp bm rd tr : Int32} {bi : Int64} {pl n : Nat} (hpl : pl ≤ 7) (hn : n ≤ 9) (hM : S[31]? = some (mo flt (nI pl) (nI n) du lw fr cl ra rp rs ea dp bm bi rd tr)) {x : Int32} (kt : ¬ (0 ≤ x.toInt ∧ x.toInt < pl) → Q (some (.int 1)) S) (kf : 0 ≤ x.toInt ∧ x.toInt < pl → Q (some (.int 0)) S) : Mth mX12_noPlace (d + 1) 0 [.ref 31, .int x] S Q := by
  refine Mth_of (by decide) rfl ?_
  refine Ev_iload_n dX12_noPlace_0 rfl ?_
  refine Ev_i2l dX12_noPlace_1 ?_
  refine Ev_lconst (v := 0) dX12_noPlace_2 (by decide) ?_
  refine Ev_aload_n dX12_noPlace_3 rfl ?_
  refine Ev_get dX12_noPlace_4 fg_X12_94_12 hM rfl ?_
  refine Ev_i2l dX12_noPlace_7 ?_
  refine Ev_lconst (v := 1) dX12_noPlace_8 (by decide) ?_
  refine Ev_lsub dX12_noPlace_9 ?_
  refine Ev_callS (bc := 0) (b := 0) dX12_noPlace_10 cs_X12_97 rfl (Nat.le_of_ble_eq_true rfl) (by omega) ?_
  refine c_X12_in (x := _) (y := 0) (z := _) (x64 _) rfl (pm1 (by omega)) (fun q1 => ?_) (fun q1 => ?_)
  · skip
    refine Ev_if_ne dX12_noPlace_13 (fun _ => ?_) (fun c => absurd c (by decide))
    refine Ev_iconst (v := 0) dX12_noPlace_20 (by decide) ?_
    refine Ev_iret dX12_noPlace_21 rfl (by decide) ?_
    first | exact kt (by omega) | exact kf (by omega)
  · skip
    refine Ev_if_ne dX12_noPlace_13 (fun c => absurd (by decide) c) (fun _ => ?_)
    refine Ev_iconst (v := 1) dX12_noPlace_16 (by decide) ?_
    refine Ev_goto dX12_noPlace_17 ?_
    refine Ev_iret dX12_noPlace_21 rfl (by decide) ?_
    first | exact kt (by omega) | exact kf (by omega)

set_option maxHeartbeats 4000000 in
set_option maxRecDepth 100000 in
theorem c_X12_noStretch {d : Nat} {S : aS} {Q : Option Value → aS → Prop} {flt du lw fr cl ra rp rs ea dp bm rd tr : Int32} {bi : Int64} {pl n : Nat} (hpl : pl ≤ 7) (hn : n ≤ 9) (hM : S[31]? = some (mo flt (nI pl) (nI n) du lw fr cl ra rp rs ea dp bm bi rd tr)) {x : Int32} (kt : ¬ (0 ≤ x.toInt ∧ x.toInt < n) → Q (some (.int 1)) S) (kf : 0 ≤ x.toInt ∧ x.toInt < n → Q (some (.int 0)) S) : Mth mX12_noStretch (d + 1) 0 [.ref 31, .int x] S Q := by
  refine Mth_of (by decide) rfl ?_
  refine Ev_iload_n dX12_noStretch_0 rfl ?_
  refine Ev_i2l dX12_noStretch_1 ?_
  refine Ev_lconst (v := 0) dX12_noStretch_2 (by decide) ?_
  refine Ev_aload_n dX12_noStretch_3 rfl ?_
  refine Ev_get dX12_noStretch_4 fg_X12_101_12 hM rfl ?_
  refine Ev_i2l dX12_noStretch_7 ?_
  refine Ev_lconst (v := 1) dX12_noStretch_8 (by decide) ?_
  refine Ev_lsub dX12_noStretch_9 ?_
  refine Ev_callS (bc := 0) (b := 0) dX12_noStretch_10 cs_X12_97 rfl (Nat.le_of_ble_eq_true rfl) (by omega) ?_
  refine c_X12_in (x := _) (y := 0) (z := _) (x64 _) rfl (pm1 (by omega)) (fun q1 => ?_) (fun q1 => ?_)
  · skip
    refine Ev_if_ne dX12_noStretch_13 (fun _ => ?_) (fun c => absurd c (by decide))
    refine Ev_iconst (v := 0) dX12_noStretch_20 (by decide) ?_
    refine Ev_iret dX12_noStretch_21 rfl (by decide) ?_
    first | exact kt (by omega) | exact kf (by omega)
  · skip
    refine Ev_if_ne dX12_noStretch_13 (fun c => absurd (by decide) c) (fun _ => ?_)
    refine Ev_iconst (v := 1) dX12_noStretch_16 (by decide) ?_
    refine Ev_goto dX12_noStretch_17 ?_
    refine Ev_iret dX12_noStretch_21 rfl (by decide) ?_
    first | exact kt (by omega) | exact kf (by omega)

set_option maxHeartbeats 4000000 in
set_option maxRecDepth 100000 in
theorem c_X12_noSheet {d : Nat} {S : aS} {Q : Option Value → aS → Prop} {x : Int32} (kt : ¬ (0 ≤ x.toInt ∧ x.toInt ≤ 3) → Q (some (.int 1)) S) (kf : 0 ≤ x.toInt ∧ x.toInt ≤ 3 → Q (some (.int 0)) S) : Mth mX12_noSheet (d + 1) 0 [.int x] S Q := by
  refine Mth_of (by decide) rfl ?_
  refine Ev_iload_n dX12_noSheet_0 rfl ?_
  refine Ev_i2l dX12_noSheet_1 ?_
  refine Ev_lconst (v := 0) dX12_noSheet_2 (by decide) ?_
  refine Ev_ldc2 dX12_noSheet_3 wl_X12_202 ?_
  refine Ev_callS (bc := 0) (b := 0) dX12_noSheet_6 cs_X12_97 rfl (Nat.le_of_ble_eq_true rfl) (by omega) ?_
  refine c_X12_in (x := _) (y := 0) (z := 3) (x64 _) rfl rfl (fun q1 => ?_) (fun q1 => ?_)
  · skip
    refine Ev_if_ne dX12_noSheet_9 (fun _ => ?_) (fun c => absurd c (by decide))
    refine Ev_iconst (v := 0) dX12_noSheet_16 (by decide) ?_
    refine Ev_iret dX12_noSheet_17 rfl (by decide) ?_
    first | exact kt (by omega) | exact kf (by omega)
  · skip
    refine Ev_if_ne dX12_noSheet_9 (fun c => absurd (by decide) c) (fun _ => ?_)
    refine Ev_iconst (v := 1) dX12_noSheet_12 (by decide) ?_
    refine Ev_goto dX12_noSheet_13 ?_
    refine Ev_iret dX12_noSheet_17 rfl (by decide) ?_
    first | exact kt (by omega) | exact kf (by omega)

set_option maxHeartbeats 4000000 in
set_option maxRecDepth 100000 in
theorem c_X12_isBeyond {d : Nat} {S : aS} {Q : Option Value → aS → Prop} {i all : Int32} {n : Int64} {z : Int} (hz : n.toInt = z) (hzr : -2147483648 ≤ z ∧ z ≤ 2147483647) (kt : (i.toInt < 0 ∨ z < 0 ∨ all.toInt < i.toInt + z) → Q (some (.int 1)) S) (kf : ¬ (i.toInt < 0 ∨ z < 0 ∨ all.toInt < i.toInt + z) → Q (some (.int 0)) S) : Mth mX12_isBeyond d 0 [.int i, .long n, .int all] S Q := by
  refine Mth_of (by decide) rfl ?_
  refine Ev_iload_n dX12_isBeyond_0 rfl ?_
  refine Ev_if_lt dX12_isBeyond_1 (fun c1 => ?_) (fun c1 => ?_)
  · skip
    refine Ev_iconst (v := 1) dX12_isBeyond_20 (by decide) ?_
    refine Ev_goto dX12_isBeyond_21 ?_
    refine Ev_iret dX12_isBeyond_25 rfl (by decide) ?_
    have e0 : (0 : Int32).toInt = 0 := rfl
    have e1 : (0 : Int64).toInt = 0 := rfl
    have e2 : (i.toInt64 + n).toInt = i.toInt + z := yadd (x64 i) hz (by have := xr32 i; omega)
    have e3 := x64 all
    (try simp only [lg_lt, lg_le, lg_ge, lg_gt, lg_eq] at *)
    (try simp only [xlt, xle, hz, e0, e1, e2, e3] at *)
    first | exact kt (by omega) | exact kf (by omega)
  · skip
    refine Ev_lload_n dX12_isBeyond_4 rfl ?_
    refine Ev_lconst (v := 0) dX12_isBeyond_5 (by decide) ?_
    refine Ev_lcmp dX12_isBeyond_6 ?_
    refine Ev_if_lt dX12_isBeyond_7 (fun c2 => ?_) (fun c2 => ?_)
    · skip
      refine Ev_iconst (v := 1) dX12_isBeyond_20 (by decide) ?_
      refine Ev_goto dX12_isBeyond_21 ?_
      refine Ev_iret dX12_isBeyond_25 rfl (by decide) ?_
      have e0 : (0 : Int32).toInt = 0 := rfl
      have e1 : (0 : Int64).toInt = 0 := rfl
      have e2 : (i.toInt64 + n).toInt = i.toInt + z := yadd (x64 i) hz (by have := xr32 i; omega)
      have e3 := x64 all
      (try simp only [lg_lt, lg_le, lg_ge, lg_gt, lg_eq] at *)
      (try simp only [xlt, xle, hz, e0, e1, e2, e3] at *)
      first | exact kt (by omega) | exact kf (by omega)
    · skip
      refine Ev_iload_n dX12_isBeyond_10 rfl ?_
      refine Ev_i2l dX12_isBeyond_11 ?_
      refine Ev_lload_n dX12_isBeyond_12 rfl ?_
      refine Ev_ladd dX12_isBeyond_13 ?_
      refine Ev_iload_n dX12_isBeyond_14 rfl ?_
      refine Ev_i2l dX12_isBeyond_15 ?_
      refine Ev_lcmp dX12_isBeyond_16 ?_
      refine Ev_if_le dX12_isBeyond_17 (fun c3 => ?_) (fun c3 => ?_)
      · skip
        refine Ev_iconst (v := 0) dX12_isBeyond_24 (by decide) ?_
        refine Ev_iret dX12_isBeyond_25 rfl (by decide) ?_
        have e0 : (0 : Int32).toInt = 0 := rfl
        have e1 : (0 : Int64).toInt = 0 := rfl
        have e2 : (i.toInt64 + n).toInt = i.toInt + z := yadd (x64 i) hz (by have := xr32 i; omega)
        have e3 := x64 all
        (try simp only [lg_lt, lg_le, lg_ge, lg_gt, lg_eq] at *)
        (try simp only [xlt, xle, hz, e0, e1, e2, e3] at *)
        first | exact kt (by omega) | exact kf (by omega)
      · skip
        refine Ev_iconst (v := 1) dX12_isBeyond_20 (by decide) ?_
        refine Ev_goto dX12_isBeyond_21 ?_
        refine Ev_iret dX12_isBeyond_25 rfl (by decide) ?_
        have e0 : (0 : Int32).toInt = 0 := rfl
        have e1 : (0 : Int64).toInt = 0 := rfl
        have e2 : (i.toInt64 + n).toInt = i.toInt + z := yadd (x64 i) hz (by have := xr32 i; omega)
        have e3 := x64 all
        (try simp only [lg_lt, lg_le, lg_ge, lg_gt, lg_eq] at *)
        (try simp only [xlt, xle, hz, e0, e1, e2, e3] at *)
        first | exact kt (by omega) | exact kf (by omega)

set_option maxHeartbeats 4000000 in
set_option maxRecDepth 100000 in
theorem c_X12_traced {d : Nat} {S : aS} {Q : Option Value → aS → Prop} {flt pl n du lw fr cl ra rp rs ea dp bm rd tr : Int32} {bi : Int64} (hM : S[31]? = some (mo flt pl n du lw fr cl ra rp rs ea dp bm bi rd tr)) {x : Int32} (k : Q none (S.set 31 (mo flt pl n du lw fr cl ra rp rs ea dp bm bi rd (31 * tr + x)))) : Mth mX12_traced d 0 [.ref 31, .int x] S Q := by
  refine Mth_of (by decide) rfl ?_
  refine Ev_aload_n dX12_traced_0 rfl ?_
  refine Ev_bipush (v := 31) dX12_traced_1 (by decide) ?_
  refine Ev_aload_n dX12_traced_3 rfl ?_
  refine Ev_get dX12_traced_4 fg_X12_287_12 hM rfl ?_
  refine Ev_imul dX12_traced_7 ?_
  refine Ev_iload_n dX12_traced_8 rfl ?_
  refine Ev_iadd dX12_traced_9 ?_
  refine Ev_put dX12_traced_10 fr_X12_287_12 hM rfl rfl rfl ?_
  refine Ev_vret dX12_traced_13 rfl ?_
  exact k

set_option maxHeartbeats 4000000 in
set_option maxRecDepth 100000 in
theorem c_X12_trace {d : Nat} {S : aS} {Q : Option Value → aS → Prop} {flt pl n du lw fr cl ra rp rs ea dp bm rd tr : Int32} {bi : Int64} (hM : S[31]? = some (mo flt pl n du lw fr cl ra rp rs ea dp bm bi rd tr)) (k : Q (some (.int tr)) S) : Mth mX12_trace d 0 [.ref 31] S Q := by
  refine Mth_of (by decide) rfl ?_
  refine Ev_aload_n dX12_trace_0 rfl ?_
  refine Ev_get dX12_trace_1 fg_X12_287_12 hM rfl ?_
  refine Ev_iret dX12_trace_4 rfl rfl ?_
  exact k

set_option maxHeartbeats 4000000 in
set_option maxRecDepth 100000 in
theorem c_X12_fault {d : Nat} {S : aS} {Q : Option Value → aS → Prop} {flt pl n du lw fr cl ra rp rs ea dp bm rd tr : Int32} {bi : Int64} (hM : S[31]? = some (mo flt pl n du lw fr cl ra rp rs ea dp bm bi rd tr)) (k : Q (some (.int flt)) S) : Mth mX12_fault d 0 [.ref 31] S Q := by
  refine Mth_of (by decide) rfl ?_
  refine Ev_aload_n dX12_fault_0 rfl ?_
  refine Ev_get dX12_fault_1 fg_X12_86_12 hM rfl ?_
  refine Ev_iret dX12_fault_4 rfl rfl ?_
  exact k

set_option maxHeartbeats 4000000 in
set_option maxRecDepth 100000 in
theorem c_X12_many {d : Nat} {S : aS} {Q : Option Value → aS → Prop} {flt pl n du lw fr cl ra rp rs ea dp bm rd tr : Int32} {bi : Int64} (hM : S[31]? = some (mo flt pl n du lw fr cl ra rp rs ea dp bm bi rd tr)) {x : Int32} (k : Q (some (.int (if x = 0 then pl else if x = 1 then n else if x = 2 then du else if x = 3 then lw else if x = 4 then rd else -2))) S) : Mth mX12_many d 0 [.ref 31, .int x] S Q := by
  refine Mth_of (by decide) rfl ?_
  refine Ev_iload_n dX12_many_0 rfl ?_
  by_cases e1 : x = 0
  · skip
    refine Ev_tableIn (off := 35) (tg := 36) 0 dX12_many_1 (by rw [e1]; decide) (by decide) rfl (by decide) ?_
    refine Ev_aload_n dX12_many_36 rfl ?_
    refine Ev_get dX12_many_37 fg_X12_94_12 hM rfl ?_
    refine Ev_iret dX12_many_40 rfl rfl ?_
    simpa [*] using k
  by_cases e2 : x = 1
  · skip
    refine Ev_tableIn (off := 40) (tg := 41) 1 dX12_many_1 (by rw [e2]; decide) (by decide) rfl (by decide) ?_
    refine Ev_aload_n dX12_many_41 rfl ?_
    refine Ev_get dX12_many_42 fg_X12_101_12 hM rfl ?_
    refine Ev_iret dX12_many_45 rfl rfl ?_
    simpa [*] using k
  by_cases e3 : x = 2
  · skip
    refine Ev_tableIn (off := 45) (tg := 46) 2 dX12_many_1 (by rw [e3]; decide) (by decide) rfl (by decide) ?_
    refine Ev_aload_n dX12_many_46 rfl ?_
    refine Ev_get dX12_many_47 fg_X12_149_12 hM rfl ?_
    refine Ev_iret dX12_many_50 rfl rfl ?_
    simpa [*] using k
  by_cases e4 : x = 3
  · skip
    refine Ev_tableIn (off := 50) (tg := 51) 3 dX12_many_1 (by rw [e4]; decide) (by decide) rfl (by decide) ?_
    refine Ev_aload_n dX12_many_51 rfl ?_
    refine Ev_get dX12_many_52 fg_X12_152_12 hM rfl ?_
    refine Ev_iret dX12_many_55 rfl rfl ?_
    simpa [*] using k
  by_cases e5 : x = 4
  · skip
    refine Ev_tableIn (off := 55) (tg := 56) 4 dX12_many_1 (by rw [e5]; decide) (by decide) rfl (by decide) ?_
    refine Ev_aload_n dX12_many_56 rfl ?_
    refine Ev_get dX12_many_57 fg_X12_161_12 hM rfl ?_
    refine Ev_iret dX12_many_60 rfl rfl ?_
    simpa [*] using k
  refine Ev_tableOut (tg := 61) dX12_many_1 (sw_out5 e1 e2 e3 e4 e5) (by decide) ?_
  refine Ev_bipush (v := (-2)) dX12_many_61 (by decide) ?_
  refine Ev_iret dX12_many_63 rfl rfl ?_
  simpa [*] using k

