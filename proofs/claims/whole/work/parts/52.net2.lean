/-! ===== a new net, on the component's side ===== -/
theorem as_4k (x : Nat) : AS 4 (kc x) := by
  rcases kc3 x with h | h | h
  · rw [h]; exact as_4_7
  · rw [h]; exact as_4_1
  · rw [h]; exact as_4_6
theorem app_set {S : aS} {L : Nat} {b c : aE} (h : S.length = L + 0) : (S ++ [b]).set (L + 0) c = S ++ [c] := by
  rw [← h, List.set_append_right _ _ (Nat.le_refl _), Nat.sub_self]
  rfl

set_option maxHeartbeats 4000000 in
set_option maxRecDepth 100000 in
theorem c_X7_init7 {d : Nat} {S : aS} {Q : Option Value → aS → Prop} {a : Nat} {v1 v2 v3 v4 v5 v6 : Int32} (hS : S[a]? = some (.inr (7, [.int 0, .int 0, .int 0, .int 0, .int 0, .int 0, .int 0, .int 0, .int 0]))) (k : Q none (S.set a (.inr (7, [.int v1, .int v2, .int v3, .int v4, .int v5, .int v6, .int 0, .int 0, .int 0])))) : Mth mX7_init (d + 1) 0 [.ref a, .int v1, .int v2, .int v3, .int v4, .int v5, .int v6] S Q := by
  refine Mth_of (by decide) rfl ?_
  refine Ev_aload_n dX7_init_0 rfl ?_
  refine Ev_objInit dX7_init_1 wl_X7_1 (Nat.le_of_ble_eq_true rfl) ?_
  refine Ev_aload_n dX7_init_4 rfl ?_
  refine Ev_iload_n dX7_init_5 rfl ?_
  refine Ev_putF dX7_init_6 fr_X7_7_7 rfl hS rfl rfl rfl ?_
  refine Ev_aload_n dX7_init_9 rfl ?_
  refine Ev_iload_n dX7_init_10 rfl ?_
  refine Ev_putF dX7_init_11 fr_X7_13_7 rfl (gs hS) rfl rfl rfl ?_
  refine Ev_st gss ?_
  refine Ev_aload_n dX7_init_14 rfl ?_
  refine Ev_iload_n dX7_init_15 rfl ?_
  refine Ev_putF dX7_init_16 fr_X7_16_7 rfl (gs hS) rfl rfl rfl ?_
  refine Ev_st gss ?_
  refine Ev_aload_n dX7_init_19 rfl ?_
  refine Ev_iload dX7_init_20 rfl ?_
  refine Ev_putF dX7_init_22 fr_X7_19_7 rfl (gs hS) rfl rfl rfl ?_
  refine Ev_st gss ?_
  refine Ev_aload_n dX7_init_25 rfl ?_
  refine Ev_iload dX7_init_26 rfl ?_
  refine Ev_putF dX7_init_28 fr_X7_22_7 rfl (gs hS) rfl rfl rfl ?_
  refine Ev_st gss ?_
  refine Ev_aload_n dX7_init_31 rfl ?_
  refine Ev_iload dX7_init_32 rfl ?_
  refine Ev_putF dX7_init_34 fr_X7_25_7 rfl (gs hS) rfl rfl rfl ?_
  refine Ev_st gss ?_
  refine Ev_aload_n dX7_init_37 rfl ?_
  refine Ev_iconst (v := 0) dX7_init_38 (by decide) ?_
  refine Ev_put dX7_init_39 fr_X7_28_7 (gs hS) rfl rfl rfl ?_
  refine Ev_st gss ?_
  refine Ev_aload_n dX7_init_42 rfl ?_
  refine Ev_iconst (v := 0) dX7_init_43 (by decide) ?_
  refine Ev_put dX7_init_44 fr_X7_31_7 (gs hS) rfl rfl rfl ?_
  refine Ev_st gss ?_
  refine Ev_aload_n dX7_init_47 rfl ?_
  refine Ev_iconst (v := 0) dX7_init_48 (by decide) ?_
  refine Ev_put dX7_init_49 fr_X7_34_7 (gs hS) rfl (by decide) (by decide) ?_
  refine Ev_st gss ?_
  refine Ev_vret dX7_init_52 rfl ?_
  exact k

set_option maxHeartbeats 4000000 in
set_option maxRecDepth 100000 in
theorem c_X7_init1 {d : Nat} {S : aS} {Q : Option Value → aS → Prop} {a : Nat} {v1 v2 v3 v4 v5 v6 : Int32} (hS : S[a]? = some (.inr (1, [.int 0, .int 0, .int 0, .int 0, .int 0, .int 0, .int 0, .int 0, .int 0]))) (k : Q none (S.set a (.inr (1, [.int v1, .int v2, .int v3, .int v4, .int v5, .int v6, .int 0, .int 0, .int 0])))) : Mth mX7_init (d + 1) 0 [.ref a, .int v1, .int v2, .int v3, .int v4, .int v5, .int v6] S Q := by
  refine Mth_of (by decide) rfl ?_
  refine Ev_aload_n dX7_init_0 rfl ?_
  refine Ev_objInit dX7_init_1 wl_X7_1 (Nat.le_of_ble_eq_true rfl) ?_
  refine Ev_aload_n dX7_init_4 rfl ?_
  refine Ev_iload_n dX7_init_5 rfl ?_
  refine Ev_putF dX7_init_6 fr_X7_7_1 rfl hS rfl rfl rfl ?_
  refine Ev_aload_n dX7_init_9 rfl ?_
  refine Ev_iload_n dX7_init_10 rfl ?_
  refine Ev_putF dX7_init_11 fr_X7_13_1 rfl (gs hS) rfl rfl rfl ?_
  refine Ev_st gss ?_
  refine Ev_aload_n dX7_init_14 rfl ?_
  refine Ev_iload_n dX7_init_15 rfl ?_
  refine Ev_putF dX7_init_16 fr_X7_16_1 rfl (gs hS) rfl rfl rfl ?_
  refine Ev_st gss ?_
  refine Ev_aload_n dX7_init_19 rfl ?_
  refine Ev_iload dX7_init_20 rfl ?_
  refine Ev_putF dX7_init_22 fr_X7_19_1 rfl (gs hS) rfl rfl rfl ?_
  refine Ev_st gss ?_
  refine Ev_aload_n dX7_init_25 rfl ?_
  refine Ev_iload dX7_init_26 rfl ?_
  refine Ev_putF dX7_init_28 fr_X7_22_1 rfl (gs hS) rfl rfl rfl ?_
  refine Ev_st gss ?_
  refine Ev_aload_n dX7_init_31 rfl ?_
  refine Ev_iload dX7_init_32 rfl ?_
  refine Ev_putF dX7_init_34 fr_X7_25_1 rfl (gs hS) rfl rfl rfl ?_
  refine Ev_st gss ?_
  refine Ev_aload_n dX7_init_37 rfl ?_
  refine Ev_iconst (v := 0) dX7_init_38 (by decide) ?_
  refine Ev_put dX7_init_39 fr_X7_28_1 (gs hS) rfl rfl rfl ?_
  refine Ev_st gss ?_
  refine Ev_aload_n dX7_init_42 rfl ?_
  refine Ev_iconst (v := 0) dX7_init_43 (by decide) ?_
  refine Ev_put dX7_init_44 fr_X7_31_1 (gs hS) rfl rfl rfl ?_
  refine Ev_st gss ?_
  refine Ev_aload_n dX7_init_47 rfl ?_
  refine Ev_iconst (v := 0) dX7_init_48 (by decide) ?_
  refine Ev_put dX7_init_49 fr_X7_34_1 (gs hS) rfl (by decide) (by decide) ?_
  refine Ev_st gss ?_
  refine Ev_vret dX7_init_52 rfl ?_
  exact k

set_option maxHeartbeats 4000000 in
set_option maxRecDepth 100000 in
theorem c_X7_init6 {d : Nat} {S : aS} {Q : Option Value → aS → Prop} {a : Nat} {v1 v2 v3 v4 v5 v6 : Int32} (hS : S[a]? = some (.inr (6, [.int 0, .int 0, .int 0, .int 0, .int 0, .int 0, .int 0, .int 0, .int 0]))) (k : Q none (S.set a (.inr (6, [.int v1, .int v2, .int v3, .int v4, .int v5, .int v6, .int 0, .int 0, .int 0])))) : Mth mX7_init (d + 1) 0 [.ref a, .int v1, .int v2, .int v3, .int v4, .int v5, .int v6] S Q := by
  refine Mth_of (by decide) rfl ?_
  refine Ev_aload_n dX7_init_0 rfl ?_
  refine Ev_objInit dX7_init_1 wl_X7_1 (Nat.le_of_ble_eq_true rfl) ?_
  refine Ev_aload_n dX7_init_4 rfl ?_
  refine Ev_iload_n dX7_init_5 rfl ?_
  refine Ev_putF dX7_init_6 fr_X7_7_6 rfl hS rfl rfl rfl ?_
  refine Ev_aload_n dX7_init_9 rfl ?_
  refine Ev_iload_n dX7_init_10 rfl ?_
  refine Ev_putF dX7_init_11 fr_X7_13_6 rfl (gs hS) rfl rfl rfl ?_
  refine Ev_st gss ?_
  refine Ev_aload_n dX7_init_14 rfl ?_
  refine Ev_iload_n dX7_init_15 rfl ?_
  refine Ev_putF dX7_init_16 fr_X7_16_6 rfl (gs hS) rfl rfl rfl ?_
  refine Ev_st gss ?_
  refine Ev_aload_n dX7_init_19 rfl ?_
  refine Ev_iload dX7_init_20 rfl ?_
  refine Ev_putF dX7_init_22 fr_X7_19_6 rfl (gs hS) rfl rfl rfl ?_
  refine Ev_st gss ?_
  refine Ev_aload_n dX7_init_25 rfl ?_
  refine Ev_iload dX7_init_26 rfl ?_
  refine Ev_putF dX7_init_28 fr_X7_22_6 rfl (gs hS) rfl rfl rfl ?_
  refine Ev_st gss ?_
  refine Ev_aload_n dX7_init_31 rfl ?_
  refine Ev_iload dX7_init_32 rfl ?_
  refine Ev_putF dX7_init_34 fr_X7_25_6 rfl (gs hS) rfl rfl rfl ?_
  refine Ev_st gss ?_
  refine Ev_aload_n dX7_init_37 rfl ?_
  refine Ev_iconst (v := 0) dX7_init_38 (by decide) ?_
  refine Ev_put dX7_init_39 fr_X7_28_6 (gs hS) rfl rfl rfl ?_
  refine Ev_st gss ?_
  refine Ev_aload_n dX7_init_42 rfl ?_
  refine Ev_iconst (v := 0) dX7_init_43 (by decide) ?_
  refine Ev_put dX7_init_44 fr_X7_31_6 (gs hS) rfl rfl rfl ?_
  refine Ev_st gss ?_
  refine Ev_aload_n dX7_init_47 rfl ?_
  refine Ev_iconst (v := 0) dX7_init_48 (by decide) ?_
  refine Ev_put dX7_init_49 fr_X7_34_6 (gs hS) rfl (by decide) (by decide) ?_
  refine Ev_st gss ?_
  refine Ev_vret dX7_init_52 rfl ?_
  exact k

set_option maxHeartbeats 4000000 in
set_option maxRecDepth 100000 in
theorem c_X1_init1 {d : Nat} {S : aS} {Q : Option Value → aS → Prop} {a : Nat} {v1 v2 v3 v4 v5 v6 : Int32} (hS : S[a]? = some (.inr (1, [.int 0, .int 0, .int 0, .int 0, .int 0, .int 0, .int 0, .int 0, .int 0]))) (k : Q none (S.set a (.inr (1, [.int v1, .int v2, .int v3, .int v4, .int v5, .int v6, .int 0, .int 0, .int 0])))) : Mth mX1_init (d + 2) 0 [.ref a, .int v1, .int v2, .int v3, .int v4, .int v5, .int v6] S Q := by
  refine Mth_of (by decide) rfl ?_
  refine Ev_aload_n dX1_init_0 rfl ?_
  refine Ev_iload_n dX1_init_1 rfl ?_
  refine Ev_iload_n dX1_init_2 rfl ?_
  refine Ev_iload_n dX1_init_3 rfl ?_
  refine Ev_iload dX1_init_4 rfl ?_
  refine Ev_iload dX1_init_6 rfl ?_
  refine Ev_iload dX1_init_8 rfl ?_
  refine Ev_callI (bc := 0) (b := 0) dX1_init_10 ci_X1_1 rfl (Nat.le_of_ble_eq_true rfl) (by omega) ?_
  refine c_X7_init1 hS ?_
  refine Ev_vret dX1_init_13 rfl ?_
  exact k

set_option maxHeartbeats 4000000 in
set_option maxRecDepth 100000 in
theorem c_X1_init6 {d : Nat} {S : aS} {Q : Option Value → aS → Prop} {a : Nat} {v1 v2 v3 v4 v5 v6 : Int32} (hS : S[a]? = some (.inr (6, [.int 0, .int 0, .int 0, .int 0, .int 0, .int 0, .int 0, .int 0, .int 0]))) (k : Q none (S.set a (.inr (6, [.int v1, .int v2, .int v3, .int v4, .int v5, .int v6, .int 0, .int 0, .int 0])))) : Mth mX1_init (d + 2) 0 [.ref a, .int v1, .int v2, .int v3, .int v4, .int v5, .int v6] S Q := by
  refine Mth_of (by decide) rfl ?_
  refine Ev_aload_n dX1_init_0 rfl ?_
  refine Ev_iload_n dX1_init_1 rfl ?_
  refine Ev_iload_n dX1_init_2 rfl ?_
  refine Ev_iload_n dX1_init_3 rfl ?_
  refine Ev_iload dX1_init_4 rfl ?_
  refine Ev_iload dX1_init_6 rfl ?_
  refine Ev_iload dX1_init_8 rfl ?_
  refine Ev_callI (bc := 0) (b := 0) dX1_init_10 ci_X1_1 rfl (Nat.le_of_ble_eq_true rfl) (by omega) ?_
  refine c_X7_init6 hS ?_
  refine Ev_vret dX1_init_13 rfl ?_
  exact k

set_option maxHeartbeats 4000000 in
set_option maxRecDepth 100000 in
theorem c_X6_init6 {d : Nat} {S : aS} {Q : Option Value → aS → Prop} {a : Nat} {v1 v2 v3 v4 v5 v6 : Int32} (hS : S[a]? = some (.inr (6, [.int 0, .int 0, .int 0, .int 0, .int 0, .int 0, .int 0, .int 0, .int 0]))) (k : Q none (S.set a (.inr (6, [.int v1, .int v2, .int v3, .int v4, .int v5, .int v6, .int 0, .int 0, .int 0])))) : Mth mX6_init (d + 3) 0 [.ref a, .int v1, .int v2, .int v3, .int v4, .int v5, .int v6] S Q := by
  refine Mth_of (by decide) rfl ?_
  refine Ev_aload_n dX6_init_0 rfl ?_
  refine Ev_iload_n dX6_init_1 rfl ?_
  refine Ev_iload_n dX6_init_2 rfl ?_
  refine Ev_iload_n dX6_init_3 rfl ?_
  refine Ev_iload dX6_init_4 rfl ?_
  refine Ev_iload dX6_init_6 rfl ?_
  refine Ev_iload dX6_init_8 rfl ?_
  refine Ev_callI (bc := 0) (b := 0) dX6_init_10 ci_X6_1 rfl (Nat.le_of_ble_eq_true rfl) (by omega) ?_
  refine c_X1_init6 hS ?_
  refine Ev_vret dX6_init_13 rfl ?_
  exact k

abbrev stz (c : Nat → Int32) (m j : Nat) : aE := .inr (kc (tG c m 0 j), [.int (nI j), .int (nI (tG c m 1 j)), .int (nI (tG c m 2 j)), .int (nI (tG c m 3 j)), .int (nI (tG c m 4 j)), .int (nI (tG c m 5 j)), .int 0, .int 0, .int 0])
set_option maxHeartbeats 4000000 in
set_option maxRecDepth 100000 in
theorem c_make0 {d : Nat} {S : aS} {Q : Option Value → aS → Prop} {tx kk ii m : Nat} {ln len : Int32} {f : Nat → Int32} (hT : S[tx]? = some (.inr (8, [.ref (2 + 2 * kk), .int (nI ii), .int (nI m)]))) (hS : S[2 + 2 * kk]? = some (.inr (5, [.ref (3 + 2 * kk), .int ln, .int len]))) (hc : S[3 + 2 * kk]? = some (iA 60 f)) (hl : 0 ≤ len.toInt ∧ len.toInt ≤ 60) (hiz : (ii : Int) + m ≤ len.toInt) {j L : Nat} (hj : j ≤ 8) (ho : ∀ y, y < 2 + 7 * (j + 1) → okc (fun y => f (ii + y)) m y) (hcode : cd (fun y => f (ii + y)) m (2 + 7 * j + 1) = 115) (hlen : S.length = L + 0) (k : Q (some (.ref (L + 0))) (S ++ [stz (fun y => f (ii + y)) m j])) : Mth mX8_makeStretch (d + 4) 1 [.ref tx, .int (nI j)] S Q := by
  have hb1 := tP_b (ho 1 (by omega))
  have hk0 : tG (fun y => f (ii + y)) m 0 j = 0 := (by show (if cd (fun y => f (ii + y)) m (2 + 7 * j + 1) = 115 then 0 else if cd (fun y => f (ii + y)) m (2 + 7 * j + 1) = 109 then 1 else 2) = 0; rw [if_pos hcode])
  have d2 : 48 ≤ (cd (fun y => f (ii + y)) m (2 + 7 * j + 2)).toInt ∧ (cd (fun y => f (ii + y)) m (2 + 7 * j + 2)).toInt ≤ 57 := by have := (okc_2.mp (ho (2 + 7 * j + 2) (by omega))); omega
  have d3 : 48 ≤ (cd (fun y => f (ii + y)) m (2 + 7 * j + 3)).toInt ∧ (cd (fun y => f (ii + y)) m (2 + 7 * j + 3)).toInt ≤ 57 := by have := (okc_3.mp (ho (2 + 7 * j + 3) (by omega))).1; omega
  have d4 : 48 ≤ (cd (fun y => f (ii + y)) m (2 + 7 * j + 4)).toInt ∧ (cd (fun y => f (ii + y)) m (2 + 7 * j + 4)).toInt ≤ 57 := by have := (okc_4.mp (ho (2 + 7 * j + 4) (by omega))); omega
  have d5 : 48 ≤ (cd (fun y => f (ii + y)) m (2 + 7 * j + 5)).toInt ∧ (cd (fun y => f (ii + y)) m (2 + 7 * j + 5)).toInt ≤ 57 := by have := (okc_5.mp (ho (2 + 7 * j + 5) (by omega))); omega
  have d6 : 48 ≤ (cd (fun y => f (ii + y)) m (2 + 7 * j + 6)).toInt ∧ (cd (fun y => f (ii + y)) m (2 + 7 * j + 6)).toInt ≤ 57 := by have := (okc_6.mp (ho (2 + 7 * j + 6) (by omega))); omega
  refine Mth_of (by decide) rfl ?_
  refine Ev_iconst (v := 2) dX8_makeStretch_0 (by decide) ?_
  refine Ev_iload_n dX8_makeStretch_1 rfl ?_
  refine Ev_bipush (v := 7) dX8_makeStretch_2 (by decide) ?_
  refine Ev_imul dX8_makeStretch_4 ?_
  refine Ev_topi (y := nI (j * 7)) (nmul _ _) ?_
  refine Ev_iadd dX8_makeStretch_5 ?_
  refine Ev_topi (y := nI (2 + (j * 7))) (nI_add _ _) ?_
  refine Ev_iconst (v := 2) dX8_makeStretch_6 (by decide) ?_
  refine Ev_iadd dX8_makeStretch_7 ?_
  refine Ev_topi (y := nI (2 + 7 * j + 2)) ((nI_add _ 2).trans (by rw [show 2 + j * 7 + 2 = 2 + 7 * j + 2 by omega])) ?_
  refine Ev_istore_n dX8_makeStretch_8 rfl ?_
  refine Ev_aload_n dX8_makeStretch_9 rfl ?_
  refine Ev_iload_n dX8_makeStretch_10 rfl ?_
  refine Ev_callV (bc := 0) (b := 1) dX8_makeStretch_11 cv_X8_41 rfl hT (Nat.le_of_ble_eq_true rfl) (by omega) ?_
  refine c_X8_digitAt hT hS hc hl hiz (p := 2 + 7 * j + 2) (by omega) d2 ?_
  refine Ev_istore_n dX8_makeStretch_14 rfl ?_
  refine Ev_aload_n dX8_makeStretch_15 rfl ?_
  refine Ev_iload_n dX8_makeStretch_16 rfl ?_
  refine Ev_iconst (v := 1) dX8_makeStretch_17 (by decide) ?_
  refine Ev_iadd dX8_makeStretch_18 ?_
  refine Ev_topi (y := nI (2 + 7 * j + 3)) (nI_add _ 1) ?_
  refine Ev_callV (bc := 0) (b := 1) dX8_makeStretch_19 cv_X8_41 rfl hT (Nat.le_of_ble_eq_true rfl) (by omega) ?_
  refine c_X8_digitAt hT hS hc hl hiz (p := 2 + 7 * j + 3) (by omega) d3 ?_
  refine Ev_istore dX8_makeStretch_22 rfl ?_
  refine Ev_aload_n dX8_makeStretch_24 rfl ?_
  refine Ev_iload_n dX8_makeStretch_25 rfl ?_
  refine Ev_iconst (v := 2) dX8_makeStretch_26 (by decide) ?_
  refine Ev_iadd dX8_makeStretch_27 ?_
  refine Ev_topi (y := nI (2 + 7 * j + 4)) (nI_add _ 2) ?_
  refine Ev_callV (bc := 0) (b := 1) dX8_makeStretch_28 cv_X8_41 rfl hT (Nat.le_of_ble_eq_true rfl) (by omega) ?_
  refine c_X8_digitAt hT hS hc hl hiz (p := 2 + 7 * j + 4) (by omega) d4 ?_
  refine Ev_istore dX8_makeStretch_31 rfl ?_
  refine Ev_aload_n dX8_makeStretch_33 rfl ?_
  refine Ev_iload_n dX8_makeStretch_34 rfl ?_
  refine Ev_iconst (v := 3) dX8_makeStretch_35 (by decide) ?_
  refine Ev_iadd dX8_makeStretch_36 ?_
  refine Ev_topi (y := nI (2 + 7 * j + 5)) (nI_add _ 3) ?_
  refine Ev_callV (bc := 0) (b := 1) dX8_makeStretch_37 cv_X8_41 rfl hT (Nat.le_of_ble_eq_true rfl) (by omega) ?_
  refine c_X8_digitAt hT hS hc hl hiz (p := 2 + 7 * j + 5) (by omega) d5 ?_
  refine Ev_istore dX8_makeStretch_40 rfl ?_
  refine Ev_aload_n dX8_makeStretch_42 rfl ?_
  refine Ev_iload_n dX8_makeStretch_43 rfl ?_
  refine Ev_iconst (v := 4) dX8_makeStretch_44 (by decide) ?_
  refine Ev_iadd dX8_makeStretch_45 ?_
  refine Ev_topi (y := nI (2 + 7 * j + 6)) (nI_add _ 4) ?_
  refine Ev_callV (bc := 0) (b := 1) dX8_makeStretch_46 cv_X8_41 rfl hT (Nat.le_of_ble_eq_true rfl) (by omega) ?_
  refine c_X8_digitAt hT hS hc hl hiz (p := 2 + 7 * j + 6) (by omega) d6 ?_
  refine Ev_istore dX8_makeStretch_49 rfl ?_
  refine Ev_aload_n dX8_makeStretch_51 rfl ?_
  refine Ev_iload_n dX8_makeStretch_52 rfl ?_
  refine Ev_iconst (v := 1) dX8_makeStretch_53 (by decide) ?_
  refine Ev_isub dX8_makeStretch_54 ?_
  refine Ev_topi (y := nI (2 + 7 * j + 1)) ((nsub (b := 1) (by omega)).trans (by rw [show 2 + 7 * j + 2 - 1 = 2 + 7 * j + 1 by omega])) ?_
  refine Ev_callV (bc := 0) (b := 1) dX8_makeStretch_55 cv_X8_26 rfl hT (Nat.le_of_ble_eq_true rfl) (by omega) ?_
  refine c_X8_codeAt hT hS hc hl hiz (p := 2 + 7 * j + 1) (by omega) ?_
  rw [hcode]
  refine Ev_lookup (off := 62) (tg := 120) dX8_makeStretch_58 (by decide) (by decide) (by decide) ?_
  refine Ev_new (b := 0) dX8_makeStretch_120 nr_X8_52 ?_
  refine Ev_ref (j := L + 0) hlen ?_
  refine Ev_dup dX8_makeStretch_123 rfl ?_
  refine Ev_iload_n dX8_makeStretch_124 rfl ?_
  refine Ev_iload_n dX8_makeStretch_125 rfl ?_
  refine Ev_iload dX8_makeStretch_126 rfl ?_
  refine Ev_iload dX8_makeStretch_128 rfl ?_
  refine Ev_iload dX8_makeStretch_130 rfl ?_
  refine Ev_iload dX8_makeStretch_132 rfl ?_
  refine Ev_callI (bc := 0) (b := 0) dX8_makeStretch_134 ci_X8_54 rfl (Nat.le_of_ble_eq_true rfl) (by omega) ?_
  refine c_X7_init7 (gl2 hlen) ?_
  refine Ev_aret dX8_makeStretch_137 rfl ?_
  rw [app_set hlen]
  unfold stz at k
  rw [show kc (tG (fun y => f (ii + y)) m 0 j) = 7 from kc_0 hk0] at k
  exact k

set_option maxHeartbeats 4000000 in
set_option maxRecDepth 100000 in
theorem c_make1 {d : Nat} {S : aS} {Q : Option Value → aS → Prop} {tx kk ii m : Nat} {ln len : Int32} {f : Nat → Int32} (hT : S[tx]? = some (.inr (8, [.ref (2 + 2 * kk), .int (nI ii), .int (nI m)]))) (hS : S[2 + 2 * kk]? = some (.inr (5, [.ref (3 + 2 * kk), .int ln, .int len]))) (hc : S[3 + 2 * kk]? = some (iA 60 f)) (hl : 0 ≤ len.toInt ∧ len.toInt ≤ 60) (hiz : (ii : Int) + m ≤ len.toInt) {j L : Nat} (hj : j ≤ 8) (ho : ∀ y, y < 2 + 7 * (j + 1) → okc (fun y => f (ii + y)) m y) (hcode : cd (fun y => f (ii + y)) m (2 + 7 * j + 1) = 109) (hlen : S.length = L + 0) (k : Q (some (.ref (L + 0))) (S ++ [stz (fun y => f (ii + y)) m j])) : Mth mX8_makeStretch (d + 4) 1 [.ref tx, .int (nI j)] S Q := by
  have hb1 := tP_b (ho 1 (by omega))
  have hk0 : tG (fun y => f (ii + y)) m 0 j = 1 := (by show (if cd (fun y => f (ii + y)) m (2 + 7 * j + 1) = 115 then 0 else if cd (fun y => f (ii + y)) m (2 + 7 * j + 1) = 109 then 1 else 2) = 1; rw [if_neg (by rw [hcode]; decide), if_pos hcode])
  have d2 : 48 ≤ (cd (fun y => f (ii + y)) m (2 + 7 * j + 2)).toInt ∧ (cd (fun y => f (ii + y)) m (2 + 7 * j + 2)).toInt ≤ 57 := by have := (okc_2.mp (ho (2 + 7 * j + 2) (by omega))); omega
  have d3 : 48 ≤ (cd (fun y => f (ii + y)) m (2 + 7 * j + 3)).toInt ∧ (cd (fun y => f (ii + y)) m (2 + 7 * j + 3)).toInt ≤ 57 := by have := (okc_3.mp (ho (2 + 7 * j + 3) (by omega))).1; omega
  have d4 : 48 ≤ (cd (fun y => f (ii + y)) m (2 + 7 * j + 4)).toInt ∧ (cd (fun y => f (ii + y)) m (2 + 7 * j + 4)).toInt ≤ 57 := by have := (okc_4.mp (ho (2 + 7 * j + 4) (by omega))); omega
  have d5 : 48 ≤ (cd (fun y => f (ii + y)) m (2 + 7 * j + 5)).toInt ∧ (cd (fun y => f (ii + y)) m (2 + 7 * j + 5)).toInt ≤ 57 := by have := (okc_5.mp (ho (2 + 7 * j + 5) (by omega))); omega
  have d6 : 48 ≤ (cd (fun y => f (ii + y)) m (2 + 7 * j + 6)).toInt ∧ (cd (fun y => f (ii + y)) m (2 + 7 * j + 6)).toInt ≤ 57 := by have := (okc_6.mp (ho (2 + 7 * j + 6) (by omega))); omega
  refine Mth_of (by decide) rfl ?_
  refine Ev_iconst (v := 2) dX8_makeStretch_0 (by decide) ?_
  refine Ev_iload_n dX8_makeStretch_1 rfl ?_
  refine Ev_bipush (v := 7) dX8_makeStretch_2 (by decide) ?_
  refine Ev_imul dX8_makeStretch_4 ?_
  refine Ev_topi (y := nI (j * 7)) (nmul _ _) ?_
  refine Ev_iadd dX8_makeStretch_5 ?_
  refine Ev_topi (y := nI (2 + (j * 7))) (nI_add _ _) ?_
  refine Ev_iconst (v := 2) dX8_makeStretch_6 (by decide) ?_
  refine Ev_iadd dX8_makeStretch_7 ?_
  refine Ev_topi (y := nI (2 + 7 * j + 2)) ((nI_add _ 2).trans (by rw [show 2 + j * 7 + 2 = 2 + 7 * j + 2 by omega])) ?_
  refine Ev_istore_n dX8_makeStretch_8 rfl ?_
  refine Ev_aload_n dX8_makeStretch_9 rfl ?_
  refine Ev_iload_n dX8_makeStretch_10 rfl ?_
  refine Ev_callV (bc := 0) (b := 1) dX8_makeStretch_11 cv_X8_41 rfl hT (Nat.le_of_ble_eq_true rfl) (by omega) ?_
  refine c_X8_digitAt hT hS hc hl hiz (p := 2 + 7 * j + 2) (by omega) d2 ?_
  refine Ev_istore_n dX8_makeStretch_14 rfl ?_
  refine Ev_aload_n dX8_makeStretch_15 rfl ?_
  refine Ev_iload_n dX8_makeStretch_16 rfl ?_
  refine Ev_iconst (v := 1) dX8_makeStretch_17 (by decide) ?_
  refine Ev_iadd dX8_makeStretch_18 ?_
  refine Ev_topi (y := nI (2 + 7 * j + 3)) (nI_add _ 1) ?_
  refine Ev_callV (bc := 0) (b := 1) dX8_makeStretch_19 cv_X8_41 rfl hT (Nat.le_of_ble_eq_true rfl) (by omega) ?_
  refine c_X8_digitAt hT hS hc hl hiz (p := 2 + 7 * j + 3) (by omega) d3 ?_
  refine Ev_istore dX8_makeStretch_22 rfl ?_
  refine Ev_aload_n dX8_makeStretch_24 rfl ?_
  refine Ev_iload_n dX8_makeStretch_25 rfl ?_
  refine Ev_iconst (v := 2) dX8_makeStretch_26 (by decide) ?_
  refine Ev_iadd dX8_makeStretch_27 ?_
  refine Ev_topi (y := nI (2 + 7 * j + 4)) (nI_add _ 2) ?_
  refine Ev_callV (bc := 0) (b := 1) dX8_makeStretch_28 cv_X8_41 rfl hT (Nat.le_of_ble_eq_true rfl) (by omega) ?_
  refine c_X8_digitAt hT hS hc hl hiz (p := 2 + 7 * j + 4) (by omega) d4 ?_
  refine Ev_istore dX8_makeStretch_31 rfl ?_
  refine Ev_aload_n dX8_makeStretch_33 rfl ?_
  refine Ev_iload_n dX8_makeStretch_34 rfl ?_
  refine Ev_iconst (v := 3) dX8_makeStretch_35 (by decide) ?_
  refine Ev_iadd dX8_makeStretch_36 ?_
  refine Ev_topi (y := nI (2 + 7 * j + 5)) (nI_add _ 3) ?_
  refine Ev_callV (bc := 0) (b := 1) dX8_makeStretch_37 cv_X8_41 rfl hT (Nat.le_of_ble_eq_true rfl) (by omega) ?_
  refine c_X8_digitAt hT hS hc hl hiz (p := 2 + 7 * j + 5) (by omega) d5 ?_
  refine Ev_istore dX8_makeStretch_40 rfl ?_
  refine Ev_aload_n dX8_makeStretch_42 rfl ?_
  refine Ev_iload_n dX8_makeStretch_43 rfl ?_
  refine Ev_iconst (v := 4) dX8_makeStretch_44 (by decide) ?_
  refine Ev_iadd dX8_makeStretch_45 ?_
  refine Ev_topi (y := nI (2 + 7 * j + 6)) (nI_add _ 4) ?_
  refine Ev_callV (bc := 0) (b := 1) dX8_makeStretch_46 cv_X8_41 rfl hT (Nat.le_of_ble_eq_true rfl) (by omega) ?_
  refine c_X8_digitAt hT hS hc hl hiz (p := 2 + 7 * j + 6) (by omega) d6 ?_
  refine Ev_istore dX8_makeStretch_49 rfl ?_
  refine Ev_aload_n dX8_makeStretch_51 rfl ?_
  refine Ev_iload_n dX8_makeStretch_52 rfl ?_
  refine Ev_iconst (v := 1) dX8_makeStretch_53 (by decide) ?_
  refine Ev_isub dX8_makeStretch_54 ?_
  refine Ev_topi (y := nI (2 + 7 * j + 1)) ((nsub (b := 1) (by omega)).trans (by rw [show 2 + 7 * j + 2 - 1 = 2 + 7 * j + 1 by omega])) ?_
  refine Ev_callV (bc := 0) (b := 1) dX8_makeStretch_55 cv_X8_26 rfl hT (Nat.le_of_ble_eq_true rfl) (by omega) ?_
  refine c_X8_codeAt hT hS hc hl hiz (p := 2 + 7 * j + 1) (by omega) ?_
  rw [hcode]
  refine Ev_lookup (off := 26) (tg := 84) dX8_makeStretch_58 (by decide) (by decide) (by decide) ?_
  refine Ev_new (b := 0) dX8_makeStretch_84 nr_X8_44 ?_
  refine Ev_ref (j := L + 0) hlen ?_
  refine Ev_dup dX8_makeStretch_87 rfl ?_
  refine Ev_iload_n dX8_makeStretch_88 rfl ?_
  refine Ev_iload_n dX8_makeStretch_89 rfl ?_
  refine Ev_iload dX8_makeStretch_90 rfl ?_
  refine Ev_iload dX8_makeStretch_92 rfl ?_
  refine Ev_iload dX8_makeStretch_94 rfl ?_
  refine Ev_iload dX8_makeStretch_96 rfl ?_
  refine Ev_callI (bc := 0) (b := 0) dX8_makeStretch_98 ci_X8_46 rfl (Nat.le_of_ble_eq_true rfl) (by omega) ?_
  refine c_X1_init1 (gl2 hlen) ?_
  refine Ev_aret dX8_makeStretch_101 rfl ?_
  rw [app_set hlen]
  unfold stz at k
  rw [show kc (tG (fun y => f (ii + y)) m 0 j) = 1 from kc_1 hk0] at k
  exact k

set_option maxHeartbeats 4000000 in
set_option maxRecDepth 100000 in
theorem c_make2 {d : Nat} {S : aS} {Q : Option Value → aS → Prop} {tx kk ii m : Nat} {ln len : Int32} {f : Nat → Int32} (hT : S[tx]? = some (.inr (8, [.ref (2 + 2 * kk), .int (nI ii), .int (nI m)]))) (hS : S[2 + 2 * kk]? = some (.inr (5, [.ref (3 + 2 * kk), .int ln, .int len]))) (hc : S[3 + 2 * kk]? = some (iA 60 f)) (hl : 0 ≤ len.toInt ∧ len.toInt ≤ 60) (hiz : (ii : Int) + m ≤ len.toInt) {j L : Nat} (hj : j ≤ 8) (ho : ∀ y, y < 2 + 7 * (j + 1) → okc (fun y => f (ii + y)) m y) (hcode : cd (fun y => f (ii + y)) m (2 + 7 * j + 1) = 112) (hlen : S.length = L + 0) (k : Q (some (.ref (L + 0))) (S ++ [stz (fun y => f (ii + y)) m j])) : Mth mX8_makeStretch (d + 4) 1 [.ref tx, .int (nI j)] S Q := by
  have hb1 := tP_b (ho 1 (by omega))
  have hk0 : tG (fun y => f (ii + y)) m 0 j = 2 := (by show (if cd (fun y => f (ii + y)) m (2 + 7 * j + 1) = 115 then 0 else if cd (fun y => f (ii + y)) m (2 + 7 * j + 1) = 109 then 1 else 2) = 2; rw [if_neg (by rw [hcode]; decide), if_neg (by rw [hcode]; decide)])
  have d2 : 48 ≤ (cd (fun y => f (ii + y)) m (2 + 7 * j + 2)).toInt ∧ (cd (fun y => f (ii + y)) m (2 + 7 * j + 2)).toInt ≤ 57 := by have := (okc_2.mp (ho (2 + 7 * j + 2) (by omega))); omega
  have d3 : 48 ≤ (cd (fun y => f (ii + y)) m (2 + 7 * j + 3)).toInt ∧ (cd (fun y => f (ii + y)) m (2 + 7 * j + 3)).toInt ≤ 57 := by have := (okc_3.mp (ho (2 + 7 * j + 3) (by omega))).1; omega
  have d4 : 48 ≤ (cd (fun y => f (ii + y)) m (2 + 7 * j + 4)).toInt ∧ (cd (fun y => f (ii + y)) m (2 + 7 * j + 4)).toInt ≤ 57 := by have := (okc_4.mp (ho (2 + 7 * j + 4) (by omega))); omega
  have d5 : 48 ≤ (cd (fun y => f (ii + y)) m (2 + 7 * j + 5)).toInt ∧ (cd (fun y => f (ii + y)) m (2 + 7 * j + 5)).toInt ≤ 57 := by have := (okc_5.mp (ho (2 + 7 * j + 5) (by omega))); omega
  have d6 : 48 ≤ (cd (fun y => f (ii + y)) m (2 + 7 * j + 6)).toInt ∧ (cd (fun y => f (ii + y)) m (2 + 7 * j + 6)).toInt ≤ 57 := by have := (okc_6.mp (ho (2 + 7 * j + 6) (by omega))); omega
  refine Mth_of (by decide) rfl ?_
  refine Ev_iconst (v := 2) dX8_makeStretch_0 (by decide) ?_
  refine Ev_iload_n dX8_makeStretch_1 rfl ?_
  refine Ev_bipush (v := 7) dX8_makeStretch_2 (by decide) ?_
  refine Ev_imul dX8_makeStretch_4 ?_
  refine Ev_topi (y := nI (j * 7)) (nmul _ _) ?_
  refine Ev_iadd dX8_makeStretch_5 ?_
  refine Ev_topi (y := nI (2 + (j * 7))) (nI_add _ _) ?_
  refine Ev_iconst (v := 2) dX8_makeStretch_6 (by decide) ?_
  refine Ev_iadd dX8_makeStretch_7 ?_
  refine Ev_topi (y := nI (2 + 7 * j + 2)) ((nI_add _ 2).trans (by rw [show 2 + j * 7 + 2 = 2 + 7 * j + 2 by omega])) ?_
  refine Ev_istore_n dX8_makeStretch_8 rfl ?_
  refine Ev_aload_n dX8_makeStretch_9 rfl ?_
  refine Ev_iload_n dX8_makeStretch_10 rfl ?_
  refine Ev_callV (bc := 0) (b := 1) dX8_makeStretch_11 cv_X8_41 rfl hT (Nat.le_of_ble_eq_true rfl) (by omega) ?_
  refine c_X8_digitAt hT hS hc hl hiz (p := 2 + 7 * j + 2) (by omega) d2 ?_
  refine Ev_istore_n dX8_makeStretch_14 rfl ?_
  refine Ev_aload_n dX8_makeStretch_15 rfl ?_
  refine Ev_iload_n dX8_makeStretch_16 rfl ?_
  refine Ev_iconst (v := 1) dX8_makeStretch_17 (by decide) ?_
  refine Ev_iadd dX8_makeStretch_18 ?_
  refine Ev_topi (y := nI (2 + 7 * j + 3)) (nI_add _ 1) ?_
  refine Ev_callV (bc := 0) (b := 1) dX8_makeStretch_19 cv_X8_41 rfl hT (Nat.le_of_ble_eq_true rfl) (by omega) ?_
  refine c_X8_digitAt hT hS hc hl hiz (p := 2 + 7 * j + 3) (by omega) d3 ?_
  refine Ev_istore dX8_makeStretch_22 rfl ?_
  refine Ev_aload_n dX8_makeStretch_24 rfl ?_
  refine Ev_iload_n dX8_makeStretch_25 rfl ?_
  refine Ev_iconst (v := 2) dX8_makeStretch_26 (by decide) ?_
  refine Ev_iadd dX8_makeStretch_27 ?_
  refine Ev_topi (y := nI (2 + 7 * j + 4)) (nI_add _ 2) ?_
  refine Ev_callV (bc := 0) (b := 1) dX8_makeStretch_28 cv_X8_41 rfl hT (Nat.le_of_ble_eq_true rfl) (by omega) ?_
  refine c_X8_digitAt hT hS hc hl hiz (p := 2 + 7 * j + 4) (by omega) d4 ?_
  refine Ev_istore dX8_makeStretch_31 rfl ?_
  refine Ev_aload_n dX8_makeStretch_33 rfl ?_
  refine Ev_iload_n dX8_makeStretch_34 rfl ?_
  refine Ev_iconst (v := 3) dX8_makeStretch_35 (by decide) ?_
  refine Ev_iadd dX8_makeStretch_36 ?_
  refine Ev_topi (y := nI (2 + 7 * j + 5)) (nI_add _ 3) ?_
  refine Ev_callV (bc := 0) (b := 1) dX8_makeStretch_37 cv_X8_41 rfl hT (Nat.le_of_ble_eq_true rfl) (by omega) ?_
  refine c_X8_digitAt hT hS hc hl hiz (p := 2 + 7 * j + 5) (by omega) d5 ?_
  refine Ev_istore dX8_makeStretch_40 rfl ?_
  refine Ev_aload_n dX8_makeStretch_42 rfl ?_
  refine Ev_iload_n dX8_makeStretch_43 rfl ?_
  refine Ev_iconst (v := 4) dX8_makeStretch_44 (by decide) ?_
  refine Ev_iadd dX8_makeStretch_45 ?_
  refine Ev_topi (y := nI (2 + 7 * j + 6)) (nI_add _ 4) ?_
  refine Ev_callV (bc := 0) (b := 1) dX8_makeStretch_46 cv_X8_41 rfl hT (Nat.le_of_ble_eq_true rfl) (by omega) ?_
  refine c_X8_digitAt hT hS hc hl hiz (p := 2 + 7 * j + 6) (by omega) d6 ?_
  refine Ev_istore dX8_makeStretch_49 rfl ?_
  refine Ev_aload_n dX8_makeStretch_51 rfl ?_
  refine Ev_iload_n dX8_makeStretch_52 rfl ?_
  refine Ev_iconst (v := 1) dX8_makeStretch_53 (by decide) ?_
  refine Ev_isub dX8_makeStretch_54 ?_
  refine Ev_topi (y := nI (2 + 7 * j + 1)) ((nsub (b := 1) (by omega)).trans (by rw [show 2 + 7 * j + 2 - 1 = 2 + 7 * j + 1 by omega])) ?_
  refine Ev_callV (bc := 0) (b := 1) dX8_makeStretch_55 cv_X8_26 rfl hT (Nat.le_of_ble_eq_true rfl) (by omega) ?_
  refine c_X8_codeAt hT hS hc hl hiz (p := 2 + 7 * j + 1) (by omega) ?_
  rw [hcode]
  refine Ev_lookup (off := 44) (tg := 102) dX8_makeStretch_58 (by decide) (by decide) (by decide) ?_
  refine Ev_new (b := 0) dX8_makeStretch_102 nr_X8_49 ?_
  refine Ev_ref (j := L + 0) hlen ?_
  refine Ev_dup dX8_makeStretch_105 rfl ?_
  refine Ev_iload_n dX8_makeStretch_106 rfl ?_
  refine Ev_iload_n dX8_makeStretch_107 rfl ?_
  refine Ev_iload dX8_makeStretch_108 rfl ?_
  refine Ev_iload dX8_makeStretch_110 rfl ?_
  refine Ev_iload dX8_makeStretch_112 rfl ?_
  refine Ev_iload dX8_makeStretch_114 rfl ?_
  refine Ev_callI (bc := 0) (b := 0) dX8_makeStretch_116 ci_X8_51 rfl (Nat.le_of_ble_eq_true rfl) (by omega) ?_
  refine c_X6_init6 (gl2 hlen) ?_
  refine Ev_aret dX8_makeStretch_119 rfl ?_
  rw [app_set hlen]
  unfold stz at k
  rw [show kc (tG (fun y => f (ii + y)) m 0 j) = 6 from kc_2 hk0] at k
  exact k

theorem c_make {d : Nat} {S : aS} {Q : Option Value → aS → Prop} {tx kk ii m : Nat} {ln len : Int32} {f : Nat → Int32} (hT : S[tx]? = some (.inr (8, [.ref (2 + 2 * kk), .int (nI ii), .int (nI m)]))) (hS : S[2 + 2 * kk]? = some (.inr (5, [.ref (3 + 2 * kk), .int ln, .int len]))) (hc : S[3 + 2 * kk]? = some (iA 60 f)) (hl : 0 ≤ len.toInt ∧ len.toInt ≤ 60) (hiz : (ii : Int) + m ≤ len.toInt) {j L : Nat} (hj : j ≤ 8) (ho : ∀ y, y < 2 + 7 * (j + 1) → okc (fun y => f (ii + y)) m y) (hlen : S.length = L + 0) (k : Q (some (.ref (L + 0))) (S ++ [stz (fun y => f (ii + y)) m j])) : Mth mX8_makeStretch (d + 4) 1 [.ref tx, .int (nI j)] S Q := by
  rcases okc_1.mp (ho (2 + 7 * j + 1) (by omega)) with h | h | h
  · exact c_make0 hT hS hc hl hiz hj ho h hlen k
  · exact c_make1 hT hS hc hl hiz hj ho h hlen k
  · exact c_make2 hT hS hc hl hiz hj ho h hlen k

set_option maxHeartbeats 4000000 in
set_option maxRecDepth 100000 in
theorem c_X8_stretches {d : Nat} {S : aS} {Q : Option Value → aS → Prop} {tx kk ii m : Nat} {ln len : Int32} {f : Nat → Int32} (hT : S[tx]? = some (.inr (8, [.ref (2 + 2 * kk), .int (nI ii), .int (nI m)]))) (hS : S[2 + 2 * kk]? = some (.inr (5, [.ref (3 + 2 * kk), .int ln, .int len]))) (hc : S[3 + 2 * kk]? = some (iA 60 f)) (hl : 0 ≤ len.toInt ∧ len.toInt ≤ 60) (hiz : (ii : Int) + m ≤ len.toInt) (hm : 2 ≤ m) (k : Q (some (.int (nI ((m - 2) / 7)))) S) : Mth mX8_stretches d 0 [.ref tx] S Q := by
  refine Mth_of (by decide) rfl ?_
  refine Ev_aload_n dX8_stretches_0 rfl ?_
  refine Ev_get dX8_stretches_1 fg_X8_19_8 hT rfl ?_
  refine Ev_iconst (v := 2) dX8_stretches_4 (by decide) ?_
  refine Ev_isub dX8_stretches_5 ?_
  refine Ev_topi (y := nI (m - 2)) (nsub (b := 2) hm) ?_
  refine Ev_bipush (v := 7) dX8_stretches_6 (by decide) ?_
  refine Ev_idiv dX8_stretches_8 (by decide) ?_
  refine Ev_topi (y := nI ((m - 2) / 7)) (pk_div (d := 7) (by omega) (by decide) (by decide)) ?_
  refine Ev_iret dX8_stretches_9 rfl rfl ?_
  exact k

theorem bz_z (j : Nat) : bz (Nat.testBit 0 j) = 0 := by rw [Nat.zero_testBit]; rfl

set_option maxHeartbeats 4000000 in
theorem c_share0 {d : Nat} {S : aS} {Q : Option Value → aS → Prop} {pl n j a : Nat} {G : Nat → Nat → Nat} {p x1 x2 : Int32} (hg : GD pl n G) (hj : j < n) (hS : S[a]? = some (.inr (kc (G 0 j), [.int (nI j), .int (nI (G 1 j)), .int (nI (G 2 j)), .int (nI (G 3 j)), .int (nI (G 4 j)), .int (nI (G 5 j)), .int x1, .int x2, .int 0]))) (k : Q none (S.set a (stc G 0 p.toInt j))) : Mth mX7_shareWith (d + 2) 0 [.ref a, .int p] S Q := by
  have e1 : ∀ x, x < 10 → (nI x).toInt = (x : Int) := fun x h => nIt (by omega)
  have hG := hg.2.2 j hj
  have hp := hg.1
  have a1 := e1 (G 1 j) (by omega)
  have a2 := e1 (G 2 j) (by omega)
  have hshd : sh G p.toInt j = true ↔ (nI (G 1 j) ≤ p ∧ nI (G 2 j) ≤ p) := by rw [xle, xle, a1, a2]; simp only [sh, decide_eq_true_eq]
  have k : Q none (S.set a (.inr (kc (G 0 j), [.int (nI j), .int (nI (G 1 j)), .int (nI (G 2 j)), .int (nI (G 3 j)), .int (nI (G 4 j)), .int (nI (G 5 j)), .int (nI (tk G p.toInt j)), .int (nI (tn G p.toInt j)), .int 0]))) := by rw [← bz_z j]; exact k
  rcases (show G 0 j = 0 ∨ G 0 j = 1 ∨ G 0 j = 2 by omega) with h0 | h0 | h0
  · have hk := kc_0 h0
    have et : tk0 G j = G 3 j := by unfold tk0; rw [h0]; rfl
    have eb : nI (G 3 j) = nI (G 3 j) := rfl
    rw [hk] at hS k
    by_cases hs : sh G p.toInt j = true
    · refine c_X7_shareWith7_1 hS (hshd.mp hs).1 (hshd.mp hs).2 ?_
      simp only [tk, tn, if_pos hs, et] at k
      rw [eb, nI_1]
      exact k
    · refine c_X7_shareWith7_0 hS (fun z => hs (hshd.mpr z)) ?_
      simp only [tk, tn, if_neg hs, et] at k
      rw [eb, show (10 : Int32) - nI (G 5 j) = nI (10 - G 5 j) from nsub (a := 10) (by omega)]
      exact k
  · have hk := kc_1 h0
    have et : tk0 G j = G 3 j + 1 := by unfold tk0; rw [h0]; rfl
    have eb : nI (G 3 j) + 1 = nI (G 3 j + 1) := (nI_1 _)
    rw [hk] at hS k
    by_cases hs : sh G p.toInt j = true
    · refine c_X7_shareWith1_1 hS (hshd.mp hs).1 (hshd.mp hs).2 ?_
      simp only [tk, tn, if_pos hs, et] at k
      rw [eb, nI_1]
      exact k
    · refine c_X7_shareWith1_0 hS (fun z => hs (hshd.mpr z)) ?_
      simp only [tk, tn, if_neg hs, et] at k
      rw [eb, show (10 : Int32) - nI (G 5 j) = nI (10 - G 5 j) from nsub (a := 10) (by omega)]
      exact k
  · have hk := kc_2 h0
    have et : tk0 G j = 2 * (G 3 j + 1) := by unfold tk0; rw [h0]; rfl
    have eb : 2 * (nI (G 3 j) + 1) = nI (2 * (G 3 j + 1)) := (by rw [nI_1]; exact nmul 2 _)
    rw [hk] at hS k
    by_cases hs : sh G p.toInt j = true
    · refine c_X7_shareWith6_1 hS (hshd.mp hs).1 (hshd.mp hs).2 ?_
      simp only [tk, tn, if_pos hs, et] at k
      rw [eb, nI_1]
      exact k
    · refine c_X7_shareWith6_0 hS (fun z => hs (hshd.mpr z)) ?_
      simp only [tk, tn, if_neg hs, et] at k
      rw [eb, show (10 : Int32) - nI (G 5 j) = nI (10 - G 5 j) from nsub (a := 10) (by omega)]
      exact k

set_option maxHeartbeats 4000000 in
set_option maxRecDepth 100000 in
theorem l_befriend0 {d : Nat} {S : aS} {Q : Option Value → aS → Prop} {pl n q : Nat} {du lw fr : Int32} (hp7 : pl ≤ 7) (hn9 : n ≤ 9) (hq : q ≤ 8) (hN : S[10]? = some (nt (nI pl) (nI n) du lw fr (nI q))) {sa : Nat → Option Nat} {ad : Nat → Nat} (hA : S[11]? = some (rA 4 9 sa)) (hsa : ∀ j, j < n → sa j = some (ad j)) {c : Nat → Int32} {mm : Nat} (hC : ∀ j, j < n → S[ad j]? = some (stz c mm j) ∧ 56 ≤ ad j ∧ ∀ i, i < n → ad i = ad j → i = j) (hg : GD pl n (tG c mm)) {p9 : Int32} (k : Q none (setN S ad (stc (tG c mm) 0 fr.toInt) n)) : ∀ (t i : Nat) , i + t = n → Ev none mX2_befriend (d + 3) 0 7 [some (.ref 10), some (.int p9), some (.int (nI i)), none] [] (setN S ad (stc (tG c mm) 0 fr.toInt) i) Q := by
  intro t
  induction t with
  | zero =>
    intro i  hi
    obtain rfl : i = n := by omega
    refine Ev_iload_n dX2_befriend_7 rfl ?_
    refine Ev_aload_n dX2_befriend_8 rfl ?_
    refine Ev_get dX2_befriend_9 fg_X2_45_2 (by rw [setN_off i (fun j hj => by have := (hC j (by omega)).2.1; omega)]; exact hN) rfl ?_
    refine Ev_icmp_ge dX2_befriend_12 (fun _ => ?_) (fun c => absurd ((nle (by omega) (by omega)).mpr (Nat.le_refl _)) c)
    refine Ev_vret dX2_befriend_39 rfl ?_
    exact k
  | succ t ih =>
    intro i  hi
    refine Ev_iload_n dX2_befriend_7 rfl ?_
    refine Ev_aload_n dX2_befriend_8 rfl ?_
    refine Ev_get dX2_befriend_9 fg_X2_45_2 (by rw [setN_off i (fun j hj => by have := (hC j (by omega)).2.1; omega)]; exact hN) rfl ?_
    refine Ev_icmp_ge dX2_befriend_12 (fun c => absurd c (fun z => absurd ((nle (by omega) (by omega)).mp z) (by omega))) (fun _ => ?_)
    refine Ev_aload_n dX2_befriend_15 rfl ?_
    refine Ev_iload_n dX2_befriend_16 rfl ?_
    refine Ev_callV (bc := 0) (b := 0) dX2_befriend_17 cv_X2_65 rfl (by rw [setN_off i (fun j hj => by have := (hC j (by omega)).2.1; omega)]; exact hN) (Nat.le_of_ble_eq_true rfl) (by omega) ?_
    refine c_X2_stretchAt hp7 hn9 hq (by rw [setN_off i (fun j hj => by have := (hC j (by omega)).2.1; omega)]; exact hN) (by rw [setN_off i (fun j hj => by have := (hC j (by omega)).2.1; omega)]; exact hA) hsa (j := i) (by omega) ?_
    refine Ev_astore_n dX2_befriend_20 rfl ?_
    refine Ev_aload_n dX2_befriend_21 rfl ?_
    refine Ev_ifnull dX2_befriend_22 ?_
    refine Ev_aload_n dX2_befriend_25 rfl ?_
    refine Ev_aload_n dX2_befriend_26 rfl ?_
    refine Ev_get dX2_befriend_27 fg_X2_25_2 (by rw [setN_off i (fun j hj => by have := (hC j (by omega)).2.1; omega)]; exact hN) rfl ?_
    refine Ev_callO (bc := 0) (b := 0) dX2_befriend_30 (co3_X2_68 (kc3 _)) rfl (by rw [setN_off i (fun j hj z => by have := (hC j (by omega)).2.2 i (by omega) z.symm; omega)]; exact (hC i (by omega)).1) (Nat.le_of_ble_eq_true rfl) (by omega) ?_
    refine c_share0 (j := i) hg (by omega) (by rw [setN_off i (fun j hj z => by have := (hC j (by omega)).2.2 i (by omega) z.symm; omega)]; exact (hC i (by omega)).1) ?_
    refine Ev_iinc (v := nI (i + 1)) dX2_befriend_33 rfl (nI_1 _) rfl ?_
    refine Ev_goto dX2_befriend_36 ?_
    refine Ev_loc (la2 := [some (.ref 10), some (.int p9), some (.int (nI (i + 1))), none]) ⟨rfl, ⟨rfl, ⟨rfl, trivial⟩⟩⟩ ?_
    exact ih (i + 1) (by omega)

set_option maxHeartbeats 4000000 in
set_option maxRecDepth 100000 in
theorem c_befriend0 {d : Nat} {S : aS} {Q : Option Value → aS → Prop} {pl n q : Nat} {du lw fr : Int32} (hp7 : pl ≤ 7) (hn9 : n ≤ 9) (hq : q ≤ 8) (hN : S[10]? = some (nt (nI pl) (nI n) du lw fr (nI q))) {sa : Nat → Option Nat} {ad : Nat → Nat} (hA : S[11]? = some (rA 4 9 sa)) (hsa : ∀ j, j < n → sa j = some (ad j)) {c : Nat → Int32} {mm : Nat} (hC : ∀ j, j < n → S[ad j]? = some (stz c mm j) ∧ 56 ≤ ad j ∧ ∀ i, i < n → ad i = ad j → i = j) (hg : GD pl n (tG c mm)) {x : Int32} (k : Q none (setN (S.set 10 (nt (nI pl) (nI n) du lw x (nI q))) ad (stc (tG c mm) 0 x.toInt) n)) : Mth mX2_befriend (d + 3) 0 [.ref 10, .int x] S Q := by
  refine Mth_of (by decide) rfl ?_
  refine Ev_aload_n dX2_befriend_0 rfl ?_
  refine Ev_iload_n dX2_befriend_1 rfl ?_
  refine Ev_put dX2_befriend_2 fr_X2_25_2 hN rfl rfl rfl ?_
  refine Ev_iconst (v := 0) dX2_befriend_5 (by decide) ?_
  refine Ev_istore_n dX2_befriend_6 rfl ?_
  exact l_befriend0 hp7 hn9 hq (gs hN) (gn (by decide) hA) hsa (fun j hj => ⟨gn (by have := (hC j hj).2.1; omega) (hC j hj).1, (hC j hj).2⟩) hg k n 0 (by omega)

def FrT (L : Nat) (S0 S : aS) : Prop := ∀ a, a ≠ 11 → a < L → S[a]? = S0[a]?
theorem FrT.at {L a : Nat} {S0 S : aS} {c : aE} (h : FrT L S0 S) (h0 : S0[a]? = some c) (h1 : a ≠ 11 ∧ a < L) : S[a]? = some c := (h a h1.1 h1.2).trans h0
/-- the first i stretches are made -/
def TK (c : Nat → Int32) (m L : Nat) (S0 S : aS) (i : Nat) : Prop := S.length = L + i ∧ FrT L S0 S ∧ (∃ sa : Nat → Option Nat, S[11]? = some (rA 4 9 sa) ∧ ∀ j, j < i → sa j = some (L + j)) ∧ ∀ j, j < i → S[L + j]? = some (stz c m j)
theorem TK.nx {c : Nat → Int32} {m L i : Nat} {S0 S : aS} {sa : Nat → Option Nat} (hi : i < 9) (hL : 11 < L) (h : TK c m L S0 S i) (h11 : S[11]? = some (rA 4 9 sa)) (hsa : ∀ j, j < i → sa j = some (L + j)) : TK c m L S0 ((S ++ [stz c m i]).set 11 (rA 4 9 (va_up sa i (some (L + i))))) (i + 1) := by
  obtain ⟨h1, h2, -, h4⟩ := h
  refine ⟨by simp [h1, Nat.add_assoc], fun a ha hl => ?_, ⟨_, gs (ga h11), fun j hj => ?_⟩, fun j hj => ?_⟩
  · rw [List.getElem?_set_ne (fun z => ha z.symm), List.getElem?_append_left (by omega)]
    exact h2 a ha hl
  · simp only [va_up]
    by_cases e : j = i
    · subst e; simp
    · simp [e]; exact hsa j (by omega)
  · by_cases e : j = i
    · subst e
      exact gn (by omega) (gl2 h1)
    · exact gn (by omega) (ga (h4 j (by omega)))

set_option maxHeartbeats 4000000 in
set_option maxRecDepth 100000 in
theorem l_take {d : Nat} {Q : Option Value → aS → Prop} {tx kk ii m L : Nat} {ln len : Int32} {f : Nat → Int32} {S0 : aS} (hT0 : S0[tx]? = some (.inr (8, [.ref (2 + 2 * kk), .int (nI ii), .int (nI m)]))) (hS0 : S0[2 + 2 * kk]? = some (.inr (5, [.ref (3 + 2 * kk), .int ln, .int len]))) (hc0 : S0[3 + 2 * kk]? = some (iA 60 f)) (hl : 0 ≤ len.toInt ∧ len.toInt ≤ 60) (hiz : (ii : Int) + m ≤ len.toInt) (hk : kk < 4) (htx : 55 < tx ∧ tx < L) {pl n q : Nat} {du lw fr : Int32} (hn9 : n ≤ 9) (hN0 : S0[10]? = some (nt (nI pl) (nI n) du lw fr (nI q))) (ho : ∀ y, y < 2 + 7 * n → okc (fun y => f (ii + y)) m y) (k : ∀ S, TK (fun y => f (ii + y)) m L S0 S n → Ev none mX2_takeOver (d + 5) 0 48 [some (.ref 10), some (.ref tx), none] [] S Q)  : ∀ (t i : Nat) (S : aS), i + t = n → TK (fun y => f (ii + y)) m L S0 S i → Ev none mX2_takeOver (d + 5) t 23 [some (.ref 10), some (.ref tx), some (.int (nI i))] [] S Q := by
  intro t
  induction t with
  | zero =>
    intro i S hi hTK
    have hi9 : i = n := by omega
    obtain ⟨h1, h2, ⟨sa, h11, hsa⟩, h4⟩ := id hTK
    have hT := h2.at hT0 (by omega)
    have hS := h2.at hS0 (by omega)
    have hc := h2.at hc0 (by omega)
    have hN := h2.at hN0 (by omega)
    refine Ev_iload_n dX2_takeOver_23 rfl ?_
    refine Ev_aload_n dX2_takeOver_24 rfl ?_
    refine Ev_get dX2_takeOver_25 fg_X2_45_2 hN rfl ?_
    refine Ev_icmp_ge dX2_takeOver_28 (fun _ => ?_) (fun c => absurd ((nle (by omega) (by omega)).mpr (by omega)) c)
    refine Ev_loc (la2 := [some (.ref 10), some (.ref tx), none]) ⟨rfl, rfl, trivial⟩ ?_
    rw [hi9] at hTK
    exact k S hTK
  | succ t ih =>
    intro i S hi hTK
    obtain ⟨h1, h2, ⟨sa, h11, hsa⟩, h4⟩ := id hTK
    have hT := h2.at hT0 (by omega)
    have hS := h2.at hS0 (by omega)
    have hc := h2.at hc0 (by omega)
    have hN := h2.at hN0 (by omega)
    refine Ev_iload_n dX2_takeOver_23 rfl ?_
    refine Ev_aload_n dX2_takeOver_24 rfl ?_
    refine Ev_get dX2_takeOver_25 fg_X2_45_2 hN rfl ?_
    refine Ev_icmp_ge dX2_takeOver_28 (fun c => absurd c (fun z => absurd ((nle (by omega) (by omega)).mp z) (by omega))) (fun _ => ?_)
    refine Ev_aload_n dX2_takeOver_31 rfl ?_
    refine Ev_get dX2_takeOver_32 fg_X2_11_2 hN rfl ?_
    refine Ev_iload_n dX2_takeOver_35 rfl ?_
    refine Ev_aload_n dX2_takeOver_36 rfl ?_
    refine Ev_iload_n dX2_takeOver_37 rfl ?_
    refine Ev_callV (bc := 1) (b := t) dX2_takeOver_38 cv_X2_48 rfl hT (Nat.le_of_ble_eq_true rfl) (by omega) ?_
    refine c_make (L := L + i) hT hS hc hl hiz (j := i) (by omega) (fun y hy => ho y (by omega)) h1 ?_
    refine Ev_aastoreN (j := i) dX2_takeOver_41 (ga h11) (gl2 h1) (as_4k _) (by omega) (by decide) ?_
    refine Ev_iinc (v := nI (i + 1)) dX2_takeOver_42 rfl (nI_1 _) rfl ?_
    refine Ev_goto dX2_takeOver_45 ?_
    exact ih (i + 1) _ (by omega) (TK.nx (by omega) (by omega) hTK h11 hsa)

set_option maxHeartbeats 4000000 in
set_option maxRecDepth 100000 in
theorem c_takeEnd {d : Nat} {Q : Option Value → aS → Prop} {tx kk ii m L : Nat} {ln len : Int32} {f : Nat → Int32} {S0 : aS} (hT0 : S0[tx]? = some (.inr (8, [.ref (2 + 2 * kk), .int (nI ii), .int (nI m)]))) (hS0 : S0[2 + 2 * kk]? = some (.inr (5, [.ref (3 + 2 * kk), .int ln, .int len]))) (hc0 : S0[3 + 2 * kk]? = some (iA 60 f)) (hl : 0 ≤ len.toInt ∧ len.toInt ≤ 60) (hiz : (ii : Int) + m ≤ len.toInt) (hk : kk < 4) (htx : 55 < tx ∧ tx < L) {S : aS} {pl n q : Nat} {du lw fr : Int32} (hp7 : pl ≤ 7) (hn9 : n ≤ 9) (hN0 : S0[10]? = some (nt (nI pl) (nI n) du lw fr (nI q))) (hg : GD pl n (tG (fun y => f (ii + y)) m)) (hTK : TK (fun y => f (ii + y)) m L S0 S n) (k : Q none (setN (S.set 10 (nt (nI pl) (nI n) 45 0 (-9) 0)) (fun j => L + j) (stc (tG (fun y => f (ii + y)) m) 0 (-9)) n)) : Ev none mX2_takeOver (d + 5) 0 48 [some (.ref 10), some (.ref tx), none] [] S Q := by
  obtain ⟨h1, h2, ⟨sa, h11, hsa⟩, h4⟩ := id hTK
  have hT := h2.at hT0 (by omega)
  have hS := h2.at hS0 (by omega)
  have hc := h2.at hc0 (by omega)
  have hN := h2.at hN0 (by omega)
  refine Ev_aload_n dX2_takeOver_48 rfl ?_
  refine Ev_bipush (v := 45) dX2_takeOver_49 (by decide) ?_
  refine Ev_put dX2_takeOver_51 fr_X2_52_2 hN rfl rfl rfl ?_
  refine Ev_aload_n dX2_takeOver_54 rfl ?_
  refine Ev_iconst (v := 0) dX2_takeOver_55 (by decide) ?_
  refine Ev_put dX2_takeOver_56 fr_X2_55_2 (gs hN) rfl rfl rfl ?_
  refine Ev_st gss ?_
  refine Ev_aload_n dX2_takeOver_59 rfl ?_
  refine Ev_iconst (v := 0) dX2_takeOver_60 (by decide) ?_
  refine Ev_put dX2_takeOver_61 fr_X2_58_2 (gs hN) rfl rfl rfl ?_
  refine Ev_st gss ?_
  refine Ev_aload_n dX2_takeOver_64 rfl ?_
  refine Ev_bipush (v := (-9)) dX2_takeOver_65 (by decide) ?_
  refine Ev_callV (bc := 0) (b := 0) dX2_takeOver_67 cv_X2_61 rfl (gs hN) (Nat.le_of_ble_eq_true rfl) (by omega) ?_
  refine c_befriend0 (q := 0) (c := (fun y => f (ii + y))) (mm := m) hp7 hn9 (Nat.zero_le _) (gs hN) (gn (by decide) h11) hsa (fun j hj => ⟨gn (by omega) (h4 j hj), by omega, fun i hi z => by omega⟩) hg ?_
  refine Ev_vret dX2_takeOver_70 rfl ?_
  rw [gss]
  exact k

set_option maxHeartbeats 4000000 in
set_option maxRecDepth 100000 in
theorem c_X2_takeOver {d : Nat} {Q : Option Value → aS → Prop} {tx kk ii m L : Nat} {ln len : Int32} {f : Nat → Int32} {S0 : aS} (hT0 : S0[tx]? = some (.inr (8, [.ref (2 + 2 * kk), .int (nI ii), .int (nI m)]))) (hS0 : S0[2 + 2 * kk]? = some (.inr (5, [.ref (3 + 2 * kk), .int ln, .int len]))) (hc0 : S0[3 + 2 * kk]? = some (iA 60 f)) (hl : 0 ≤ len.toInt ∧ len.toInt ≤ 60) (hiz : (ii : Int) + m ≤ len.toInt) (hk : kk < 4) (htx : 55 < tx ∧ tx < L) {pl0 n0 n q : Nat} {du lw fr : Int32} {sa0 : Nat → Option Nat} (hn9 : n ≤ 9) (hn1 : 1 ≤ n) (hmn : m = 2 + 7 * n) (hN0 : S0[10]? = some (nt (nI pl0) (nI n0) du lw fr (nI q))) (h110 : S0[11]? = some (rA 4 9 sa0)) (hlen : S0.length = L) (ho : ∀ y, y < m → okc (fun y => f (ii + y)) m y) (k : ∀ S9, TK (fun y => f (ii + y)) m L (S0.set 10 (nt (nI (tP (fun y => f (ii + y)) m)) (nI n) du lw fr (nI q))) S9 n → Q none (setN (S9.set 10 (nt (nI (tP (fun y => f (ii + y)) m)) (nI n) 45 0 (-9) 0)) (fun j => L + j) (stc (tG (fun y => f (ii + y)) m) 0 (-9)) n)) : Mth mX2_takeOver (d + 5) n [.ref 10, .ref tx] S0 Q := by
  have hg : GD (tP (fun y => f (ii + y)) m) n (tG (fun y => f (ii + y)) m) := tG_ok (fun y hy => ho y (by omega)) hn1 hn9
  have hp7 := hg.1
  refine Mth_of (by decide) rfl ?_
  refine Ev_aload_n dX2_takeOver_0 rfl ?_
  refine Ev_aload_n dX2_takeOver_1 rfl ?_
  refine Ev_callV (bc := 0) (b := n) dX2_takeOver_2 cv_X2_29 rfl hT0 (Nat.le_of_ble_eq_true rfl) (by omega) ?_
  refine c_X8_places hT0 hS0 hc0 hl hiz (ho 1 (by omega)) ?_
  refine Ev_put dX2_takeOver_5 fr_X2_35_2 hN0 rfl rfl rfl ?_
  refine Ev_aload_n dX2_takeOver_8 rfl ?_
  refine Ev_aload_n dX2_takeOver_9 rfl ?_
  refine Ev_callV (bc := 0) (b := n) dX2_takeOver_10 cv_X2_37 rfl (gn (by omega) hT0) (Nat.le_of_ble_eq_true rfl) (by omega) ?_
  refine c_X8_stretches (gn (by omega) hT0) (gn (by omega) hS0) (gn (by omega) hc0) hl hiz (by omega) ?_
  refine Ev_topi (y := nI n) (by rw [show (m - 2) / 7 = n by omega]) ?_
  refine Ev_bipush (v := 9) dX2_takeOver_13 (by decide) ?_
  refine Ev_minN (u := n) (v := 9) dX2_takeOver_15 wm_X2_39 (Nat.le_of_ble_eq_true rfl) (by omega) (by omega) ?_
  refine Ev_topi (y := nI n) (by rw [Nat.min_eq_left (by omega)]) ?_
  refine Ev_put dX2_takeOver_18 fr_X2_45_2 (gs hN0) rfl rfl rfl ?_
  refine Ev_st gss ?_
  refine Ev_iconst (v := 0) dX2_takeOver_21 (by decide) ?_
  refine Ev_istore_n dX2_takeOver_22 rfl ?_
  refine l_take (S0 := (S0.set 10 (nt (nI (tP (fun y => f (ii + y)) m)) (nI n) du lw fr (nI q)))) (gn (by omega) hT0) (gn (by omega) hS0) (gn (by omega) hc0) hl hiz hk htx hn9 (gs hN0) (fun y hy => ho y (by omega)) (fun S9 hTK => ?_) n 0 _ (by omega) ⟨(lnS hlen), fun _ _ _ => rfl, ⟨sa0, (gn (by decide) h110), fun j hj => absurd hj (Nat.not_lt_zero j)⟩, fun j hj => absurd hj (Nat.not_lt_zero j)⟩
  exact c_takeEnd (gn (by omega) hT0) (gn (by omega) hS0) (gn (by omega) hc0) hl hiz hk htx hp7 hn9 (gs hN0) hg hTK (k S9 hTK)

