theorem fr_set {S S1 : aS} {m b : Nat} {c : aE} (h : ∀ a, a < m → S1[a]? = S[a]?) (hb : m ≤ b) : ∀ a, a < m → (S1.set b c)[a]? = S[a]? := fun a ha => by
  rw [List.getElem?_set_ne (by omega)]; exact h a ha
theorem fr_app {S S1 T : aS} {m N : Nat} (h : ∀ a, a < m → S1[a]? = S[a]?) (hl : S1.length = N) (hm : m ≤ N) : ∀ a, a < m → (S1 ++ T)[a]? = S[a]? := fun a ha => by
  rw [List.getElem?_append_left (by omega)]; exact h a ha
theorem fr_0 {S : aS} {m : Nat} : ∀ a, a < m → S[a]? = S[a]? := fun _ _ => rfl

set_option maxHeartbeats 4000000 in
set_option maxRecDepth 100000 in
theorem c_X5_init {d : Nat} {S : aS} {Q : Option Value → aS → Prop} {a l : Nat} (hS : S[a]? = some (.inr (5, [.null, .int 0, .int 0]))) (hlen : S.length = l) (k : Q none ((S ++ [iA 60 (fun _ => 0)]).set a (.inr (5, [.ref (l + 0), .int (-1), .int 0])))) : Mth mX5_init (d + 1) 1 [.ref a] S Q := by
  refine Mth_of (by decide) rfl ?_
  refine Ev_aload_n dX5_init_0 rfl ?_
  refine Ev_objInit dX5_init_1 wl_X5_3 (Nat.le_of_ble_eq_true rfl) ?_
  refine Ev_aload_n dX5_init_4 rfl ?_
  refine Ev_bipush (v := 60) dX5_init_5 (by decide) ?_
  refine Ev_newarr_int (b := 0) (N := 60) dX5_init_7 wl_arr_int (by decide) (by decide) (by decide) ?_
  refine Ev_ref (j := l + 0) hlen ?_
  refine Ev_putF dX5_init_9 fr_X5_9_5 rfl (ga hS) rfl rfl rfl ?_
  refine Ev_aload_n dX5_init_12 rfl ?_
  refine Ev_iconst (v := (-1)) dX5_init_13 (by decide) ?_
  refine Ev_put dX5_init_14 fr_X5_15_5 (gs (ga hS)) rfl rfl rfl ?_
  refine Ev_st gss ?_
  refine Ev_aload_n dX5_init_17 rfl ?_
  refine Ev_iconst (v := 0) dX5_init_18 (by decide) ?_
  refine Ev_put dX5_init_19 fr_X5_19_5 (gs (ga hS)) rfl rfl rfl ?_
  refine Ev_st gss ?_
  refine Ev_vret dX5_init_22 rfl ?_
  exact k

set_option maxHeartbeats 4000000 in
set_option maxRecDepth 100000 in
theorem c_X10_init {d : Nat} {S : aS} {Q : Option Value → aS → Prop} {a : Nat} (k : Q none S) : Mth mX10_init (d + 1) 0 [.ref a] S Q := by
  refine Mth_of (by decide) rfl ?_
  refine Ev_aload_n dX10_init_0 rfl ?_
  refine Ev_objInit dX10_init_1 wl_X10_3 (Nat.le_of_ble_eq_true rfl) ?_
  refine Ev_vret dX10_init_4 rfl ?_
  exact k

set_option maxHeartbeats 4000000 in
set_option maxRecDepth 100000 in
theorem c_X9_init {d : Nat} {S : aS} {Q : Option Value → aS → Prop} {a : Nat} (hS : S[a]? = some (.inr (9, [.int 0]))) (k : Q none (S.set a (.inr (9, [.int 0])))) : Mth mX9_init (d + 1) 0 [.ref a] S Q := by
  refine Mth_of (by decide) rfl ?_
  refine Ev_aload_n dX9_init_0 rfl ?_
  refine Ev_objInit dX9_init_1 wl_X9_1 (Nat.le_of_ble_eq_true rfl) ?_
  refine Ev_aload_n dX9_init_4 rfl ?_
  refine Ev_iconst (v := 0) dX9_init_5 (by decide) ?_
  refine Ev_put dX9_init_6 fr_X9_7_9 hS rfl rfl rfl ?_
  refine Ev_vret dX9_init_9 rfl ?_
  exact k

set_option maxHeartbeats 4000000 in
set_option maxRecDepth 100000 in
theorem c_X3_init {d : Nat} {S : aS} {Q : Option Value → aS → Prop} (hS : S[25]? = some (.inr (3, [.null]))) (hlen : S.length = 26) (k : Q none ((S ++ [iA 7 (fun _ => 0)]).set 25 (.inr (3, [.ref 26])))) : Mth mX3_init (d + 1) 1 [.ref 25] S Q := by
  refine Mth_of (by decide) rfl ?_
  refine Ev_aload_n dX3_init_0 rfl ?_
  refine Ev_objInit dX3_init_1 wl_X3_3 (Nat.le_of_ble_eq_true rfl) ?_
  refine Ev_aload_n dX3_init_4 rfl ?_
  refine Ev_bipush (v := 7) dX3_init_5 (by decide) ?_
  refine Ev_newarr_int (b := 0) (N := 7) dX3_init_7 wl_arr_int (by decide) (by decide) (by decide) ?_
  refine Ev_ref (j := 26) hlen ?_
  refine Ev_putF dX3_init_9 fr_X3_9_3 rfl (ga hS) rfl rfl rfl ?_
  refine Ev_vret dX3_init_12 rfl ?_
  exact k

set_option maxHeartbeats 4000000 in
set_option maxRecDepth 100000 in
theorem c_X0_init {d : Nat} {S : aS} {Q : Option Value → aS → Prop} (hS : S[27]? = some (.inr (0, [.null, .null]))) (hlen : S.length = 28) (k : ∀ S2, S2.length = 30 → (∀ a, a < 27 → S2[a]? = S[a]?) → S2[27]? = some (.inr (0, [.ref 28, .ref 29])) → S2[28]? = some (lA 7 (fun _ => 0)) → S2[29]? = some (lA 7 (fun _ => 0)) → Q none S2) : Mth mX0_init (d + 1) 2 [.ref 27] S Q := by
  refine Mth_of (by decide) rfl ?_
  refine Ev_aload_n dX0_init_0 rfl ?_
  refine Ev_objInit dX0_init_1 wl_X0_3 (Nat.le_of_ble_eq_true rfl) ?_
  refine Ev_aload_n dX0_init_4 rfl ?_
  refine Ev_bipush (v := 7) dX0_init_5 (by decide) ?_
  refine Ev_newarr_long (b := 1) (N := 7) dX0_init_7 wl_arr_long (by decide) (by decide) (by decide) ?_
  refine Ev_ref (j := 28) hlen ?_
  refine Ev_putF dX0_init_9 fr_X0_9_0 rfl (ga hS) rfl rfl rfl ?_
  refine Ev_aload_n dX0_init_12 rfl ?_
  refine Ev_bipush (v := 7) dX0_init_13 (by decide) ?_
  refine Ev_newarr_long (b := 0) (N := 7) dX0_init_15 wl_arr_long (by decide) (by decide) (by decide) ?_
  refine Ev_ref (j := 29) (lnS (ln1 hlen)) ?_
  refine Ev_putF dX0_init_17 fr_X0_15_0 rfl (ga (gs (ga hS))) rfl rfl rfl ?_
  refine Ev_vret dX0_init_20 rfl ?_
  exact k _ (lnS (ln1 (lnS (ln1 hlen)))) (fr_set (fr_app (fr_set (fr_app fr_0 hlen (by decide)) (by decide)) (lnS (ln1 hlen)) (by decide)) (by decide)) (gs (ga (gs (ga hS)))) (gn (by decide) (ga (gn (by decide) (gl2 hlen)))) (gn (by decide) (gl2 (lnS (ln1 hlen))))

set_option maxHeartbeats 4000000 in
set_option maxRecDepth 100000 in
theorem c_X2_init {d : Nat} {S : aS} {Q : Option Value → aS → Prop} (hS : S[10]? = some (.inr (2, [.null, .null, .null, .int 0, .int 0, .int 0, .int 0, .int 0, .int 0]))) (hlen : S.length = 11) (k : ∀ S2, S2.length = 14 → (∀ a, a < 10 → S2[a]? = S[a]?) → S2[10]? = some (nt 0 0 0 0 (-9) 0) → S2[11]? = some (rA 4 9 (fun _ => none)) → S2[12]? = some (iA 8 (fun _ => 0)) → S2[13]? = some (zA 8 (fun _ => 0)) → Q none S2) : Mth mX2_init (d + 1) 3 [.ref 10] S Q := by
  refine Mth_of (by decide) rfl ?_
  refine Ev_aload_n dX2_init_0 rfl ?_
  refine Ev_objInit dX2_init_1 wl_X2_3 (Nat.le_of_ble_eq_true rfl) ?_
  refine Ev_aload_n dX2_init_4 rfl ?_
  refine Ev_bipush (v := 9) dX2_init_5 (by decide) ?_
  refine Ev_anewarr (b := 2) (N := 9) (t := 4) dX2_init_7 wl_X2_9 (by decide) (fun _ => rfl) (by decide) (by decide) (by decide) ?_
  refine Ev_ref (j := 11) hlen ?_
  refine Ev_putF dX2_init_10 fr_X2_11_2 rfl (ga hS) rfl rfl rfl ?_
  refine Ev_aload_n dX2_init_13 rfl ?_
  refine Ev_bipush (v := 8) dX2_init_14 (by decide) ?_
  refine Ev_newarr_int (b := 1) (N := 8) dX2_init_16 wl_arr_int (by decide) (by decide) (by decide) ?_
  refine Ev_ref (j := 12) (lnS (ln1 hlen)) ?_
  refine Ev_putF dX2_init_18 fr_X2_17_2 rfl (ga (gs (ga hS))) rfl rfl rfl ?_
  refine Ev_aload_n dX2_init_21 rfl ?_
  refine Ev_bipush (v := 8) dX2_init_22 (by decide) ?_
  refine Ev_newarr_bool (b := 0) (N := 8) dX2_init_24 wl_arr_boolean (by decide) (by decide) (by decide) ?_
  refine Ev_ref (j := 13) (lnS (ln1 (lnS (ln1 hlen)))) ?_
  refine Ev_putF dX2_init_26 fr_X2_21_2 rfl (ga (gs (ga (gs (ga hS))))) rfl rfl rfl ?_
  refine Ev_aload_n dX2_init_29 rfl ?_
  refine Ev_bipush (v := (-9)) dX2_init_30 (by decide) ?_
  refine Ev_put dX2_init_32 fr_X2_25_2 (gs (ga (gs (ga (gs (ga hS)))))) rfl rfl rfl ?_
  refine Ev_st gss ?_
  refine Ev_vret dX2_init_35 rfl ?_
  exact k _ (lnS (ln1 (lnS (ln1 (lnS (ln1 hlen)))))) (fr_set (fr_app (fr_set (fr_app (fr_set (fr_app fr_0 hlen (by decide)) (by decide)) (lnS (ln1 hlen)) (by decide)) (by decide)) (lnS (ln1 (lnS (ln1 hlen)))) (by decide)) (by decide)) (gs (ga (gs (ga (gs (ga hS)))))) (gn (by decide) (ga (gn (by decide) (ga (gn (by decide) (gl2 hlen)))))) (gn (by decide) (ga (gn (by decide) (gl2 (lnS (ln1 hlen)))))) (gn (by decide) (gl2 (lnS (ln1 (lnS (ln1 hlen))))))

set_option maxHeartbeats 4000000 in
set_option maxRecDepth 100000 in
theorem c_X4_init {d : Nat} {S : aS} {Q : Option Value → aS → Prop} (hS : S[15]? = some (.inr (4, [.null, .null, .null, .int 0, .int 0, .int 0, .null, .int 0, .int 0, .int 0, .int 0, .int 0, .int 0]))) (hlen : S.length = 16) (k : ∀ S2, S2.length = 25 → (∀ a, a < 15 → S2[a]? = S[a]?) → S2[15]? = some (.inr (4, [.ref 16, .ref 23, .ref 24, .int 0, .int 0, .int 0, .null, .int 0, .int 0, .int 0, .int 0, .int 0, .int 0])) → ∀ fa : Nat → Option Nat, S2[16]? = some (rA 5 6 fa) → (∀ k, k < 6 → fa k = some (17 + k)) → S2[17]? = some (wkc 0 0 0 0 0 0) → S2[18]? = some (wkc 0 0 0 0 0 0) → S2[19]? = some (wkc 0 0 0 0 0 0) → S2[20]? = some (wkc 0 0 0 0 0 0) → S2[21]? = some (wkc 0 0 0 0 0 0) → S2[22]? = some (wkc 0 0 0 0 0 0) → S2[23]? = some (iA 5 (fun _ => 0)) → S2[24]? = some (iA 5 (fun _ => 0)) → Q none S2) : Mth mX4_init (d + 2) 9 [.ref 15] S Q := by
  refine Mth_of (by decide) rfl ?_
  refine Ev_aload_n dX4_init_0 rfl ?_
  refine Ev_objInit dX4_init_1 wl_X4_3 (Nat.le_of_ble_eq_true rfl) ?_
  refine Ev_aload_n dX4_init_4 rfl ?_
  refine Ev_bipush (v := 6) dX4_init_5 (by decide) ?_
  refine Ev_anewarr (b := 8) (N := 6) (t := 5) dX4_init_7 wl_X4_9 (by decide) (fun _ => rfl) (by decide) (by decide) (by decide) ?_
  refine Ev_ref (j := 16) hlen ?_
  refine Ev_putF dX4_init_10 fr_X4_11_4 rfl (ga hS) rfl rfl rfl ?_
  refine Ev_iconst (v := 0) dX4_init_13 (by decide) ?_
  refine Ev_istore_n dX4_init_14 rfl ?_
  refine Ev_iload_n dX4_init_15 rfl ?_
  refine Ev_iconst (v := 5) dX4_init_16 (by decide) ?_
  refine Ev_icmp_gt dX4_init_17 (fun c => absurd c (by decide)) (fun _ => ?_)
  refine Ev_aload_n dX4_init_20 rfl ?_
  refine Ev_get dX4_init_21 fg_X4_11_4 (gs (ga hS)) rfl ?_
  refine Ev_iload_n dX4_init_24 rfl ?_
  refine Ev_new (b := 7) dX4_init_25 nr_X4_9 ?_
  refine Ev_ref (j := 17) (lnS (ln1 hlen)) ?_
  refine Ev_dup dX4_init_28 rfl ?_
  refine Ev_callI (bc := 0) (b := 7) dX4_init_29 ci_X4_17 rfl (Nat.le_of_ble_eq_true rfl) (by omega) ?_
  refine c_X10_init ?_
  refine Ev_aastoreN (j := 0) dX4_init_32 (ga (gn (by decide) (gl2 hlen))) (gl2 (lnS (ln1 hlen))) as_5_10 (by omega) (by decide) ?_
  refine Ev_iinc (v := 1) dX4_init_33 rfl (by decide) rfl ?_
  refine Ev_goto dX4_init_36 ?_
  refine Ev_iload_n dX4_init_15 rfl ?_
  refine Ev_iconst (v := 5) dX4_init_16 (by decide) ?_
  refine Ev_icmp_gt dX4_init_17 (fun c => absurd c (by decide)) (fun _ => ?_)
  refine Ev_aload_n dX4_init_20 rfl ?_
  refine Ev_get dX4_init_21 fg_X4_11_4 (gn (by decide) (ga (gs (ga hS)))) rfl ?_
  refine Ev_iload_n dX4_init_24 rfl ?_
  refine Ev_new (b := 6) dX4_init_25 nr_X4_9 ?_
  refine Ev_ref (j := 18) (lnS (ln1 (lnS (ln1 hlen)))) ?_
  refine Ev_dup dX4_init_28 rfl ?_
  refine Ev_callI (bc := 0) (b := 6) dX4_init_29 ci_X4_17 rfl (Nat.le_of_ble_eq_true rfl) (by omega) ?_
  refine c_X10_init ?_
  refine Ev_aastoreN (j := 1) dX4_init_32 (ga (gs (ga (gn (by decide) (gl2 hlen))))) (gl2 (lnS (ln1 (lnS (ln1 hlen))))) as_5_10 (by omega) (by decide) ?_
  refine Ev_iinc (v := 2) dX4_init_33 rfl (by decide) rfl ?_
  refine Ev_goto dX4_init_36 ?_
  refine Ev_iload_n dX4_init_15 rfl ?_
  refine Ev_iconst (v := 5) dX4_init_16 (by decide) ?_
  refine Ev_icmp_gt dX4_init_17 (fun c => absurd c (by decide)) (fun _ => ?_)
  refine Ev_aload_n dX4_init_20 rfl ?_
  refine Ev_get dX4_init_21 fg_X4_11_4 (gn (by decide) (ga (gn (by decide) (ga (gs (ga hS)))))) rfl ?_
  refine Ev_iload_n dX4_init_24 rfl ?_
  refine Ev_new (b := 5) dX4_init_25 nr_X4_9 ?_
  refine Ev_ref (j := 19) (lnS (ln1 (lnS (ln1 (lnS (ln1 hlen)))))) ?_
  refine Ev_dup dX4_init_28 rfl ?_
  refine Ev_callI (bc := 0) (b := 5) dX4_init_29 ci_X4_17 rfl (Nat.le_of_ble_eq_true rfl) (by omega) ?_
  refine c_X10_init ?_
  refine Ev_aastoreN (j := 2) dX4_init_32 (ga (gs (ga (gs (ga (gn (by decide) (gl2 hlen))))))) (gl2 (lnS (ln1 (lnS (ln1 (lnS (ln1 hlen))))))) as_5_10 (by omega) (by decide) ?_
  refine Ev_iinc (v := 3) dX4_init_33 rfl (by decide) rfl ?_
  refine Ev_goto dX4_init_36 ?_
  refine Ev_iload_n dX4_init_15 rfl ?_
  refine Ev_iconst (v := 5) dX4_init_16 (by decide) ?_
  refine Ev_icmp_gt dX4_init_17 (fun c => absurd c (by decide)) (fun _ => ?_)
  refine Ev_aload_n dX4_init_20 rfl ?_
  refine Ev_get dX4_init_21 fg_X4_11_4 (gn (by decide) (ga (gn (by decide) (ga (gn (by decide) (ga (gs (ga hS)))))))) rfl ?_
  refine Ev_iload_n dX4_init_24 rfl ?_
  refine Ev_new (b := 4) dX4_init_25 nr_X4_9 ?_
  refine Ev_ref (j := 20) (lnS (ln1 (lnS (ln1 (lnS (ln1 (lnS (ln1 hlen)))))))) ?_
  refine Ev_dup dX4_init_28 rfl ?_
  refine Ev_callI (bc := 0) (b := 4) dX4_init_29 ci_X4_17 rfl (Nat.le_of_ble_eq_true rfl) (by omega) ?_
  refine c_X10_init ?_
  refine Ev_aastoreN (j := 3) dX4_init_32 (ga (gs (ga (gs (ga (gs (ga (gn (by decide) (gl2 hlen))))))))) (gl2 (lnS (ln1 (lnS (ln1 (lnS (ln1 (lnS (ln1 hlen))))))))) as_5_10 (by omega) (by decide) ?_
  refine Ev_iinc (v := 4) dX4_init_33 rfl (by decide) rfl ?_
  refine Ev_goto dX4_init_36 ?_
  refine Ev_iload_n dX4_init_15 rfl ?_
  refine Ev_iconst (v := 5) dX4_init_16 (by decide) ?_
  refine Ev_icmp_gt dX4_init_17 (fun c => absurd c (by decide)) (fun _ => ?_)
  refine Ev_aload_n dX4_init_20 rfl ?_
  refine Ev_get dX4_init_21 fg_X4_11_4 (gn (by decide) (ga (gn (by decide) (ga (gn (by decide) (ga (gn (by decide) (ga (gs (ga hS)))))))))) rfl ?_
  refine Ev_iload_n dX4_init_24 rfl ?_
  refine Ev_new (b := 3) dX4_init_25 nr_X4_9 ?_
  refine Ev_ref (j := 21) (lnS (ln1 (lnS (ln1 (lnS (ln1 (lnS (ln1 (lnS (ln1 hlen)))))))))) ?_
  refine Ev_dup dX4_init_28 rfl ?_
  refine Ev_callI (bc := 0) (b := 3) dX4_init_29 ci_X4_17 rfl (Nat.le_of_ble_eq_true rfl) (by omega) ?_
  refine c_X10_init ?_
  refine Ev_aastoreN (j := 4) dX4_init_32 (ga (gs (ga (gs (ga (gs (ga (gs (ga (gn (by decide) (gl2 hlen))))))))))) (gl2 (lnS (ln1 (lnS (ln1 (lnS (ln1 (lnS (ln1 (lnS (ln1 hlen))))))))))) as_5_10 (by omega) (by decide) ?_
  refine Ev_iinc (v := 5) dX4_init_33 rfl (by decide) rfl ?_
  refine Ev_goto dX4_init_36 ?_
  refine Ev_iload_n dX4_init_15 rfl ?_
  refine Ev_iconst (v := 5) dX4_init_16 (by decide) ?_
  refine Ev_icmp_gt dX4_init_17 (fun c => absurd c (by decide)) (fun _ => ?_)
  refine Ev_aload_n dX4_init_20 rfl ?_
  refine Ev_get dX4_init_21 fg_X4_11_4 (gn (by decide) (ga (gn (by decide) (ga (gn (by decide) (ga (gn (by decide) (ga (gn (by decide) (ga (gs (ga hS)))))))))))) rfl ?_
  refine Ev_iload_n dX4_init_24 rfl ?_
  refine Ev_new (b := 2) dX4_init_25 nr_X4_9 ?_
  refine Ev_ref (j := 22) (lnS (ln1 (lnS (ln1 (lnS (ln1 (lnS (ln1 (lnS (ln1 (lnS (ln1 hlen)))))))))))) ?_
  refine Ev_dup dX4_init_28 rfl ?_
  refine Ev_callI (bc := 0) (b := 2) dX4_init_29 ci_X4_17 rfl (Nat.le_of_ble_eq_true rfl) (by omega) ?_
  refine c_X10_init ?_
  refine Ev_aastoreN (j := 5) dX4_init_32 (ga (gs (ga (gs (ga (gs (ga (gs (ga (gs (ga (gn (by decide) (gl2 hlen))))))))))))) (gl2 (lnS (ln1 (lnS (ln1 (lnS (ln1 (lnS (ln1 (lnS (ln1 (lnS (ln1 hlen))))))))))))) as_5_10 (by omega) (by decide) ?_
  refine Ev_iinc (v := 6) dX4_init_33 rfl (by decide) rfl ?_
  refine Ev_goto dX4_init_36 ?_
  refine Ev_iload_n dX4_init_15 rfl ?_
  refine Ev_iconst (v := 5) dX4_init_16 (by decide) ?_
  refine Ev_icmp_gt dX4_init_17 (fun _ => ?_) (fun c => absurd (by decide) c)
  refine Ev_aload_n dX4_init_39 rfl ?_
  refine Ev_iconst (v := 5) dX4_init_40 (by decide) ?_
  refine Ev_newarr_int (b := 1) (N := 5) dX4_init_41 wl_arr_int (by decide) (by decide) (by decide) ?_
  refine Ev_ref (j := 23) (lnS (ln1 (lnS (ln1 (lnS (ln1 (lnS (ln1 (lnS (ln1 (lnS (ln1 (lnS (ln1 hlen)))))))))))))) ?_
  refine Ev_putF dX4_init_43 fr_X4_18_4 rfl (ga (gn (by decide) (ga (gn (by decide) (ga (gn (by decide) (ga (gn (by decide) (ga (gn (by decide) (ga (gn (by decide) (ga (gs (ga hS))))))))))))))) rfl rfl rfl ?_
  refine Ev_aload_n dX4_init_46 rfl ?_
  refine Ev_iconst (v := 5) dX4_init_47 (by decide) ?_
  refine Ev_newarr_int (b := 0) (N := 5) dX4_init_48 wl_arr_int (by decide) (by decide) (by decide) ?_
  refine Ev_ref (j := 24) (lnS (ln1 (lnS (ln1 (lnS (ln1 (lnS (ln1 (lnS (ln1 (lnS (ln1 (lnS (ln1 (lnS (ln1 hlen)))))))))))))))) ?_
  refine Ev_putF dX4_init_50 fr_X4_22_4 rfl (ga (gs (ga (gn (by decide) (ga (gn (by decide) (ga (gn (by decide) (ga (gn (by decide) (ga (gn (by decide) (ga (gn (by decide) (ga (gs (ga hS))))))))))))))))) rfl rfl rfl ?_
  refine Ev_vret dX4_init_53 rfl ?_
  exact k _ (lnS (ln1 (lnS (ln1 (lnS (ln1 (lnS (ln1 (lnS (ln1 (lnS (ln1 (lnS (ln1 (lnS (ln1 (lnS (ln1 hlen)))))))))))))))))) (fr_set (fr_app (fr_set (fr_app (fr_set (fr_app (fr_set (fr_app (fr_set (fr_app (fr_set (fr_app (fr_set (fr_app (fr_set (fr_app (fr_set (fr_app fr_0 hlen (by decide)) (by decide)) (lnS (ln1 hlen)) (by decide)) (by decide)) (lnS (ln1 (lnS (ln1 hlen)))) (by decide)) (by decide)) (lnS (ln1 (lnS (ln1 (lnS (ln1 hlen)))))) (by decide)) (by decide)) (lnS (ln1 (lnS (ln1 (lnS (ln1 (lnS (ln1 hlen)))))))) (by decide)) (by decide)) (lnS (ln1 (lnS (ln1 (lnS (ln1 (lnS (ln1 (lnS (ln1 hlen)))))))))) (by decide)) (by decide)) (lnS (ln1 (lnS (ln1 (lnS (ln1 (lnS (ln1 (lnS (ln1 (lnS (ln1 hlen)))))))))))) (by decide)) (by decide)) (lnS (ln1 (lnS (ln1 (lnS (ln1 (lnS (ln1 (lnS (ln1 (lnS (ln1 (lnS (ln1 hlen)))))))))))))) (by decide)) (by decide)) (lnS (ln1 (lnS (ln1 (lnS (ln1 (lnS (ln1 (lnS (ln1 (lnS (ln1 (lnS (ln1 (lnS (ln1 hlen)))))))))))))))) (by decide)) (by decide)) (gs (ga (gs (ga (gn (by decide) (ga (gn (by decide) (ga (gn (by decide) (ga (gn (by decide) (ga (gn (by decide) (ga (gn (by decide) (ga (gs (ga hS)))))))))))))))))) _ (gn (by decide) (ga (gn (by decide) (ga (gs (ga (gs (ga (gs (ga (gs (ga (gs (ga (gs (ga (gn (by decide) (gl2 hlen)))))))))))))))))) (by decide) (gn (by decide) (ga (gn (by decide) (ga (gn (by decide) (ga (gn (by decide) (ga (gn (by decide) (ga (gn (by decide) (ga (gn (by decide) (ga (gn (by decide) (gl2 (lnS (ln1 hlen)))))))))))))))))) (gn (by decide) (ga (gn (by decide) (ga (gn (by decide) (ga (gn (by decide) (ga (gn (by decide) (ga (gn (by decide) (ga (gn (by decide) (gl2 (lnS (ln1 (lnS (ln1 hlen)))))))))))))))))) (gn (by decide) (ga (gn (by decide) (ga (gn (by decide) (ga (gn (by decide) (ga (gn (by decide) (ga (gn (by decide) (gl2 (lnS (ln1 (lnS (ln1 (lnS (ln1 hlen)))))))))))))))))) (gn (by decide) (ga (gn (by decide) (ga (gn (by decide) (ga (gn (by decide) (ga (gn (by decide) (gl2 (lnS (ln1 (lnS (ln1 (lnS (ln1 (lnS (ln1 hlen)))))))))))))))))) (gn (by decide) (ga (gn (by decide) (ga (gn (by decide) (ga (gn (by decide) (gl2 (lnS (ln1 (lnS (ln1 (lnS (ln1 (lnS (ln1 (lnS (ln1 hlen)))))))))))))))))) (gn (by decide) (ga (gn (by decide) (ga (gn (by decide) (gl2 (lnS (ln1 (lnS (ln1 (lnS (ln1 (lnS (ln1 (lnS (ln1 (lnS (ln1 hlen)))))))))))))))))) (gn (by decide) (ga (gn (by decide) (gl2 (lnS (ln1 (lnS (ln1 (lnS (ln1 (lnS (ln1 (lnS (ln1 (lnS (ln1 (lnS (ln1 hlen)))))))))))))))))) (gn (by decide) (gl2 (lnS (ln1 (lnS (ln1 (lnS (ln1 (lnS (ln1 (lnS (ln1 (lnS (ln1 (lnS (ln1 (lnS (ln1 hlen))))))))))))))))))

set_option maxHeartbeats 4000000 in
set_option maxRecDepth 100000 in
theorem c_X11_init {d : Nat} {S : aS} {Q : Option Value → aS → Prop} (hS : S[0]? = some (.inr (11, [.null, .null, .null, .null, .null, .null, .null, .int 0]))) (hlen : S.length = 1) (k : ∀ S2, S2.length = 31 → S2[0]? = some (co 0) → (∃ fa : Nat → Option Nat, S2[1]? = some (rA 3 4 fa) ∧ ∀ k, k < 4 → fa k = some (2 + 2 * k)) → S2[2]? = some (.inr (5, [.ref 3, .int (-1), .int 0])) → S2[3]? = some (iA 60 (fun _ => 0)) → S2[4]? = some (.inr (5, [.ref 5, .int (-1), .int 0])) → S2[5]? = some (iA 60 (fun _ => 0)) → S2[6]? = some (.inr (5, [.ref 7, .int (-1), .int 0])) → S2[7]? = some (iA 60 (fun _ => 0)) → S2[8]? = some (.inr (5, [.ref 9, .int (-1), .int 0])) → S2[9]? = some (iA 60 (fun _ => 0)) → S2[10]? = some (nt 0 0 0 0 (-9) 0) → S2[11]? = some (rA 4 9 (fun _ => none)) → S2[12]? = some (iA 8 (fun _ => 0)) → S2[13]? = some (zA 8 (fun _ => 0)) → S2[14]? = some (wkc 0 0 0 0 0 0) → S2[15]? = some (.inr (4, [.ref 16, .ref 23, .ref 24, .int 0, .int 0, .int 0, .null, .int 0, .int 0, .int 0, .int 0, .int 0, .int 0])) → (∃ fa : Nat → Option Nat, S2[16]? = some (rA 5 6 fa) ∧ ∀ k, k < 6 → fa k = some (17 + k)) → S2[17]? = some (wkc 0 0 0 0 0 0) → S2[18]? = some (wkc 0 0 0 0 0 0) → S2[19]? = some (wkc 0 0 0 0 0 0) → S2[20]? = some (wkc 0 0 0 0 0 0) → S2[21]? = some (wkc 0 0 0 0 0 0) → S2[22]? = some (wkc 0 0 0 0 0 0) → S2[23]? = some (iA 5 (fun _ => 0)) → S2[24]? = some (iA 5 (fun _ => 0)) → S2[25]? = some (.inr (3, [.ref 26])) → S2[26]? = some (iA 7 (fun _ => 0)) → S2[27]? = some (.inr (0, [.ref 28, .ref 29])) → S2[28]? = some (lA 7 (fun _ => 0)) → S2[29]? = some (lA 7 (fun _ => 0)) → S2[30]? = some (.inr (9, [.int 0])) → Q none S2) : Mth mX11_init (d + 4) 30 [.ref 0] S Q := by
  refine Mth_of (by decide) rfl ?_
  refine Ev_aload_n dX11_init_0 rfl ?_
  refine Ev_objInit dX11_init_1 wl_X11_3 (Nat.le_of_ble_eq_true rfl) ?_
  refine Ev_aload_n dX11_init_4 rfl ?_
  refine Ev_iconst (v := 4) dX11_init_5 (by decide) ?_
  refine Ev_anewarr (b := 29) (N := 4) (t := 3) dX11_init_6 wl_X11_11 (by decide) (fun _ => rfl) (by decide) (by decide) (by decide) ?_
  refine Ev_ref (j := 1) hlen ?_
  refine Ev_putF dX11_init_9 fr_X11_13_11 rfl (ga hS) rfl rfl rfl ?_
  refine Ev_iconst (v := 0) dX11_init_12 (by decide) ?_
  refine Ev_istore_n dX11_init_13 rfl ?_
  refine Ev_iload_n dX11_init_14 rfl ?_
  refine Ev_iconst (v := 4) dX11_init_15 (by decide) ?_
  refine Ev_icmp_ge dX11_init_16 (fun c => absurd c (by decide)) (fun _ => ?_)
  refine Ev_aload_n dX11_init_19 rfl ?_
  refine Ev_get dX11_init_20 fg_X11_13_11 (gs (ga hS)) rfl ?_
  refine Ev_iload_n dX11_init_23 rfl ?_
  refine Ev_new (b := 28) dX11_init_24 nr_X11_11 ?_
  refine Ev_ref (j := 2) (lnS (ln1 hlen)) ?_
  refine Ev_dup dX11_init_27 rfl ?_
  refine Ev_callI (bc := 1) (b := 27) dX11_init_28 ci_X11_17 rfl (Nat.le_of_ble_eq_true rfl) (by omega) ?_
  refine c_X5_init (gl2 (lnS (ln1 hlen))) (ln1 (lnS (ln1 hlen))) ?_
  refine Ev_aastoreN (j := 0) dX11_init_31 (gn (by decide) (ga (ga (gn (by decide) (gl2 hlen))))) (gs (ga (gl2 (lnS (ln1 hlen))))) as_3_5 (by omega) (by decide) ?_
  refine Ev_iinc (v := 1) dX11_init_32 rfl (by decide) rfl ?_
  refine Ev_goto dX11_init_35 ?_
  refine Ev_iload_n dX11_init_14 rfl ?_
  refine Ev_iconst (v := 4) dX11_init_15 (by decide) ?_
  refine Ev_icmp_ge dX11_init_16 (fun c => absurd c (by decide)) (fun _ => ?_)
  refine Ev_aload_n dX11_init_19 rfl ?_
  refine Ev_get dX11_init_20 fg_X11_13_11 (gn (by decide) (gn (by decide) (ga (ga (gs (ga hS)))))) rfl ?_
  refine Ev_iload_n dX11_init_23 rfl ?_
  refine Ev_new (b := 26) dX11_init_24 nr_X11_11 ?_
  refine Ev_ref (j := 4) (lnS (lnS (ln1 (ln1 (lnS (ln1 hlen)))))) ?_
  refine Ev_dup dX11_init_27 rfl ?_
  refine Ev_callI (bc := 1) (b := 25) dX11_init_28 ci_X11_17 rfl (Nat.le_of_ble_eq_true rfl) (by omega) ?_
  refine c_X5_init (gl2 (lnS (lnS (ln1 (ln1 (lnS (ln1 hlen))))))) (ln1 (lnS (lnS (ln1 (ln1 (lnS (ln1 hlen))))))) ?_
  refine Ev_aastoreN (j := 1) dX11_init_31 (gn (by decide) (ga (ga (gs (gn (by decide) (ga (ga (gn (by decide) (gl2 hlen))))))))) (gs (ga (gl2 (lnS (lnS (ln1 (ln1 (lnS (ln1 hlen))))))))) as_3_5 (by omega) (by decide) ?_
  refine Ev_iinc (v := 2) dX11_init_32 rfl (by decide) rfl ?_
  refine Ev_goto dX11_init_35 ?_
  refine Ev_iload_n dX11_init_14 rfl ?_
  refine Ev_iconst (v := 4) dX11_init_15 (by decide) ?_
  refine Ev_icmp_ge dX11_init_16 (fun c => absurd c (by decide)) (fun _ => ?_)
  refine Ev_aload_n dX11_init_19 rfl ?_
  refine Ev_get dX11_init_20 fg_X11_13_11 (gn (by decide) (gn (by decide) (ga (ga (gn (by decide) (gn (by decide) (ga (ga (gs (ga hS)))))))))) rfl ?_
  refine Ev_iload_n dX11_init_23 rfl ?_
  refine Ev_new (b := 24) dX11_init_24 nr_X11_11 ?_
  refine Ev_ref (j := 6) (lnS (lnS (ln1 (ln1 (lnS (lnS (ln1 (ln1 (lnS (ln1 hlen)))))))))) ?_
  refine Ev_dup dX11_init_27 rfl ?_
  refine Ev_callI (bc := 1) (b := 23) dX11_init_28 ci_X11_17 rfl (Nat.le_of_ble_eq_true rfl) (by omega) ?_
  refine c_X5_init (gl2 (lnS (lnS (ln1 (ln1 (lnS (lnS (ln1 (ln1 (lnS (ln1 hlen))))))))))) (ln1 (lnS (lnS (ln1 (ln1 (lnS (lnS (ln1 (ln1 (lnS (ln1 hlen))))))))))) ?_
  refine Ev_aastoreN (j := 2) dX11_init_31 (gn (by decide) (ga (ga (gs (gn (by decide) (ga (ga (gs (gn (by decide) (ga (ga (gn (by decide) (gl2 hlen))))))))))))) (gs (ga (gl2 (lnS (lnS (ln1 (ln1 (lnS (lnS (ln1 (ln1 (lnS (ln1 hlen))))))))))))) as_3_5 (by omega) (by decide) ?_
  refine Ev_iinc (v := 3) dX11_init_32 rfl (by decide) rfl ?_
  refine Ev_goto dX11_init_35 ?_
  refine Ev_iload_n dX11_init_14 rfl ?_
  refine Ev_iconst (v := 4) dX11_init_15 (by decide) ?_
  refine Ev_icmp_ge dX11_init_16 (fun c => absurd c (by decide)) (fun _ => ?_)
  refine Ev_aload_n dX11_init_19 rfl ?_
  refine Ev_get dX11_init_20 fg_X11_13_11 (gn (by decide) (gn (by decide) (ga (ga (gn (by decide) (gn (by decide) (ga (ga (gn (by decide) (gn (by decide) (ga (ga (gs (ga hS)))))))))))))) rfl ?_
  refine Ev_iload_n dX11_init_23 rfl ?_
  refine Ev_new (b := 22) dX11_init_24 nr_X11_11 ?_
  refine Ev_ref (j := 8) (lnS (lnS (ln1 (ln1 (lnS (lnS (ln1 (ln1 (lnS (lnS (ln1 (ln1 (lnS (ln1 hlen)))))))))))))) ?_
  refine Ev_dup dX11_init_27 rfl ?_
  refine Ev_callI (bc := 1) (b := 21) dX11_init_28 ci_X11_17 rfl (Nat.le_of_ble_eq_true rfl) (by omega) ?_
  refine c_X5_init (gl2 (lnS (lnS (ln1 (ln1 (lnS (lnS (ln1 (ln1 (lnS (lnS (ln1 (ln1 (lnS (ln1 hlen))))))))))))))) (ln1 (lnS (lnS (ln1 (ln1 (lnS (lnS (ln1 (ln1 (lnS (lnS (ln1 (ln1 (lnS (ln1 hlen))))))))))))))) ?_
  refine Ev_aastoreN (j := 3) dX11_init_31 (gn (by decide) (ga (ga (gs (gn (by decide) (ga (ga (gs (gn (by decide) (ga (ga (gs (gn (by decide) (ga (ga (gn (by decide) (gl2 hlen))))))))))))))))) (gs (ga (gl2 (lnS (lnS (ln1 (ln1 (lnS (lnS (ln1 (ln1 (lnS (lnS (ln1 (ln1 (lnS (ln1 hlen))))))))))))))))) as_3_5 (by omega) (by decide) ?_
  refine Ev_iinc (v := 4) dX11_init_32 rfl (by decide) rfl ?_
  refine Ev_goto dX11_init_35 ?_
  refine Ev_iload_n dX11_init_14 rfl ?_
  refine Ev_iconst (v := 4) dX11_init_15 (by decide) ?_
  refine Ev_icmp_ge dX11_init_16 (fun _ => ?_) (fun c => absurd (by decide) c)
  refine Ev_aload_n dX11_init_38 rfl ?_
  refine Ev_new (b := 20) dX11_init_39 nr_X11_18 ?_
  refine Ev_ref (j := 10) (lnS (lnS (ln1 (ln1 (lnS (lnS (ln1 (ln1 (lnS (lnS (ln1 (ln1 (lnS (lnS (ln1 (ln1 (lnS (ln1 hlen)))))))))))))))))) ?_
  refine Ev_dup dX11_init_42 rfl ?_
  refine Ev_callI (bc := 3) (b := 17) dX11_init_43 ci_X11_20 rfl (Nat.le_of_ble_eq_true rfl) (by omega) ?_
  refine c_X2_init (gl2 (lnS (lnS (ln1 (ln1 (lnS (lnS (ln1 (ln1 (lnS (lnS (ln1 (ln1 (lnS (lnS (ln1 (ln1 (lnS (ln1 hlen))))))))))))))))))) (ln1 (lnS (lnS (ln1 (ln1 (lnS (lnS (ln1 (ln1 (lnS (lnS (ln1 (ln1 (lnS (lnS (ln1 (ln1 (lnS (ln1 hlen))))))))))))))))))) (fun S5 hl5 fr5 g1_10 g2_11 g3_12 g4_13 => ?_)
  refine Ev_putF dX11_init_46 fr_X11_21_11 rfl ((fr5 0 (by decide)).trans (ga (gn (by decide) (gn (by decide) (ga (ga (gn (by decide) (gn (by decide) (ga (ga (gn (by decide) (gn (by decide) (ga (ga (gn (by decide) (gn (by decide) (ga (ga (gs (ga hS)))))))))))))))))))) rfl rfl rfl ?_
  refine Ev_aload_n dX11_init_49 rfl ?_
  refine Ev_new (b := 16) dX11_init_50 nr_X11_25 ?_
  refine Ev_ref (j := 14) (lnS hl5) ?_
  refine Ev_dup dX11_init_53 rfl ?_
  refine Ev_callI (bc := 0) (b := 16) dX11_init_54 ci_X11_27 rfl (Nat.le_of_ble_eq_true rfl) (by omega) ?_
  refine c_X10_init ?_
  refine Ev_putF dX11_init_57 fr_X11_28_11 rfl (ga (gs ((fr5 0 (by decide)).trans (ga (gn (by decide) (gn (by decide) (ga (ga (gn (by decide) (gn (by decide) (ga (ga (gn (by decide) (gn (by decide) (ga (ga (gn (by decide) (gn (by decide) (ga (ga (gs (ga hS)))))))))))))))))))))) rfl rfl rfl ?_
  refine Ev_aload_n dX11_init_60 rfl ?_
  refine Ev_new (b := 15) dX11_init_61 nr_X11_32 ?_
  refine Ev_ref (j := 15) (lnS (ln1 (lnS hl5))) ?_
  refine Ev_dup dX11_init_64 rfl ?_
  refine Ev_callI (bc := 9) (b := 6) dX11_init_65 ci_X11_34 rfl (Nat.le_of_ble_eq_true rfl) (by omega) ?_
  refine c_X4_init (gl2 (lnS (ln1 (lnS hl5)))) (ln1 (lnS (ln1 (lnS hl5)))) (fun S6 hl6 fr6 g15 fa6 g16 gfa g6_17 g6_18 g6_19 g6_20 g6_21 g6_22 g6_23 g6_24 => ?_)
  refine Ev_putF dX11_init_68 fr_X11_35_11 rfl ((fr6 0 (by decide)).trans (ga (gs (ga (gs ((fr5 0 (by decide)).trans (ga (gn (by decide) (gn (by decide) (ga (ga (gn (by decide) (gn (by decide) (ga (ga (gn (by decide) (gn (by decide) (ga (ga (gn (by decide) (gn (by decide) (ga (ga (gs (ga hS))))))))))))))))))))))))) rfl rfl rfl ?_
  refine Ev_aload_n dX11_init_71 rfl ?_
  refine Ev_new (b := 5) dX11_init_72 nr_X11_39 ?_
  refine Ev_ref (j := 25) (lnS hl6) ?_
  refine Ev_dup dX11_init_75 rfl ?_
  refine Ev_callI (bc := 1) (b := 4) dX11_init_76 ci_X11_41 rfl (Nat.le_of_ble_eq_true rfl) (by omega) ?_
  refine c_X3_init (gl2 (lnS hl6)) (ln1 (lnS hl6)) ?_
  refine Ev_putF dX11_init_79 fr_X11_42_11 rfl (gn (by decide) (ga (ga (gs ((fr6 0 (by decide)).trans (ga (gs (ga (gs ((fr5 0 (by decide)).trans (ga (gn (by decide) (gn (by decide) (ga (ga (gn (by decide) (gn (by decide) (ga (ga (gn (by decide) (gn (by decide) (ga (ga (gn (by decide) (gn (by decide) (ga (ga (gs (ga hS))))))))))))))))))))))))))))) rfl rfl rfl ?_
  refine Ev_aload_n dX11_init_82 rfl ?_
  refine Ev_new (b := 3) dX11_init_83 nr_X11_46 ?_
  refine Ev_ref (j := 27) (lnS (lnS (ln1 (ln1 (lnS hl6))))) ?_
  refine Ev_dup dX11_init_86 rfl ?_
  refine Ev_callI (bc := 2) (b := 1) dX11_init_87 ci_X11_48 rfl (Nat.le_of_ble_eq_true rfl) (by omega) ?_
  refine c_X0_init (gl2 (lnS (lnS (ln1 (ln1 (lnS hl6)))))) (ln1 (lnS (lnS (ln1 (ln1 (lnS hl6)))))) (fun S10 hl10 fr10 g7_27 g8_28 g9_29 => ?_)
  refine Ev_putF dX11_init_90 fr_X11_49_11 rfl ((fr10 0 (by decide)).trans (ga (gs (gn (by decide) (ga (ga (gs ((fr6 0 (by decide)).trans (ga (gs (ga (gs ((fr5 0 (by decide)).trans (ga (gn (by decide) (gn (by decide) (ga (ga (gn (by decide) (gn (by decide) (ga (ga (gn (by decide) (gn (by decide) (ga (ga (gn (by decide) (gn (by decide) (ga (ga (gs (ga hS)))))))))))))))))))))))))))))))) rfl rfl rfl ?_
  refine Ev_aload_n dX11_init_93 rfl ?_
  refine Ev_new (b := 0) dX11_init_94 nr_X11_53 ?_
  refine Ev_ref (j := 30) (lnS hl10) ?_
  refine Ev_dup dX11_init_97 rfl ?_
  refine Ev_callI (bc := 0) (b := 0) dX11_init_98 ci_X11_55 rfl (Nat.le_of_ble_eq_true rfl) (by omega) ?_
  refine c_X9_init (gl2 (lnS hl10)) ?_
  refine Ev_putF dX11_init_101 fr_X11_56_11 rfl (gn (by decide) (ga (gs ((fr10 0 (by decide)).trans (ga (gs (gn (by decide) (ga (ga (gs ((fr6 0 (by decide)).trans (ga (gs (ga (gs ((fr5 0 (by decide)).trans (ga (gn (by decide) (gn (by decide) (ga (ga (gn (by decide) (gn (by decide) (ga (ga (gn (by decide) (gn (by decide) (ga (ga (gn (by decide) (gn (by decide) (ga (ga (gs (ga hS))))))))))))))))))))))))))))))))))) rfl rfl rfl ?_
  refine Ev_aload_n dX11_init_104 rfl ?_
  refine Ev_iconst (v := 0) dX11_init_105 (by decide) ?_
  refine Ev_put dX11_init_106 fr_X11_60_11 (gs (gn (by decide) (ga (gs ((fr10 0 (by decide)).trans (ga (gs (gn (by decide) (ga (ga (gs ((fr6 0 (by decide)).trans (ga (gs (ga (gs ((fr5 0 (by decide)).trans (ga (gn (by decide) (gn (by decide) (ga (ga (gn (by decide) (gn (by decide) (ga (ga (gn (by decide) (gn (by decide) (ga (ga (gn (by decide) (gn (by decide) (ga (ga (gs (ga hS)))))))))))))))))))))))))))))))))))) rfl rfl rfl ?_
  refine Ev_st gss ?_
  refine Ev_vret dX11_init_109 rfl ?_
  exact k _ (lnS (lnS (ln1 (lnS hl10)))) (gs (gn (by decide) (ga (gs ((fr10 0 (by decide)).trans (ga (gs (gn (by decide) (ga (ga (gs ((fr6 0 (by decide)).trans (ga (gs (ga (gs ((fr5 0 (by decide)).trans (ga (gn (by decide) (gn (by decide) (ga (ga (gn (by decide) (gn (by decide) (ga (ga (gn (by decide) (gn (by decide) (ga (ga (gn (by decide) (gn (by decide) (ga (ga (gs (ga hS)))))))))))))))))))))))))))))))))))) ⟨_, (gn (by decide) (gn (by decide) (ga (gn (by decide) ((fr10 1 (by decide)).trans (ga (gn (by decide) (gn (by decide) (ga (ga (gn (by decide) ((fr6 1 (by decide)).trans (ga (gn (by decide) (ga (gn (by decide) ((fr5 1 (by decide)).trans (ga (gs (gn (by decide) (ga (ga (gs (gn (by decide) (ga (ga (gs (gn (by decide) (ga (ga (gs (gn (by decide) (ga (ga (gn (by decide) (gl2 hlen)))))))))))))))))))))))))))))))))))), by decide⟩ (gn (by decide) (gn (by decide) (ga (gn (by decide) ((fr10 2 (by decide)).trans (ga (gn (by decide) (gn (by decide) (ga (ga (gn (by decide) ((fr6 2 (by decide)).trans (ga (gn (by decide) (ga (gn (by decide) ((fr5 2 (by decide)).trans (ga (gn (by decide) (gn (by decide) (ga (ga (gn (by decide) (gn (by decide) (ga (ga (gn (by decide) (gn (by decide) (ga (ga (gn (by decide) (gs (ga (gl2 (lnS (ln1 hlen)))))))))))))))))))))))))))))))))))) (gn (by decide) (gn (by decide) (ga (gn (by decide) ((fr10 3 (by decide)).trans (ga (gn (by decide) (gn (by decide) (ga (ga (gn (by decide) ((fr6 3 (by decide)).trans (ga (gn (by decide) (ga (gn (by decide) ((fr5 3 (by decide)).trans (ga (gn (by decide) (gn (by decide) (ga (ga (gn (by decide) (gn (by decide) (ga (ga (gn (by decide) (gn (by decide) (ga (ga (gn (by decide) (gn (by decide) (gl2 (ln1 (lnS (ln1 hlen)))))))))))))))))))))))))))))))))))) (gn (by decide) (gn (by decide) (ga (gn (by decide) ((fr10 4 (by decide)).trans (ga (gn (by decide) (gn (by decide) (ga (ga (gn (by decide) ((fr6 4 (by decide)).trans (ga (gn (by decide) (ga (gn (by decide) ((fr5 4 (by decide)).trans (ga (gn (by decide) (gn (by decide) (ga (ga (gn (by decide) (gn (by decide) (ga (ga (gn (by decide) (gs (ga (gl2 (lnS (lnS (ln1 (ln1 (lnS (ln1 hlen)))))))))))))))))))))))))))))))))))) (gn (by decide) (gn (by decide) (ga (gn (by decide) ((fr10 5 (by decide)).trans (ga (gn (by decide) (gn (by decide) (ga (ga (gn (by decide) ((fr6 5 (by decide)).trans (ga (gn (by decide) (ga (gn (by decide) ((fr5 5 (by decide)).trans (ga (gn (by decide) (gn (by decide) (ga (ga (gn (by decide) (gn (by decide) (ga (ga (gn (by decide) (gn (by decide) (gl2 (ln1 (lnS (lnS (ln1 (ln1 (lnS (ln1 hlen)))))))))))))))))))))))))))))))))))) (gn (by decide) (gn (by decide) (ga (gn (by decide) ((fr10 6 (by decide)).trans (ga (gn (by decide) (gn (by decide) (ga (ga (gn (by decide) ((fr6 6 (by decide)).trans (ga (gn (by decide) (ga (gn (by decide) ((fr5 6 (by decide)).trans (ga (gn (by decide) (gn (by decide) (ga (ga (gn (by decide) (gs (ga (gl2 (lnS (lnS (ln1 (ln1 (lnS (lnS (ln1 (ln1 (lnS (ln1 hlen)))))))))))))))))))))))))))))))))))) (gn (by decide) (gn (by decide) (ga (gn (by decide) ((fr10 7 (by decide)).trans (ga (gn (by decide) (gn (by decide) (ga (ga (gn (by decide) ((fr6 7 (by decide)).trans (ga (gn (by decide) (ga (gn (by decide) ((fr5 7 (by decide)).trans (ga (gn (by decide) (gn (by decide) (ga (ga (gn (by decide) (gn (by decide) (gl2 (ln1 (lnS (lnS (ln1 (ln1 (lnS (lnS (ln1 (ln1 (lnS (ln1 hlen)))))))))))))))))))))))))))))))))))) (gn (by decide) (gn (by decide) (ga (gn (by decide) ((fr10 8 (by decide)).trans (ga (gn (by decide) (gn (by decide) (ga (ga (gn (by decide) ((fr6 8 (by decide)).trans (ga (gn (by decide) (ga (gn (by decide) ((fr5 8 (by decide)).trans (ga (gn (by decide) (gs (ga (gl2 (lnS (lnS (ln1 (ln1 (lnS (lnS (ln1 (ln1 (lnS (lnS (ln1 (ln1 (lnS (ln1 hlen)))))))))))))))))))))))))))))))))))) (gn (by decide) (gn (by decide) (ga (gn (by decide) ((fr10 9 (by decide)).trans (ga (gn (by decide) (gn (by decide) (ga (ga (gn (by decide) ((fr6 9 (by decide)).trans (ga (gn (by decide) (ga (gn (by decide) ((fr5 9 (by decide)).trans (ga (gn (by decide) (gn (by decide) (gl2 (ln1 (lnS (lnS (ln1 (ln1 (lnS (lnS (ln1 (ln1 (lnS (lnS (ln1 (ln1 (lnS (ln1 hlen)))))))))))))))))))))))))))))))))))) (gn (by decide) (gn (by decide) (ga (gn (by decide) ((fr10 10 (by decide)).trans (ga (gn (by decide) (gn (by decide) (ga (ga (gn (by decide) ((fr6 10 (by decide)).trans (ga (gn (by decide) (ga (gn (by decide) g1_10)))))))))))))))) (gn (by decide) (gn (by decide) (ga (gn (by decide) ((fr10 11 (by decide)).trans (ga (gn (by decide) (gn (by decide) (ga (ga (gn (by decide) ((fr6 11 (by decide)).trans (ga (gn (by decide) (ga (gn (by decide) g2_11)))))))))))))))) (gn (by decide) (gn (by decide) (ga (gn (by decide) ((fr10 12 (by decide)).trans (ga (gn (by decide) (gn (by decide) (ga (ga (gn (by decide) ((fr6 12 (by decide)).trans (ga (gn (by decide) (ga (gn (by decide) g3_12)))))))))))))))) (gn (by decide) (gn (by decide) (ga (gn (by decide) ((fr10 13 (by decide)).trans (ga (gn (by decide) (gn (by decide) (ga (ga (gn (by decide) ((fr6 13 (by decide)).trans (ga (gn (by decide) (ga (gn (by decide) g4_13)))))))))))))))) (gn (by decide) (gn (by decide) (ga (gn (by decide) ((fr10 14 (by decide)).trans (ga (gn (by decide) (gn (by decide) (ga (ga (gn (by decide) ((fr6 14 (by decide)).trans (ga (gn (by decide) (gl2 (lnS hl5)))))))))))))))) (gn (by decide) (gn (by decide) (ga (gn (by decide) ((fr10 15 (by decide)).trans (ga (gn (by decide) (gn (by decide) (ga (ga (gn (by decide) g15))))))))))) ⟨_, (gn (by decide) (gn (by decide) (ga (gn (by decide) ((fr10 16 (by decide)).trans (ga (gn (by decide) (gn (by decide) (ga (ga (gn (by decide) g16))))))))))), gfa⟩ (gn (by decide) (gn (by decide) (ga (gn (by decide) ((fr10 17 (by decide)).trans (ga (gn (by decide) (gn (by decide) (ga (ga (gn (by decide) g6_17))))))))))) (gn (by decide) (gn (by decide) (ga (gn (by decide) ((fr10 18 (by decide)).trans (ga (gn (by decide) (gn (by decide) (ga (ga (gn (by decide) g6_18))))))))))) (gn (by decide) (gn (by decide) (ga (gn (by decide) ((fr10 19 (by decide)).trans (ga (gn (by decide) (gn (by decide) (ga (ga (gn (by decide) g6_19))))))))))) (gn (by decide) (gn (by decide) (ga (gn (by decide) ((fr10 20 (by decide)).trans (ga (gn (by decide) (gn (by decide) (ga (ga (gn (by decide) g6_20))))))))))) (gn (by decide) (gn (by decide) (ga (gn (by decide) ((fr10 21 (by decide)).trans (ga (gn (by decide) (gn (by decide) (ga (ga (gn (by decide) g6_21))))))))))) (gn (by decide) (gn (by decide) (ga (gn (by decide) ((fr10 22 (by decide)).trans (ga (gn (by decide) (gn (by decide) (ga (ga (gn (by decide) g6_22))))))))))) (gn (by decide) (gn (by decide) (ga (gn (by decide) ((fr10 23 (by decide)).trans (ga (gn (by decide) (gn (by decide) (ga (ga (gn (by decide) g6_23))))))))))) (gn (by decide) (gn (by decide) (ga (gn (by decide) ((fr10 24 (by decide)).trans (ga (gn (by decide) (gn (by decide) (ga (ga (gn (by decide) g6_24))))))))))) (gn (by decide) (gn (by decide) (ga (gn (by decide) ((fr10 25 (by decide)).trans (ga (gn (by decide) (gs (ga (gl2 (lnS hl6))))))))))) (gn (by decide) (gn (by decide) (ga (gn (by decide) ((fr10 26 (by decide)).trans (ga (gn (by decide) (gn (by decide) (gl2 (ln1 (lnS hl6))))))))))) (gn (by decide) (gn (by decide) (ga (gn (by decide) g7_27)))) (gn (by decide) (gn (by decide) (ga (gn (by decide) g8_28)))) (gn (by decide) (gn (by decide) (ga (gn (by decide) g9_29)))) (gn (by decide) (gs (gl2 (lnS hl10))))

set_option maxHeartbeats 4000000 in
set_option maxRecDepth 100000 in
theorem c_X12_init {d : Nat} {S : aS} {Q : Option Value → aS → Prop} (hS : S[31]? = some (.inr (12, [.int 0, .int 0, .int 0, .null, .null, .null, .null, .null, .null, .int 0, .int 0, .int 0, .int 0, .int 0, .int 0, .int 0, .null, .null, .null, .null, .null, .null, .null, .int 0, .null, .null, .int 0, .null, .int 0, .long 0, .int 0, .null, .null, .null, .null, .null, .null, .null, .null, .int 0]))) (hlen : S.length = 32) (k : ∀ S2, S2.length = 56 → (∀ a, a < 31 → S2[a]? = S[a]?) → S2[31]? = some (mo 0 0 0 0 0 0 0 0 0 0 0 0 0 0 0 0) → S2[32]? = some (iA 9 (fun _ => 0)) → S2[33]? = some (iA 9 (fun _ => 0)) → S2[34]? = some (iA 9 (fun _ => 0)) → S2[35]? = some (iA 9 (fun _ => 0)) → S2[36]? = some (iA 9 (fun _ => 0)) → S2[37]? = some (iA 9 (fun _ => 0)) → S2[38]? = some (iA 9 (fun _ => 0)) → S2[39]? = some (iA 9 (fun _ => 0)) → S2[40]? = some (iA 9 (fun _ => 0)) → S2[41]? = some (iA 9 (fun _ => 0)) → S2[42]? = some (iA 9 (fun _ => 0)) → S2[43]? = some (iA 9 (fun _ => 0)) → S2[44]? = some (iA 12 (fun _ => 0)) → S2[45]? = some (iA 7 (fun _ => 0)) → S2[46]? = some (iA 6 (fun _ => 0)) → S2[47]? = some (iA 5 (fun _ => 0)) → S2[48]? = some (iA 8 (fun _ => 0)) → S2[49]? = some (zA 8 (fun _ => 0)) → S2[50]? = some (lA 7 (fun _ => 0)) → S2[51]? = some (lA 7 (fun _ => 0)) → S2[53]? = some (iA 4 (fun _ => 0)) → S2[54]? = some (iA 240 (fun _ => 0)) → S2[55]? = some (iA 60 (fun _ => 0)) → (∃ f : Nat → Int32, S2[52]? = some (iA 4 f) ∧ ∀ k, k < 4 → f k = -1) → Q none S2) : Mth mX12_init (d + 1) 24 [.ref 31] S Q := by
  refine Mth_of (by decide) rfl ?_
  refine Ev_aload_n dX12_init_0 rfl ?_
  refine Ev_objInit dX12_init_1 wl_X12_1 (Nat.le_of_ble_eq_true rfl) ?_
  refine Ev_aload_n dX12_init_4 rfl ?_
  refine Ev_bipush (v := 9) dX12_init_5 (by decide) ?_
  refine Ev_newarr_int (b := 23) (N := 9) dX12_init_7 wl_arr_int (by decide) (by decide) (by decide) ?_
  refine Ev_ref (j := 32) hlen ?_
  refine Ev_putF dX12_init_9 fr_X12_7_12 rfl (ga hS) rfl rfl rfl ?_
  refine Ev_aload_n dX12_init_12 rfl ?_
  refine Ev_bipush (v := 9) dX12_init_13 (by decide) ?_
  refine Ev_newarr_int (b := 22) (N := 9) dX12_init_15 wl_arr_int (by decide) (by decide) (by decide) ?_
  refine Ev_ref (j := 33) (lnS (ln1 hlen)) ?_
  refine Ev_putF dX12_init_17 fr_X12_13_12 rfl (ga (gs (ga hS))) rfl rfl rfl ?_
  refine Ev_aload_n dX12_init_20 rfl ?_
  refine Ev_bipush (v := 9) dX12_init_21 (by decide) ?_
  refine Ev_newarr_int (b := 21) (N := 9) dX12_init_23 wl_arr_int (by decide) (by decide) (by decide) ?_
  refine Ev_ref (j := 34) (lnS (ln1 (lnS (ln1 hlen)))) ?_
  refine Ev_putF dX12_init_25 fr_X12_16_12 rfl (ga (gs (ga (gs (ga hS))))) rfl rfl rfl ?_
  refine Ev_aload_n dX12_init_28 rfl ?_
  refine Ev_bipush (v := 9) dX12_init_29 (by decide) ?_
  refine Ev_newarr_int (b := 20) (N := 9) dX12_init_31 wl_arr_int (by decide) (by decide) (by decide) ?_
  refine Ev_ref (j := 35) (lnS (ln1 (lnS (ln1 (lnS (ln1 hlen)))))) ?_
  refine Ev_putF dX12_init_33 fr_X12_19_12 rfl (ga (gs (ga (gs (ga (gs (ga hS))))))) rfl rfl rfl ?_
  refine Ev_aload_n dX12_init_36 rfl ?_
  refine Ev_bipush (v := 9) dX12_init_37 (by decide) ?_
  refine Ev_newarr_int (b := 19) (N := 9) dX12_init_39 wl_arr_int (by decide) (by decide) (by decide) ?_
  refine Ev_ref (j := 36) (lnS (ln1 (lnS (ln1 (lnS (ln1 (lnS (ln1 hlen)))))))) ?_
  refine Ev_putF dX12_init_41 fr_X12_22_12 rfl (ga (gs (ga (gs (ga (gs (ga (gs (ga hS))))))))) rfl rfl rfl ?_
  refine Ev_aload_n dX12_init_44 rfl ?_
  refine Ev_bipush (v := 9) dX12_init_45 (by decide) ?_
  refine Ev_newarr_int (b := 18) (N := 9) dX12_init_47 wl_arr_int (by decide) (by decide) (by decide) ?_
  refine Ev_ref (j := 37) (lnS (ln1 (lnS (ln1 (lnS (ln1 (lnS (ln1 (lnS (ln1 hlen)))))))))) ?_
  refine Ev_putF dX12_init_49 fr_X12_25_12 rfl (ga (gs (ga (gs (ga (gs (ga (gs (ga (gs (ga hS))))))))))) rfl rfl rfl ?_
  refine Ev_aload_n dX12_init_52 rfl ?_
  refine Ev_bipush (v := 9) dX12_init_53 (by decide) ?_
  refine Ev_newarr_int (b := 17) (N := 9) dX12_init_55 wl_arr_int (by decide) (by decide) (by decide) ?_
  refine Ev_ref (j := 38) (lnS (ln1 (lnS (ln1 (lnS (ln1 (lnS (ln1 (lnS (ln1 (lnS (ln1 hlen)))))))))))) ?_
  refine Ev_putF dX12_init_57 fr_X12_28_12 rfl (ga (gs (ga (gs (ga (gs (ga (gs (ga (gs (ga (gs (ga hS))))))))))))) rfl rfl rfl ?_
  refine Ev_aload_n dX12_init_60 rfl ?_
  refine Ev_bipush (v := 9) dX12_init_61 (by decide) ?_
  refine Ev_newarr_int (b := 16) (N := 9) dX12_init_63 wl_arr_int (by decide) (by decide) (by decide) ?_
  refine Ev_ref (j := 39) (lnS (ln1 (lnS (ln1 (lnS (ln1 (lnS (ln1 (lnS (ln1 (lnS (ln1 (lnS (ln1 hlen)))))))))))))) ?_
  refine Ev_putF dX12_init_65 fr_X12_31_12 rfl (ga (gs (ga (gs (ga (gs (ga (gs (ga (gs (ga (gs (ga (gs (ga hS))))))))))))))) rfl rfl rfl ?_
  refine Ev_aload_n dX12_init_68 rfl ?_
  refine Ev_bipush (v := 9) dX12_init_69 (by decide) ?_
  refine Ev_newarr_int (b := 15) (N := 9) dX12_init_71 wl_arr_int (by decide) (by decide) (by decide) ?_
  refine Ev_ref (j := 40) (lnS (ln1 (lnS (ln1 (lnS (ln1 (lnS (ln1 (lnS (ln1 (lnS (ln1 (lnS (ln1 (lnS (ln1 hlen)))))))))))))))) ?_
  refine Ev_putF dX12_init_73 fr_X12_34_12 rfl (ga (gs (ga (gs (ga (gs (ga (gs (ga (gs (ga (gs (ga (gs (ga (gs (ga hS))))))))))))))))) rfl rfl rfl ?_
  refine Ev_aload_n dX12_init_76 rfl ?_
  refine Ev_bipush (v := 9) dX12_init_77 (by decide) ?_
  refine Ev_newarr_int (b := 14) (N := 9) dX12_init_79 wl_arr_int (by decide) (by decide) (by decide) ?_
  refine Ev_ref (j := 41) (lnS (ln1 (lnS (ln1 (lnS (ln1 (lnS (ln1 (lnS (ln1 (lnS (ln1 (lnS (ln1 (lnS (ln1 (lnS (ln1 hlen)))))))))))))))))) ?_
  refine Ev_putF dX12_init_81 fr_X12_37_12 rfl (ga (gs (ga (gs (ga (gs (ga (gs (ga (gs (ga (gs (ga (gs (ga (gs (ga (gs (ga hS))))))))))))))))))) rfl rfl rfl ?_
  refine Ev_aload_n dX12_init_84 rfl ?_
  refine Ev_bipush (v := 9) dX12_init_85 (by decide) ?_
  refine Ev_newarr_int (b := 13) (N := 9) dX12_init_87 wl_arr_int (by decide) (by decide) (by decide) ?_
  refine Ev_ref (j := 42) (lnS (ln1 (lnS (ln1 (lnS (ln1 (lnS (ln1 (lnS (ln1 (lnS (ln1 (lnS (ln1 (lnS (ln1 (lnS (ln1 (lnS (ln1 hlen)))))))))))))))))))) ?_
  refine Ev_putF dX12_init_89 fr_X12_40_12 rfl (ga (gs (ga (gs (ga (gs (ga (gs (ga (gs (ga (gs (ga (gs (ga (gs (ga (gs (ga (gs (ga hS))))))))))))))))))))) rfl rfl rfl ?_
  refine Ev_aload_n dX12_init_92 rfl ?_
  refine Ev_bipush (v := 9) dX12_init_93 (by decide) ?_
  refine Ev_newarr_int (b := 12) (N := 9) dX12_init_95 wl_arr_int (by decide) (by decide) (by decide) ?_
  refine Ev_ref (j := 43) (lnS (ln1 (lnS (ln1 (lnS (ln1 (lnS (ln1 (lnS (ln1 (lnS (ln1 (lnS (ln1 (lnS (ln1 (lnS (ln1 (lnS (ln1 (lnS (ln1 hlen)))))))))))))))))))))) ?_
  refine Ev_putF dX12_init_97 fr_X12_43_12 rfl (ga (gs (ga (gs (ga (gs (ga (gs (ga (gs (ga (gs (ga (gs (ga (gs (ga (gs (ga (gs (ga (gs (ga hS))))))))))))))))))))))) rfl rfl rfl ?_
  refine Ev_aload_n dX12_init_100 rfl ?_
  refine Ev_bipush (v := 12) dX12_init_101 (by decide) ?_
  refine Ev_newarr_int (b := 11) (N := 12) dX12_init_103 wl_arr_int (by decide) (by decide) (by decide) ?_
  refine Ev_ref (j := 44) (lnS (ln1 (lnS (ln1 (lnS (ln1 (lnS (ln1 (lnS (ln1 (lnS (ln1 (lnS (ln1 (lnS (ln1 (lnS (ln1 (lnS (ln1 (lnS (ln1 (lnS (ln1 hlen)))))))))))))))))))))))) ?_
  refine Ev_putF dX12_init_105 fr_X12_46_12 rfl (ga (gs (ga (gs (ga (gs (ga (gs (ga (gs (ga (gs (ga (gs (ga (gs (ga (gs (ga (gs (ga (gs (ga (gs (ga hS))))))))))))))))))))))))) rfl rfl rfl ?_
  refine Ev_aload_n dX12_init_108 rfl ?_
  refine Ev_bipush (v := 7) dX12_init_109 (by decide) ?_
  refine Ev_newarr_int (b := 10) (N := 7) dX12_init_111 wl_arr_int (by decide) (by decide) (by decide) ?_
  refine Ev_ref (j := 45) (lnS (ln1 (lnS (ln1 (lnS (ln1 (lnS (ln1 (lnS (ln1 (lnS (ln1 (lnS (ln1 (lnS (ln1 (lnS (ln1 (lnS (ln1 (lnS (ln1 (lnS (ln1 (lnS (ln1 hlen)))))))))))))))))))))))))) ?_
  refine Ev_putF dX12_init_113 fr_X12_49_12 rfl (ga (gs (ga (gs (ga (gs (ga (gs (ga (gs (ga (gs (ga (gs (ga (gs (ga (gs (ga (gs (ga (gs (ga (gs (ga (gs (ga hS))))))))))))))))))))))))))) rfl rfl rfl ?_
  refine Ev_aload_n dX12_init_116 rfl ?_
  refine Ev_bipush (v := 6) dX12_init_117 (by decide) ?_
  refine Ev_newarr_int (b := 9) (N := 6) dX12_init_119 wl_arr_int (by decide) (by decide) (by decide) ?_
  refine Ev_ref (j := 46) (lnS (ln1 (lnS (ln1 (lnS (ln1 (lnS (ln1 (lnS (ln1 (lnS (ln1 (lnS (ln1 (lnS (ln1 (lnS (ln1 (lnS (ln1 (lnS (ln1 (lnS (ln1 (lnS (ln1 (lnS (ln1 hlen)))))))))))))))))))))))))))) ?_
  refine Ev_putF dX12_init_121 fr_X12_52_12 rfl (ga (gs (ga (gs (ga (gs (ga (gs (ga (gs (ga (gs (ga (gs (ga (gs (ga (gs (ga (gs (ga (gs (ga (gs (ga (gs (ga (gs (ga hS))))))))))))))))))))))))))))) rfl rfl rfl ?_
  refine Ev_aload_n dX12_init_124 rfl ?_
  refine Ev_iconst (v := 5) dX12_init_125 (by decide) ?_
  refine Ev_newarr_int (b := 8) (N := 5) dX12_init_126 wl_arr_int (by decide) (by decide) (by decide) ?_
  refine Ev_ref (j := 47) (lnS (ln1 (lnS (ln1 (lnS (ln1 (lnS (ln1 (lnS (ln1 (lnS (ln1 (lnS (ln1 (lnS (ln1 (lnS (ln1 (lnS (ln1 (lnS (ln1 (lnS (ln1 (lnS (ln1 (lnS (ln1 (lnS (ln1 hlen)))))))))))))))))))))))))))))) ?_
  refine Ev_putF dX12_init_128 fr_X12_55_12 rfl (ga (gs (ga (gs (ga (gs (ga (gs (ga (gs (ga (gs (ga (gs (ga (gs (ga (gs (ga (gs (ga (gs (ga (gs (ga (gs (ga (gs (ga (gs (ga hS))))))))))))))))))))))))))))))) rfl rfl rfl ?_
  refine Ev_aload_n dX12_init_131 rfl ?_
  refine Ev_bipush (v := 8) dX12_init_132 (by decide) ?_
  refine Ev_newarr_int (b := 7) (N := 8) dX12_init_134 wl_arr_int (by decide) (by decide) (by decide) ?_
  refine Ev_ref (j := 48) (lnS (ln1 (lnS (ln1 (lnS (ln1 (lnS (ln1 (lnS (ln1 (lnS (ln1 (lnS (ln1 (lnS (ln1 (lnS (ln1 (lnS (ln1 (lnS (ln1 (lnS (ln1 (lnS (ln1 (lnS (ln1 (lnS (ln1 (lnS (ln1 hlen)))))))))))))))))))))))))))))))) ?_
  refine Ev_putF dX12_init_136 fr_X12_58_12 rfl (ga (gs (ga (gs (ga (gs (ga (gs (ga (gs (ga (gs (ga (gs (ga (gs (ga (gs (ga (gs (ga (gs (ga (gs (ga (gs (ga (gs (ga (gs (ga (gs (ga hS))))))))))))))))))))))))))))))))) rfl rfl rfl ?_
  refine Ev_aload_n dX12_init_139 rfl ?_
  refine Ev_bipush (v := 8) dX12_init_140 (by decide) ?_
  refine Ev_newarr_bool (b := 6) (N := 8) dX12_init_142 wl_arr_boolean (by decide) (by decide) (by decide) ?_
  refine Ev_ref (j := 49) (lnS (ln1 (lnS (ln1 (lnS (ln1 (lnS (ln1 (lnS (ln1 (lnS (ln1 (lnS (ln1 (lnS (ln1 (lnS (ln1 (lnS (ln1 (lnS (ln1 (lnS (ln1 (lnS (ln1 (lnS (ln1 (lnS (ln1 (lnS (ln1 (lnS (ln1 hlen)))))))))))))))))))))))))))))))))) ?_
  refine Ev_putF dX12_init_144 fr_X12_61_12 rfl (ga (gs (ga (gs (ga (gs (ga (gs (ga (gs (ga (gs (ga (gs (ga (gs (ga (gs (ga (gs (ga (gs (ga (gs (ga (gs (ga (gs (ga (gs (ga (gs (ga (gs (ga hS))))))))))))))))))))))))))))))))))) rfl rfl rfl ?_
  refine Ev_aload_n dX12_init_147 rfl ?_
  refine Ev_bipush (v := 7) dX12_init_148 (by decide) ?_
  refine Ev_newarr_long (b := 5) (N := 7) dX12_init_150 wl_arr_long (by decide) (by decide) (by decide) ?_
  refine Ev_ref (j := 50) (lnS (ln1 (lnS (ln1 (lnS (ln1 (lnS (ln1 (lnS (ln1 (lnS (ln1 (lnS (ln1 (lnS (ln1 (lnS (ln1 (lnS (ln1 (lnS (ln1 (lnS (ln1 (lnS (ln1 (lnS (ln1 (lnS (ln1 (lnS (ln1 (lnS (ln1 (lnS (ln1 hlen)))))))))))))))))))))))))))))))))))) ?_
  refine Ev_putF dX12_init_152 fr_X12_65_12 rfl (ga (gs (ga (gs (ga (gs (ga (gs (ga (gs (ga (gs (ga (gs (ga (gs (ga (gs (ga (gs (ga (gs (ga (gs (ga (gs (ga (gs (ga (gs (ga (gs (ga (gs (ga (gs (ga hS))))))))))))))))))))))))))))))))))))) rfl rfl rfl ?_
  refine Ev_aload_n dX12_init_155 rfl ?_
  refine Ev_bipush (v := 7) dX12_init_156 (by decide) ?_
  refine Ev_newarr_long (b := 4) (N := 7) dX12_init_158 wl_arr_long (by decide) (by decide) (by decide) ?_
  refine Ev_ref (j := 51) (lnS (ln1 (lnS (ln1 (lnS (ln1 (lnS (ln1 (lnS (ln1 (lnS (ln1 (lnS (ln1 (lnS (ln1 (lnS (ln1 (lnS (ln1 (lnS (ln1 (lnS (ln1 (lnS (ln1 (lnS (ln1 (lnS (ln1 (lnS (ln1 (lnS (ln1 (lnS (ln1 (lnS (ln1 hlen)))))))))))))))))))))))))))))))))))))) ?_
  refine Ev_putF dX12_init_160 fr_X12_69_12 rfl (ga (gs (ga (gs (ga (gs (ga (gs (ga (gs (ga (gs (ga (gs (ga (gs (ga (gs (ga (gs (ga (gs (ga (gs (ga (gs (ga (gs (ga (gs (ga (gs (ga (gs (ga (gs (ga (gs (ga hS))))))))))))))))))))))))))))))))))))))) rfl rfl rfl ?_
  refine Ev_aload_n dX12_init_163 rfl ?_
  refine Ev_iconst (v := 4) dX12_init_164 (by decide) ?_
  refine Ev_newarr_int (b := 3) (N := 4) dX12_init_165 wl_arr_int (by decide) (by decide) (by decide) ?_
  refine Ev_ref (j := 52) (lnS (ln1 (lnS (ln1 (lnS (ln1 (lnS (ln1 (lnS (ln1 (lnS (ln1 (lnS (ln1 (lnS (ln1 (lnS (ln1 (lnS (ln1 (lnS (ln1 (lnS (ln1 (lnS (ln1 (lnS (ln1 (lnS (ln1 (lnS (ln1 (lnS (ln1 (lnS (ln1 (lnS (ln1 (lnS (ln1 hlen)))))))))))))))))))))))))))))))))))))))) ?_
  refine Ev_putF dX12_init_167 fr_X12_72_12 rfl (ga (gs (ga (gs (ga (gs (ga (gs (ga (gs (ga (gs (ga (gs (ga (gs (ga (gs (ga (gs (ga (gs (ga (gs (ga (gs (ga (gs (ga (gs (ga (gs (ga (gs (ga (gs (ga (gs (ga (gs (ga hS))))))))))))))))))))))))))))))))))))))))) rfl rfl rfl ?_
  refine Ev_aload_n dX12_init_170 rfl ?_
  refine Ev_iconst (v := 4) dX12_init_171 (by decide) ?_
  refine Ev_newarr_int (b := 2) (N := 4) dX12_init_172 wl_arr_int (by decide) (by decide) (by decide) ?_
  refine Ev_ref (j := 53) (lnS (ln1 (lnS (ln1 (lnS (ln1 (lnS (ln1 (lnS (ln1 (lnS (ln1 (lnS (ln1 (lnS (ln1 (lnS (ln1 (lnS (ln1 (lnS (ln1 (lnS (ln1 (lnS (ln1 (lnS (ln1 (lnS (ln1 (lnS (ln1 (lnS (ln1 (lnS (ln1 (lnS (ln1 (lnS (ln1 (lnS (ln1 hlen)))))))))))))))))))))))))))))))))))))))))) ?_
  refine Ev_putF dX12_init_174 fr_X12_75_12 rfl (ga (gs (ga (gs (ga (gs (ga (gs (ga (gs (ga (gs (ga (gs (ga (gs (ga (gs (ga (gs (ga (gs (ga (gs (ga (gs (ga (gs (ga (gs (ga (gs (ga (gs (ga (gs (ga (gs (ga (gs (ga (gs (ga hS))))))))))))))))))))))))))))))))))))))))))) rfl rfl rfl ?_
  refine Ev_aload_n dX12_init_177 rfl ?_
  refine Ev_sipush (v := 240) dX12_init_178 (by decide) ?_
  refine Ev_newarr_int (b := 1) (N := 240) dX12_init_181 wl_arr_int (by decide) (by decide) (by decide) ?_
  refine Ev_ref (j := 54) (lnS (ln1 (lnS (ln1 (lnS (ln1 (lnS (ln1 (lnS (ln1 (lnS (ln1 (lnS (ln1 (lnS (ln1 (lnS (ln1 (lnS (ln1 (lnS (ln1 (lnS (ln1 (lnS (ln1 (lnS (ln1 (lnS (ln1 (lnS (ln1 (lnS (ln1 (lnS (ln1 (lnS (ln1 (lnS (ln1 (lnS (ln1 (lnS (ln1 hlen)))))))))))))))))))))))))))))))))))))))))))) ?_
  refine Ev_putF dX12_init_183 fr_X12_78_12 rfl (ga (gs (ga (gs (ga (gs (ga (gs (ga (gs (ga (gs (ga (gs (ga (gs (ga (gs (ga (gs (ga (gs (ga (gs (ga (gs (ga (gs (ga (gs (ga (gs (ga (gs (ga (gs (ga (gs (ga (gs (ga (gs (ga (gs (ga hS))))))))))))))))))))))))))))))))))))))))))))) rfl rfl rfl ?_
  refine Ev_aload_n dX12_init_186 rfl ?_
  refine Ev_bipush (v := 60) dX12_init_187 (by decide) ?_
  refine Ev_newarr_int (b := 0) (N := 60) dX12_init_189 wl_arr_int (by decide) (by decide) (by decide) ?_
  refine Ev_ref (j := 55) (lnS (ln1 (lnS (ln1 (lnS (ln1 (lnS (ln1 (lnS (ln1 (lnS (ln1 (lnS (ln1 (lnS (ln1 (lnS (ln1 (lnS (ln1 (lnS (ln1 (lnS (ln1 (lnS (ln1 (lnS (ln1 (lnS (ln1 (lnS (ln1 (lnS (ln1 (lnS (ln1 (lnS (ln1 (lnS (ln1 (lnS (ln1 (lnS (ln1 (lnS (ln1 hlen)))))))))))))))))))))))))))))))))))))))))))))) ?_
  refine Ev_putF dX12_init_191 fr_X12_81_12 rfl (ga (gs (ga (gs (ga (gs (ga (gs (ga (gs (ga (gs (ga (gs (ga (gs (ga (gs (ga (gs (ga (gs (ga (gs (ga (gs (ga (gs (ga (gs (ga (gs (ga (gs (ga (gs (ga (gs (ga (gs (ga (gs (ga (gs (ga (gs (ga hS))))))))))))))))))))))))))))))))))))))))))))))) rfl rfl rfl ?_
  refine Ev_iconst (v := 0) dX12_init_194 (by decide) ?_
  refine Ev_istore_n dX12_init_195 rfl ?_
  refine Ev_iload_n dX12_init_196 rfl ?_
  refine Ev_iconst (v := 4) dX12_init_197 (by decide) ?_
  refine Ev_icmp_ge dX12_init_198 (fun c => absurd c (by decide)) (fun _ => ?_)
  refine Ev_aload_n dX12_init_201 rfl ?_
  refine Ev_get dX12_init_202 fg_X12_72_12 (gs (ga (gs (ga (gs (ga (gs (ga (gs (ga (gs (ga (gs (ga (gs (ga (gs (ga (gs (ga (gs (ga (gs (ga (gs (ga (gs (ga (gs (ga (gs (ga (gs (ga (gs (ga (gs (ga (gs (ga (gs (ga (gs (ga (gs (ga (gs (ga hS)))))))))))))))))))))))))))))))))))))))))))))))) rfl ?_
  refine Ev_iload_n dX12_init_205 rfl ?_
  refine Ev_iconst (v := (-1)) dX12_init_206 (by decide) ?_
  refine Ev_iastoreN (j := 0) dX12_init_207 (gn (by decide) (ga (gn (by decide) (ga (gn (by decide) (ga (gn (by decide) (gl2 (lnS (ln1 (lnS (ln1 (lnS (ln1 (lnS (ln1 (lnS (ln1 (lnS (ln1 (lnS (ln1 (lnS (ln1 (lnS (ln1 (lnS (ln1 (lnS (ln1 (lnS (ln1 (lnS (ln1 (lnS (ln1 (lnS (ln1 (lnS (ln1 (lnS (ln1 (lnS (ln1 (lnS (ln1 (lnS (ln1 hlen)))))))))))))))))))))))))))))))))))))))))))))))) (by omega) (by decide) ?_
  refine Ev_iinc (v := 1) dX12_init_208 rfl (by decide) rfl ?_
  refine Ev_goto dX12_init_211 ?_
  refine Ev_iload_n dX12_init_196 rfl ?_
  refine Ev_iconst (v := 4) dX12_init_197 (by decide) ?_
  refine Ev_icmp_ge dX12_init_198 (fun c => absurd c (by decide)) (fun _ => ?_)
  refine Ev_aload_n dX12_init_201 rfl ?_
  refine Ev_get dX12_init_202 fg_X12_72_12 (gn (by decide) (gs (ga (gs (ga (gs (ga (gs (ga (gs (ga (gs (ga (gs (ga (gs (ga (gs (ga (gs (ga (gs (ga (gs (ga (gs (ga (gs (ga (gs (ga (gs (ga (gs (ga (gs (ga (gs (ga (gs (ga (gs (ga (gs (ga (gs (ga (gs (ga hS))))))))))))))))))))))))))))))))))))))))))))))))) rfl ?_
  refine Ev_iload_n dX12_init_205 rfl ?_
  refine Ev_iconst (v := (-1)) dX12_init_206 (by decide) ?_
  refine Ev_iastoreN (j := 1) dX12_init_207 (gs (gn (by decide) (ga (gn (by decide) (ga (gn (by decide) (ga (gn (by decide) (gl2 (lnS (ln1 (lnS (ln1 (lnS (ln1 (lnS (ln1 (lnS (ln1 (lnS (ln1 (lnS (ln1 (lnS (ln1 (lnS (ln1 (lnS (ln1 (lnS (ln1 (lnS (ln1 (lnS (ln1 (lnS (ln1 (lnS (ln1 (lnS (ln1 (lnS (ln1 (lnS (ln1 (lnS (ln1 (lnS (ln1 hlen))))))))))))))))))))))))))))))))))))))))))))))))) (by omega) (by decide) ?_
  refine Ev_st gss ?_
  refine Ev_iinc (v := 2) dX12_init_208 rfl (by decide) rfl ?_
  refine Ev_goto dX12_init_211 ?_
  refine Ev_iload_n dX12_init_196 rfl ?_
  refine Ev_iconst (v := 4) dX12_init_197 (by decide) ?_
  refine Ev_icmp_ge dX12_init_198 (fun c => absurd c (by decide)) (fun _ => ?_)
  refine Ev_aload_n dX12_init_201 rfl ?_
  refine Ev_get dX12_init_202 fg_X12_72_12 (gn (by decide) (gs (ga (gs (ga (gs (ga (gs (ga (gs (ga (gs (ga (gs (ga (gs (ga (gs (ga (gs (ga (gs (ga (gs (ga (gs (ga (gs (ga (gs (ga (gs (ga (gs (ga (gs (ga (gs (ga (gs (ga (gs (ga (gs (ga (gs (ga (gs (ga hS))))))))))))))))))))))))))))))))))))))))))))))))) rfl ?_
  refine Ev_iload_n dX12_init_205 rfl ?_
  refine Ev_iconst (v := (-1)) dX12_init_206 (by decide) ?_
  refine Ev_iastoreN (j := 2) dX12_init_207 (gs (gn (by decide) (ga (gn (by decide) (ga (gn (by decide) (ga (gn (by decide) (gl2 (lnS (ln1 (lnS (ln1 (lnS (ln1 (lnS (ln1 (lnS (ln1 (lnS (ln1 (lnS (ln1 (lnS (ln1 (lnS (ln1 (lnS (ln1 (lnS (ln1 (lnS (ln1 (lnS (ln1 (lnS (ln1 (lnS (ln1 (lnS (ln1 (lnS (ln1 (lnS (ln1 (lnS (ln1 (lnS (ln1 hlen))))))))))))))))))))))))))))))))))))))))))))))))) (by omega) (by decide) ?_
  refine Ev_st gss ?_
  refine Ev_iinc (v := 3) dX12_init_208 rfl (by decide) rfl ?_
  refine Ev_goto dX12_init_211 ?_
  refine Ev_iload_n dX12_init_196 rfl ?_
  refine Ev_iconst (v := 4) dX12_init_197 (by decide) ?_
  refine Ev_icmp_ge dX12_init_198 (fun c => absurd c (by decide)) (fun _ => ?_)
  refine Ev_aload_n dX12_init_201 rfl ?_
  refine Ev_get dX12_init_202 fg_X12_72_12 (gn (by decide) (gs (ga (gs (ga (gs (ga (gs (ga (gs (ga (gs (ga (gs (ga (gs (ga (gs (ga (gs (ga (gs (ga (gs (ga (gs (ga (gs (ga (gs (ga (gs (ga (gs (ga (gs (ga (gs (ga (gs (ga (gs (ga (gs (ga (gs (ga (gs (ga hS))))))))))))))))))))))))))))))))))))))))))))))))) rfl ?_
  refine Ev_iload_n dX12_init_205 rfl ?_
  refine Ev_iconst (v := (-1)) dX12_init_206 (by decide) ?_
  refine Ev_iastoreN (j := 3) dX12_init_207 (gs (gn (by decide) (ga (gn (by decide) (ga (gn (by decide) (ga (gn (by decide) (gl2 (lnS (ln1 (lnS (ln1 (lnS (ln1 (lnS (ln1 (lnS (ln1 (lnS (ln1 (lnS (ln1 (lnS (ln1 (lnS (ln1 (lnS (ln1 (lnS (ln1 (lnS (ln1 (lnS (ln1 (lnS (ln1 (lnS (ln1 (lnS (ln1 (lnS (ln1 (lnS (ln1 (lnS (ln1 (lnS (ln1 hlen))))))))))))))))))))))))))))))))))))))))))))))))) (by omega) (by decide) ?_
  refine Ev_st gss ?_
  refine Ev_iinc (v := 4) dX12_init_208 rfl (by decide) rfl ?_
  refine Ev_goto dX12_init_211 ?_
  refine Ev_iload_n dX12_init_196 rfl ?_
  refine Ev_iconst (v := 4) dX12_init_197 (by decide) ?_
  refine Ev_icmp_ge dX12_init_198 (fun _ => ?_) (fun c => absurd (by decide) c)
  refine Ev_vret dX12_init_214 rfl ?_
  exact k _ (lnS (lnS (ln1 (lnS (ln1 (lnS (ln1 (lnS (ln1 (lnS (ln1 (lnS (ln1 (lnS (ln1 (lnS (ln1 (lnS (ln1 (lnS (ln1 (lnS (ln1 (lnS (ln1 (lnS (ln1 (lnS (ln1 (lnS (ln1 (lnS (ln1 (lnS (ln1 (lnS (ln1 (lnS (ln1 (lnS (ln1 (lnS (ln1 (lnS (ln1 (lnS (ln1 (lnS (ln1 hlen))))))))))))))))))))))))))))))))))))))))))))))))) (fr_set (fr_set (fr_app (fr_set (fr_app (fr_set (fr_app (fr_set (fr_app (fr_set (fr_app (fr_set (fr_app (fr_set (fr_app (fr_set (fr_app (fr_set (fr_app (fr_set (fr_app (fr_set (fr_app (fr_set (fr_app (fr_set (fr_app (fr_set (fr_app (fr_set (fr_app (fr_set (fr_app (fr_set (fr_app (fr_set (fr_app (fr_set (fr_app (fr_set (fr_app (fr_set (fr_app (fr_set (fr_app (fr_set (fr_app (fr_set (fr_app fr_0 hlen (by decide)) (by decide)) (lnS (ln1 hlen)) (by decide)) (by decide)) (lnS (ln1 (lnS (ln1 hlen)))) (by decide)) (by decide)) (lnS (ln1 (lnS (ln1 (lnS (ln1 hlen)))))) (by decide)) (by decide)) (lnS (ln1 (lnS (ln1 (lnS (ln1 (lnS (ln1 hlen)))))))) (by decide)) (by decide)) (lnS (ln1 (lnS (ln1 (lnS (ln1 (lnS (ln1 (lnS (ln1 hlen)))))))))) (by decide)) (by decide)) (lnS (ln1 (lnS (ln1 (lnS (ln1 (lnS (ln1 (lnS (ln1 (lnS (ln1 hlen)))))))))))) (by decide)) (by decide)) (lnS (ln1 (lnS (ln1 (lnS (ln1 (lnS (ln1 (lnS (ln1 (lnS (ln1 (lnS (ln1 hlen)))))))))))))) (by decide)) (by decide)) (lnS (ln1 (lnS (ln1 (lnS (ln1 (lnS (ln1 (lnS (ln1 (lnS (ln1 (lnS (ln1 (lnS (ln1 hlen)))))))))))))))) (by decide)) (by decide)) (lnS (ln1 (lnS (ln1 (lnS (ln1 (lnS (ln1 (lnS (ln1 (lnS (ln1 (lnS (ln1 (lnS (ln1 (lnS (ln1 hlen)))))))))))))))))) (by decide)) (by decide)) (lnS (ln1 (lnS (ln1 (lnS (ln1 (lnS (ln1 (lnS (ln1 (lnS (ln1 (lnS (ln1 (lnS (ln1 (lnS (ln1 (lnS (ln1 hlen)))))))))))))))))))) (by decide)) (by decide)) (lnS (ln1 (lnS (ln1 (lnS (ln1 (lnS (ln1 (lnS (ln1 (lnS (ln1 (lnS (ln1 (lnS (ln1 (lnS (ln1 (lnS (ln1 (lnS (ln1 hlen)))))))))))))))))))))) (by decide)) (by decide)) (lnS (ln1 (lnS (ln1 (lnS (ln1 (lnS (ln1 (lnS (ln1 (lnS (ln1 (lnS (ln1 (lnS (ln1 (lnS (ln1 (lnS (ln1 (lnS (ln1 (lnS (ln1 hlen)))))))))))))))))))))))) (by decide)) (by decide)) (lnS (ln1 (lnS (ln1 (lnS (ln1 (lnS (ln1 (lnS (ln1 (lnS (ln1 (lnS (ln1 (lnS (ln1 (lnS (ln1 (lnS (ln1 (lnS (ln1 (lnS (ln1 (lnS (ln1 hlen)))))))))))))))))))))))))) (by decide)) (by decide)) (lnS (ln1 (lnS (ln1 (lnS (ln1 (lnS (ln1 (lnS (ln1 (lnS (ln1 (lnS (ln1 (lnS (ln1 (lnS (ln1 (lnS (ln1 (lnS (ln1 (lnS (ln1 (lnS (ln1 (lnS (ln1 hlen)))))))))))))))))))))))))))) (by decide)) (by decide)) (lnS (ln1 (lnS (ln1 (lnS (ln1 (lnS (ln1 (lnS (ln1 (lnS (ln1 (lnS (ln1 (lnS (ln1 (lnS (ln1 (lnS (ln1 (lnS (ln1 (lnS (ln1 (lnS (ln1 (lnS (ln1 (lnS (ln1 hlen)))))))))))))))))))))))))))))) (by decide)) (by decide)) (lnS (ln1 (lnS (ln1 (lnS (ln1 (lnS (ln1 (lnS (ln1 (lnS (ln1 (lnS (ln1 (lnS (ln1 (lnS (ln1 (lnS (ln1 (lnS (ln1 (lnS (ln1 (lnS (ln1 (lnS (ln1 (lnS (ln1 (lnS (ln1 hlen)))))))))))))))))))))))))))))))) (by decide)) (by decide)) (lnS (ln1 (lnS (ln1 (lnS (ln1 (lnS (ln1 (lnS (ln1 (lnS (ln1 (lnS (ln1 (lnS (ln1 (lnS (ln1 (lnS (ln1 (lnS (ln1 (lnS (ln1 (lnS (ln1 (lnS (ln1 (lnS (ln1 (lnS (ln1 (lnS (ln1 hlen)))))))))))))))))))))))))))))))))) (by decide)) (by decide)) (lnS (ln1 (lnS (ln1 (lnS (ln1 (lnS (ln1 (lnS (ln1 (lnS (ln1 (lnS (ln1 (lnS (ln1 (lnS (ln1 (lnS (ln1 (lnS (ln1 (lnS (ln1 (lnS (ln1 (lnS (ln1 (lnS (ln1 (lnS (ln1 (lnS (ln1 (lnS (ln1 hlen)))))))))))))))))))))))))))))))))))) (by decide)) (by decide)) (lnS (ln1 (lnS (ln1 (lnS (ln1 (lnS (ln1 (lnS (ln1 (lnS (ln1 (lnS (ln1 (lnS (ln1 (lnS (ln1 (lnS (ln1 (lnS (ln1 (lnS (ln1 (lnS (ln1 (lnS (ln1 (lnS (ln1 (lnS (ln1 (lnS (ln1 (lnS (ln1 (lnS (ln1 hlen)))))))))))))))))))))))))))))))))))))) (by decide)) (by decide)) (lnS (ln1 (lnS (ln1 (lnS (ln1 (lnS (ln1 (lnS (ln1 (lnS (ln1 (lnS (ln1 (lnS (ln1 (lnS (ln1 (lnS (ln1 (lnS (ln1 (lnS (ln1 (lnS (ln1 (lnS (ln1 (lnS (ln1 (lnS (ln1 (lnS (ln1 (lnS (ln1 (lnS (ln1 (lnS (ln1 hlen)))))))))))))))))))))))))))))))))))))))) (by decide)) (by decide)) (lnS (ln1 (lnS (ln1 (lnS (ln1 (lnS (ln1 (lnS (ln1 (lnS (ln1 (lnS (ln1 (lnS (ln1 (lnS (ln1 (lnS (ln1 (lnS (ln1 (lnS (ln1 (lnS (ln1 (lnS (ln1 (lnS (ln1 (lnS (ln1 (lnS (ln1 (lnS (ln1 (lnS (ln1 (lnS (ln1 (lnS (ln1 hlen)))))))))))))))))))))))))))))))))))))))))) (by decide)) (by decide)) (lnS (ln1 (lnS (ln1 (lnS (ln1 (lnS (ln1 (lnS (ln1 (lnS (ln1 (lnS (ln1 (lnS (ln1 (lnS (ln1 (lnS (ln1 (lnS (ln1 (lnS (ln1 (lnS (ln1 (lnS (ln1 (lnS (ln1 (lnS (ln1 (lnS (ln1 (lnS (ln1 (lnS (ln1 (lnS (ln1 (lnS (ln1 (lnS (ln1 hlen)))))))))))))))))))))))))))))))))))))))))))) (by decide)) (by decide)) (lnS (ln1 (lnS (ln1 (lnS (ln1 (lnS (ln1 (lnS (ln1 (lnS (ln1 (lnS (ln1 (lnS (ln1 (lnS (ln1 (lnS (ln1 (lnS (ln1 (lnS (ln1 (lnS (ln1 (lnS (ln1 (lnS (ln1 (lnS (ln1 (lnS (ln1 (lnS (ln1 (lnS (ln1 (lnS (ln1 (lnS (ln1 (lnS (ln1 (lnS (ln1 hlen)))))))))))))))))))))))))))))))))))))))))))))) (by decide)) (by decide)) (by decide)) (gn (by decide) (gs (ga (gs (ga (gs (ga (gs (ga (gs (ga (gs (ga (gs (ga (gs (ga (gs (ga (gs (ga (gs (ga (gs (ga (gs (ga (gs (ga (gs (ga (gs (ga (gs (ga (gs (ga (gs (ga (gs (ga (gs (ga (gs (ga (gs (ga (gs (ga hS))))))))))))))))))))))))))))))))))))))))))))))))) (gn (by decide) (gn (by decide) (ga (gn (by decide) (ga (gn (by decide) (ga (gn (by decide) (ga (gn (by decide) (ga (gn (by decide) (ga (gn (by decide) (ga (gn (by decide) (ga (gn (by decide) (ga (gn (by decide) (ga (gn (by decide) (ga (gn (by decide) (ga (gn (by decide) (ga (gn (by decide) (ga (gn (by decide) (ga (gn (by decide) (ga (gn (by decide) (ga (gn (by decide) (ga (gn (by decide) (ga (gn (by decide) (ga (gn (by decide) (ga (gn (by decide) (ga (gn (by decide) (ga (gn (by decide) (gl2 hlen))))))))))))))))))))))))))))))))))))))))))))))))) (gn (by decide) (gn (by decide) (ga (gn (by decide) (ga (gn (by decide) (ga (gn (by decide) (ga (gn (by decide) (ga (gn (by decide) (ga (gn (by decide) (ga (gn (by decide) (ga (gn (by decide) (ga (gn (by decide) (ga (gn (by decide) (ga (gn (by decide) (ga (gn (by decide) (ga (gn (by decide) (ga (gn (by decide) (ga (gn (by decide) (ga (gn (by decide) (ga (gn (by decide) (ga (gn (by decide) (ga (gn (by decide) (ga (gn (by decide) (ga (gn (by decide) (ga (gn (by decide) (gl2 (lnS (ln1 hlen))))))))))))))))))))))))))))))))))))))))))))))))) (gn (by decide) (gn (by decide) (ga (gn (by decide) (ga (gn (by decide) (ga (gn (by decide) (ga (gn (by decide) (ga (gn (by decide) (ga (gn (by decide) (ga (gn (by decide) (ga (gn (by decide) (ga (gn (by decide) (ga (gn (by decide) (ga (gn (by decide) (ga (gn (by decide) (ga (gn (by decide) (ga (gn (by decide) (ga (gn (by decide) (ga (gn (by decide) (ga (gn (by decide) (ga (gn (by decide) (ga (gn (by decide) (ga (gn (by decide) (ga (gn (by decide) (gl2 (lnS (ln1 (lnS (ln1 hlen))))))))))))))))))))))))))))))))))))))))))))))))) (gn (by decide) (gn (by decide) (ga (gn (by decide) (ga (gn (by decide) (ga (gn (by decide) (ga (gn (by decide) (ga (gn (by decide) (ga (gn (by decide) (ga (gn (by decide) (ga (gn (by decide) (ga (gn (by decide) (ga (gn (by decide) (ga (gn (by decide) (ga (gn (by decide) (ga (gn (by decide) (ga (gn (by decide) (ga (gn (by decide) (ga (gn (by decide) (ga (gn (by decide) (ga (gn (by decide) (ga (gn (by decide) (ga (gn (by decide) (gl2 (lnS (ln1 (lnS (ln1 (lnS (ln1 hlen))))))))))))))))))))))))))))))))))))))))))))))))) (gn (by decide) (gn (by decide) (ga (gn (by decide) (ga (gn (by decide) (ga (gn (by decide) (ga (gn (by decide) (ga (gn (by decide) (ga (gn (by decide) (ga (gn (by decide) (ga (gn (by decide) (ga (gn (by decide) (ga (gn (by decide) (ga (gn (by decide) (ga (gn (by decide) (ga (gn (by decide) (ga (gn (by decide) (ga (gn (by decide) (ga (gn (by decide) (ga (gn (by decide) (ga (gn (by decide) (ga (gn (by decide) (gl2 (lnS (ln1 (lnS (ln1 (lnS (ln1 (lnS (ln1 hlen))))))))))))))))))))))))))))))))))))))))))))))))) (gn (by decide) (gn (by decide) (ga (gn (by decide) (ga (gn (by decide) (ga (gn (by decide) (ga (gn (by decide) (ga (gn (by decide) (ga (gn (by decide) (ga (gn (by decide) (ga (gn (by decide) (ga (gn (by decide) (ga (gn (by decide) (ga (gn (by decide) (ga (gn (by decide) (ga (gn (by decide) (ga (gn (by decide) (ga (gn (by decide) (ga (gn (by decide) (ga (gn (by decide) (ga (gn (by decide) (gl2 (lnS (ln1 (lnS (ln1 (lnS (ln1 (lnS (ln1 (lnS (ln1 hlen))))))))))))))))))))))))))))))))))))))))))))))))) (gn (by decide) (gn (by decide) (ga (gn (by decide) (ga (gn (by decide) (ga (gn (by decide) (ga (gn (by decide) (ga (gn (by decide) (ga (gn (by decide) (ga (gn (by decide) (ga (gn (by decide) (ga (gn (by decide) (ga (gn (by decide) (ga (gn (by decide) (ga (gn (by decide) (ga (gn (by decide) (ga (gn (by decide) (ga (gn (by decide) (ga (gn (by decide) (ga (gn (by decide) (gl2 (lnS (ln1 (lnS (ln1 (lnS (ln1 (lnS (ln1 (lnS (ln1 (lnS (ln1 hlen))))))))))))))))))))))))))))))))))))))))))))))))) (gn (by decide) (gn (by decide) (ga (gn (by decide) (ga (gn (by decide) (ga (gn (by decide) (ga (gn (by decide) (ga (gn (by decide) (ga (gn (by decide) (ga (gn (by decide) (ga (gn (by decide) (ga (gn (by decide) (ga (gn (by decide) (ga (gn (by decide) (ga (gn (by decide) (ga (gn (by decide) (ga (gn (by decide) (ga (gn (by decide) (ga (gn (by decide) (gl2 (lnS (ln1 (lnS (ln1 (lnS (ln1 (lnS (ln1 (lnS (ln1 (lnS (ln1 (lnS (ln1 hlen))))))))))))))))))))))))))))))))))))))))))))))))) (gn (by decide) (gn (by decide) (ga (gn (by decide) (ga (gn (by decide) (ga (gn (by decide) (ga (gn (by decide) (ga (gn (by decide) (ga (gn (by decide) (ga (gn (by decide) (ga (gn (by decide) (ga (gn (by decide) (ga (gn (by decide) (ga (gn (by decide) (ga (gn (by decide) (ga (gn (by decide) (ga (gn (by decide) (ga (gn (by decide) (gl2 (lnS (ln1 (lnS (ln1 (lnS (ln1 (lnS (ln1 (lnS (ln1 (lnS (ln1 (lnS (ln1 (lnS (ln1 hlen))))))))))))))))))))))))))))))))))))))))))))))))) (gn (by decide) (gn (by decide) (ga (gn (by decide) (ga (gn (by decide) (ga (gn (by decide) (ga (gn (by decide) (ga (gn (by decide) (ga (gn (by decide) (ga (gn (by decide) (ga (gn (by decide) (ga (gn (by decide) (ga (gn (by decide) (ga (gn (by decide) (ga (gn (by decide) (ga (gn (by decide) (ga (gn (by decide) (gl2 (lnS (ln1 (lnS (ln1 (lnS (ln1 (lnS (ln1 (lnS (ln1 (lnS (ln1 (lnS (ln1 (lnS (ln1 (lnS (ln1 hlen))))))))))))))))))))))))))))))))))))))))))))))))) (gn (by decide) (gn (by decide) (ga (gn (by decide) (ga (gn (by decide) (ga (gn (by decide) (ga (gn (by decide) (ga (gn (by decide) (ga (gn (by decide) (ga (gn (by decide) (ga (gn (by decide) (ga (gn (by decide) (ga (gn (by decide) (ga (gn (by decide) (ga (gn (by decide) (ga (gn (by decide) (gl2 (lnS (ln1 (lnS (ln1 (lnS (ln1 (lnS (ln1 (lnS (ln1 (lnS (ln1 (lnS (ln1 (lnS (ln1 (lnS (ln1 (lnS (ln1 hlen))))))))))))))))))))))))))))))))))))))))))))))))) (gn (by decide) (gn (by decide) (ga (gn (by decide) (ga (gn (by decide) (ga (gn (by decide) (ga (gn (by decide) (ga (gn (by decide) (ga (gn (by decide) (ga (gn (by decide) (ga (gn (by decide) (ga (gn (by decide) (ga (gn (by decide) (ga (gn (by decide) (ga (gn (by decide) (gl2 (lnS (ln1 (lnS (ln1 (lnS (ln1 (lnS (ln1 (lnS (ln1 (lnS (ln1 (lnS (ln1 (lnS (ln1 (lnS (ln1 (lnS (ln1 (lnS (ln1 hlen))))))))))))))))))))))))))))))))))))))))))))))))) (gn (by decide) (gn (by decide) (ga (gn (by decide) (ga (gn (by decide) (ga (gn (by decide) (ga (gn (by decide) (ga (gn (by decide) (ga (gn (by decide) (ga (gn (by decide) (ga (gn (by decide) (ga (gn (by decide) (ga (gn (by decide) (ga (gn (by decide) (gl2 (lnS (ln1 (lnS (ln1 (lnS (ln1 (lnS (ln1 (lnS (ln1 (lnS (ln1 (lnS (ln1 (lnS (ln1 (lnS (ln1 (lnS (ln1 (lnS (ln1 (lnS (ln1 hlen))))))))))))))))))))))))))))))))))))))))))))))))) (gn (by decide) (gn (by decide) (ga (gn (by decide) (ga (gn (by decide) (ga (gn (by decide) (ga (gn (by decide) (ga (gn (by decide) (ga (gn (by decide) (ga (gn (by decide) (ga (gn (by decide) (ga (gn (by decide) (ga (gn (by decide) (gl2 (lnS (ln1 (lnS (ln1 (lnS (ln1 (lnS (ln1 (lnS (ln1 (lnS (ln1 (lnS (ln1 (lnS (ln1 (lnS (ln1 (lnS (ln1 (lnS (ln1 (lnS (ln1 (lnS (ln1 hlen))))))))))))))))))))))))))))))))))))))))))))))))) (gn (by decide) (gn (by decide) (ga (gn (by decide) (ga (gn (by decide) (ga (gn (by decide) (ga (gn (by decide) (ga (gn (by decide) (ga (gn (by decide) (ga (gn (by decide) (ga (gn (by decide) (ga (gn (by decide) (gl2 (lnS (ln1 (lnS (ln1 (lnS (ln1 (lnS (ln1 (lnS (ln1 (lnS (ln1 (lnS (ln1 (lnS (ln1 (lnS (ln1 (lnS (ln1 (lnS (ln1 (lnS (ln1 (lnS (ln1 (lnS (ln1 hlen))))))))))))))))))))))))))))))))))))))))))))))))) (gn (by decide) (gn (by decide) (ga (gn (by decide) (ga (gn (by decide) (ga (gn (by decide) (ga (gn (by decide) (ga (gn (by decide) (ga (gn (by decide) (ga (gn (by decide) (ga (gn (by decide) (gl2 (lnS (ln1 (lnS (ln1 (lnS (ln1 (lnS (ln1 (lnS (ln1 (lnS (ln1 (lnS (ln1 (lnS (ln1 (lnS (ln1 (lnS (ln1 (lnS (ln1 (lnS (ln1 (lnS (ln1 (lnS (ln1 (lnS (ln1 hlen))))))))))))))))))))))))))))))))))))))))))))))))) (gn (by decide) (gn (by decide) (ga (gn (by decide) (ga (gn (by decide) (ga (gn (by decide) (ga (gn (by decide) (ga (gn (by decide) (ga (gn (by decide) (ga (gn (by decide) (gl2 (lnS (ln1 (lnS (ln1 (lnS (ln1 (lnS (ln1 (lnS (ln1 (lnS (ln1 (lnS (ln1 (lnS (ln1 (lnS (ln1 (lnS (ln1 (lnS (ln1 (lnS (ln1 (lnS (ln1 (lnS (ln1 (lnS (ln1 (lnS (ln1 hlen))))))))))))))))))))))))))))))))))))))))))))))))) (gn (by decide) (gn (by decide) (ga (gn (by decide) (ga (gn (by decide) (ga (gn (by decide) (ga (gn (by decide) (ga (gn (by decide) (ga (gn (by decide) (gl2 (lnS (ln1 (lnS (ln1 (lnS (ln1 (lnS (ln1 (lnS (ln1 (lnS (ln1 (lnS (ln1 (lnS (ln1 (lnS (ln1 (lnS (ln1 (lnS (ln1 (lnS (ln1 (lnS (ln1 (lnS (ln1 (lnS (ln1 (lnS (ln1 (lnS (ln1 hlen))))))))))))))))))))))))))))))))))))))))))))))))) (gn (by decide) (gn (by decide) (ga (gn (by decide) (ga (gn (by decide) (ga (gn (by decide) (ga (gn (by decide) (ga (gn (by decide) (gl2 (lnS (ln1 (lnS (ln1 (lnS (ln1 (lnS (ln1 (lnS (ln1 (lnS (ln1 (lnS (ln1 (lnS (ln1 (lnS (ln1 (lnS (ln1 (lnS (ln1 (lnS (ln1 (lnS (ln1 (lnS (ln1 (lnS (ln1 (lnS (ln1 (lnS (ln1 (lnS (ln1 hlen))))))))))))))))))))))))))))))))))))))))))))))))) (gn (by decide) (gn (by decide) (ga (gn (by decide) (ga (gn (by decide) (ga (gn (by decide) (ga (gn (by decide) (gl2 (lnS (ln1 (lnS (ln1 (lnS (ln1 (lnS (ln1 (lnS (ln1 (lnS (ln1 (lnS (ln1 (lnS (ln1 (lnS (ln1 (lnS (ln1 (lnS (ln1 (lnS (ln1 (lnS (ln1 (lnS (ln1 (lnS (ln1 (lnS (ln1 (lnS (ln1 (lnS (ln1 (lnS (ln1 hlen))))))))))))))))))))))))))))))))))))))))))))))))) (gn (by decide) (gn (by decide) (ga (gn (by decide) (ga (gn (by decide) (gl2 (lnS (ln1 (lnS (ln1 (lnS (ln1 (lnS (ln1 (lnS (ln1 (lnS (ln1 (lnS (ln1 (lnS (ln1 (lnS (ln1 (lnS (ln1 (lnS (ln1 (lnS (ln1 (lnS (ln1 (lnS (ln1 (lnS (ln1 (lnS (ln1 (lnS (ln1 (lnS (ln1 (lnS (ln1 (lnS (ln1 (lnS (ln1 hlen))))))))))))))))))))))))))))))))))))))))))))))))) (gn (by decide) (gn (by decide) (ga (gn (by decide) (gl2 (lnS (ln1 (lnS (ln1 (lnS (ln1 (lnS (ln1 (lnS (ln1 (lnS (ln1 (lnS (ln1 (lnS (ln1 (lnS (ln1 (lnS (ln1 (lnS (ln1 (lnS (ln1 (lnS (ln1 (lnS (ln1 (lnS (ln1 (lnS (ln1 (lnS (ln1 (lnS (ln1 (lnS (ln1 (lnS (ln1 (lnS (ln1 (lnS (ln1 hlen))))))))))))))))))))))))))))))))))))))))))))))))) (gn (by decide) (gn (by decide) (gl2 (lnS (ln1 (lnS (ln1 (lnS (ln1 (lnS (ln1 (lnS (ln1 (lnS (ln1 (lnS (ln1 (lnS (ln1 (lnS (ln1 (lnS (ln1 (lnS (ln1 (lnS (ln1 (lnS (ln1 (lnS (ln1 (lnS (ln1 (lnS (ln1 (lnS (ln1 (lnS (ln1 (lnS (ln1 (lnS (ln1 (lnS (ln1 (lnS (ln1 (lnS (ln1 hlen))))))))))))))))))))))))))))))))))))))))))))))))) ⟨_, (gs (gn (by decide) (ga (gn (by decide) (ga (gn (by decide) (ga (gn (by decide) (gl2 (lnS (ln1 (lnS (ln1 (lnS (ln1 (lnS (ln1 (lnS (ln1 (lnS (ln1 (lnS (ln1 (lnS (ln1 (lnS (ln1 (lnS (ln1 (lnS (ln1 (lnS (ln1 (lnS (ln1 (lnS (ln1 (lnS (ln1 (lnS (ln1 (lnS (ln1 (lnS (ln1 (lnS (ln1 (lnS (ln1 hlen))))))))))))))))))))))))))))))))))))))))))))))))), by decide⟩

