set_option maxHeartbeats 4000000 in
set_option maxRecDepth 100000 in
theorem c_X11_put_unk {d : Nat} {S : aS} {Q : Option Value → aS → Prop} {lf : Int32} (hO : S[0]? = some (co lf)) {x : Int32} (hk : ¬ (0 ≤ x.toInt ∧ x.toInt ≤ 3)) {i v : Int32} (k : Q (some (.int (-1))) (S.set 0 (co 0))) : Mth mX11_put (d + 2) 0 [.ref 0, .int x, .int i, .int v] S Q := by
  refine Mth_of (by decide) rfl ?_
  refine Ev_aload_n dX11_put_0 rfl ?_
  refine Ev_iload_n dX11_put_1 rfl ?_
  refine Ev_callV (bc := 0) (b := 0) dX11_put_2 cv_X11_64 rfl hO (Nat.le_of_ble_eq_true rfl) (by omega) ?_
  refine c_X11_sheetAt_bad hO hk ?_
  refine Ev_astoreN dX11_put_5 rfl ?_
  refine Ev_aloadN dX11_put_7 rfl ?_
  refine Ev_ifnonnullN dX11_put_9 ?_
  refine Ev_aload_n dX11_put_12 rfl ?_
  refine Ev_iconst (v := (-1)) dX11_put_13 (by decide) ?_
  refine Ev_callV (bc := 0) (b := 0) dX11_put_14 cv_X11_68 rfl hO (Nat.le_of_ble_eq_true rfl) (by omega) ?_
  refine c_X11_refused hO ?_
  refine Ev_iret dX11_put_17 rfl rfl ?_
  exact k

set_option maxHeartbeats 4000000 in
set_option maxRecDepth 100000 in
theorem c_X11_put_n {d : Nat} {S : aS} {Q : Option Value → aS → Prop} {lf : Int32} (hO : S[0]? = some (co lf)) {fa : Nat → Option Nat} (hA : S[1]? = some (rA 3 4 fa)) (hfa : ∀ k, k < 4 → fa k = some (2 + 2 * k)) {kk : Nat} (hk : kk < 4) {ln len : Int32} {f : Nat → Int32} (hS : S[2 + 2 * kk]? = some (.inr (5, [.ref (3 + 2 * kk), .int ln, .int len]))) (hc : S[3 + 2 * kk]? = some (iA 60 f)) {i v : Int32} (hn : ln = -1) (k : Q (some (.int (-11))) (S.set 0 (co 1))) : Mth mX11_put (d + 2) 0 [.ref 0, .int (nI kk), .int i, .int v] S Q := by
  refine Mth_of (by decide) rfl ?_
  refine Ev_aload_n dX11_put_0 rfl ?_
  refine Ev_iload_n dX11_put_1 rfl ?_
  refine Ev_callV (bc := 0) (b := 0) dX11_put_2 cv_X11_64 rfl hO (Nat.le_of_ble_eq_true rfl) (by omega) ?_
  refine c_X11_sheetAt hO hA hfa (kk := kk) (by omega) ?_
  refine Ev_astore dX11_put_5 rfl ?_
  refine Ev_aload dX11_put_7 rfl ?_
  refine Ev_ifnonnull dX11_put_9 ?_
  refine Ev_aload dX11_put_18 rfl ?_
  refine Ev_callV (bc := 0) (b := 0) dX11_put_20 cv_X11_228 rfl hS (Nat.le_of_ble_eq_true rfl) (by omega) ?_
  refine c_X5_hasNothing hS (fun _ => ?_) (fun q => absurd q (not_not_intro hn))
  refine Ev_if_eq dX11_put_23 (fun c => absurd c (by decide)) (fun _ => ?_)
  refine Ev_aload_n dX11_put_26 rfl ?_
  refine Ev_iconst (v := 1) dX11_put_27 (by decide) ?_
  refine Ev_callV (bc := 0) (b := 0) dX11_put_28 cv_X11_80 rfl hO (Nat.le_of_ble_eq_true rfl) (by omega) ?_
  refine c_X11_failed hO ?_
  refine Ev_topi (y := (-11)) (by decide) ?_
  refine Ev_iret dX11_put_31 rfl rfl ?_
  exact k

set_option maxHeartbeats 4000000 in
set_option maxRecDepth 100000 in
theorem c_X11_put_i {d : Nat} {S : aS} {Q : Option Value → aS → Prop} {lf : Int32} (hO : S[0]? = some (co lf)) {fa : Nat → Option Nat} (hA : S[1]? = some (rA 3 4 fa)) (hfa : ∀ k, k < 4 → fa k = some (2 + 2 * k)) {kk : Nat} (hk : kk < 4) {ln len : Int32} {f : Nat → Int32} (hS : S[2 + 2 * kk]? = some (.inr (5, [.ref (3 + 2 * kk), .int ln, .int len]))) (hc : S[3 + 2 * kk]? = some (iA 60 f)) (hn : ¬ ln = -1) {z : Int} (hz : len.toInt = z) (hzr : 0 ≤ z ∧ z ≤ 60) {i v : Int32} (hi : ¬ (0 ≤ i.toInt ∧ i.toInt < z)) (k : Q (some (.int (-13))) (S.set 0 (co 3))) : Mth mX11_put (d + 2) 0 [.ref 0, .int (nI kk), .int i, .int v] S Q := by
  refine Mth_of (by decide) rfl ?_
  refine Ev_aload_n dX11_put_0 rfl ?_
  refine Ev_iload_n dX11_put_1 rfl ?_
  refine Ev_callV (bc := 0) (b := 0) dX11_put_2 cv_X11_64 rfl hO (Nat.le_of_ble_eq_true rfl) (by omega) ?_
  refine c_X11_sheetAt hO hA hfa (kk := kk) (by omega) ?_
  refine Ev_astore dX11_put_5 rfl ?_
  refine Ev_aload dX11_put_7 rfl ?_
  refine Ev_ifnonnull dX11_put_9 ?_
  refine Ev_aload dX11_put_18 rfl ?_
  refine Ev_callV (bc := 0) (b := 0) dX11_put_20 cv_X11_228 rfl hS (Nat.le_of_ble_eq_true rfl) (by omega) ?_
  refine c_X5_hasNothing hS (fun q => absurd q hn) (fun _ => ?_)
  refine Ev_if_eq dX11_put_23 (fun _ => ?_) (fun c => absurd (by decide) c)
  refine Ev_aload dX11_put_32 rfl ?_
  refine Ev_iload_n dX11_put_34 rfl ?_
  refine Ev_callV (bc := 0) (b := 0) dX11_put_35 cv_X11_234 rfl hS (Nat.le_of_ble_eq_true rfl) (by omega) ?_
  refine c_X5_hasCell hS (fun q => absurd q (by rw [hz]; exact hi)) (fun _ => ?_)
  refine Ev_if_ne dX11_put_38 (fun c => absurd (by decide) c) (fun _ => ?_)
  refine Ev_aload_n dX11_put_41 rfl ?_
  refine Ev_iconst (v := 3) dX11_put_42 (by decide) ?_
  refine Ev_callV (bc := 0) (b := 0) dX11_put_43 cv_X11_80 rfl hO (Nat.le_of_ble_eq_true rfl) (by omega) ?_
  refine c_X11_failed hO ?_
  refine Ev_topi (y := (-13)) (by decide) ?_
  refine Ev_iret dX11_put_46 rfl rfl ?_
  exact k

set_option maxHeartbeats 4000000 in
set_option maxRecDepth 100000 in
theorem c_X11_put_o0 {d : Nat} {S : aS} {Q : Option Value → aS → Prop} {lf : Int32} (hO : S[0]? = some (co lf)) {fa : Nat → Option Nat} (hA : S[1]? = some (rA 3 4 fa)) (hfa : ∀ k, k < 4 → fa k = some (2 + 2 * k)) {kk : Nat} (hk : kk < 4) {ln len : Int32} {f : Nat → Int32} (hS : S[2 + 2 * kk]? = some (.inr (5, [.ref (3 + 2 * kk), .int ln, .int len]))) (hc : S[3 + 2 * kk]? = some (iA 60 f)) (hn : ¬ ln = -1) {z : Int} (hz : len.toInt = z) (hzr : 0 ≤ z ∧ z ≤ 60) (hln : ln = 0) {ii : Nat} {v : Int32} (hi : (ii : Int) < z) (k : Q (some (.int 1)) ((S.set 0 (co 0)).set (3 + 2 * kk) (iA 60 (upd f ii v.toInt8.toInt32)))) : Mth mX11_put (d + 2) 0 [.ref 0, .int (nI kk), .int (nI ii), .int v] S Q := by
  refine Mth_of (by decide) rfl ?_
  refine Ev_aload_n dX11_put_0 rfl ?_
  refine Ev_iload_n dX11_put_1 rfl ?_
  refine Ev_callV (bc := 0) (b := 0) dX11_put_2 cv_X11_64 rfl hO (Nat.le_of_ble_eq_true rfl) (by omega) ?_
  refine c_X11_sheetAt hO hA hfa (kk := kk) (by omega) ?_
  refine Ev_astore dX11_put_5 rfl ?_
  refine Ev_aload dX11_put_7 rfl ?_
  refine Ev_ifnonnull dX11_put_9 ?_
  refine Ev_aload dX11_put_18 rfl ?_
  refine Ev_callV (bc := 0) (b := 0) dX11_put_20 cv_X11_228 rfl hS (Nat.le_of_ble_eq_true rfl) (by omega) ?_
  refine c_X5_hasNothing hS (fun q => absurd q hn) (fun _ => ?_)
  refine Ev_if_eq dX11_put_23 (fun _ => ?_) (fun c => absurd (by decide) c)
  refine Ev_aload dX11_put_32 rfl ?_
  refine Ev_iload_n dX11_put_34 rfl ?_
  refine Ev_callV (bc := 0) (b := 0) dX11_put_35 cv_X11_234 rfl hS (Nat.le_of_ble_eq_true rfl) (by omega) ?_
  refine c_X5_hasCell hS (fun _ => ?_) (fun q => absurd q (not_not_intro (by rw [hz, nIt (by omega)]; omega)))
  refine Ev_if_ne dX11_put_38 (fun _ => ?_) (fun c => absurd c (by decide))
  refine Ev_aload_n dX11_put_47 rfl ?_
  refine Ev_iconst (v := 0) dX11_put_48 (by decide) ?_
  refine Ev_put dX11_put_49 fr_X11_60_11 hO rfl rfl rfl ?_
  refine Ev_aload dX11_put_52 rfl ?_
  refine Ev_iload_n dX11_put_54 rfl ?_
  refine Ev_iload_n dX11_put_55 rfl ?_
  refine Ev_callV (bc := 0) (b := 0) dX11_put_56 cv_X11_237 rfl (gn (by omega) hS) (Nat.le_of_ble_eq_true rfl) (by omega) ?_
  refine c_X5_write0 (gn (by omega) hS) (gn (by omega) hc) (by omega) hln (by rw [hz]; exact hi) (by omega) ?_
  refine Ev_iconst (v := 1) dX11_put_59 (by decide) ?_
  refine Ev_iret dX11_put_60 rfl rfl ?_
  exact k

set_option maxHeartbeats 4000000 in
set_option maxRecDepth 100000 in
theorem c_X11_put_o1 {d : Nat} {S : aS} {Q : Option Value → aS → Prop} {lf : Int32} (hO : S[0]? = some (co lf)) {fa : Nat → Option Nat} (hA : S[1]? = some (rA 3 4 fa)) (hfa : ∀ k, k < 4 → fa k = some (2 + 2 * k)) {kk : Nat} (hk : kk < 4) {ln len : Int32} {f : Nat → Int32} (hS : S[2 + 2 * kk]? = some (.inr (5, [.ref (3 + 2 * kk), .int ln, .int len]))) (hc : S[3 + 2 * kk]? = some (iA 60 f)) (hn : ¬ ln = -1) {z : Int} (hz : len.toInt = z) (hzr : 0 ≤ z ∧ z ≤ 60) (hln : ln = 1) {ii : Nat} {v : Int32} (hi : (ii : Int) < z) (k : Q (some (.int 1)) ((S.set 0 (co 0)).set (3 + 2 * kk) (iA 60 (upd f ii v.toInt16.toInt32)))) : Mth mX11_put (d + 2) 0 [.ref 0, .int (nI kk), .int (nI ii), .int v] S Q := by
  refine Mth_of (by decide) rfl ?_
  refine Ev_aload_n dX11_put_0 rfl ?_
  refine Ev_iload_n dX11_put_1 rfl ?_
  refine Ev_callV (bc := 0) (b := 0) dX11_put_2 cv_X11_64 rfl hO (Nat.le_of_ble_eq_true rfl) (by omega) ?_
  refine c_X11_sheetAt hO hA hfa (kk := kk) (by omega) ?_
  refine Ev_astore dX11_put_5 rfl ?_
  refine Ev_aload dX11_put_7 rfl ?_
  refine Ev_ifnonnull dX11_put_9 ?_
  refine Ev_aload dX11_put_18 rfl ?_
  refine Ev_callV (bc := 0) (b := 0) dX11_put_20 cv_X11_228 rfl hS (Nat.le_of_ble_eq_true rfl) (by omega) ?_
  refine c_X5_hasNothing hS (fun q => absurd q hn) (fun _ => ?_)
  refine Ev_if_eq dX11_put_23 (fun _ => ?_) (fun c => absurd (by decide) c)
  refine Ev_aload dX11_put_32 rfl ?_
  refine Ev_iload_n dX11_put_34 rfl ?_
  refine Ev_callV (bc := 0) (b := 0) dX11_put_35 cv_X11_234 rfl hS (Nat.le_of_ble_eq_true rfl) (by omega) ?_
  refine c_X5_hasCell hS (fun _ => ?_) (fun q => absurd q (not_not_intro (by rw [hz, nIt (by omega)]; omega)))
  refine Ev_if_ne dX11_put_38 (fun _ => ?_) (fun c => absurd c (by decide))
  refine Ev_aload_n dX11_put_47 rfl ?_
  refine Ev_iconst (v := 0) dX11_put_48 (by decide) ?_
  refine Ev_put dX11_put_49 fr_X11_60_11 hO rfl rfl rfl ?_
  refine Ev_aload dX11_put_52 rfl ?_
  refine Ev_iload_n dX11_put_54 rfl ?_
  refine Ev_iload_n dX11_put_55 rfl ?_
  refine Ev_callV (bc := 0) (b := 0) dX11_put_56 cv_X11_237 rfl (gn (by omega) hS) (Nat.le_of_ble_eq_true rfl) (by omega) ?_
  refine c_X5_write1 (gn (by omega) hS) (gn (by omega) hc) (by omega) hln (by rw [hz]; exact hi) (by omega) ?_
  refine Ev_iconst (v := 1) dX11_put_59 (by decide) ?_
  refine Ev_iret dX11_put_60 rfl rfl ?_
  exact k

set_option maxHeartbeats 4000000 in
set_option maxRecDepth 100000 in
theorem c_X11_put_o2 {d : Nat} {S : aS} {Q : Option Value → aS → Prop} {lf : Int32} (hO : S[0]? = some (co lf)) {fa : Nat → Option Nat} (hA : S[1]? = some (rA 3 4 fa)) (hfa : ∀ k, k < 4 → fa k = some (2 + 2 * k)) {kk : Nat} (hk : kk < 4) {ln len : Int32} {f : Nat → Int32} (hS : S[2 + 2 * kk]? = some (.inr (5, [.ref (3 + 2 * kk), .int ln, .int len]))) (hc : S[3 + 2 * kk]? = some (iA 60 f)) (hn : ¬ ln = -1) {z : Int} (hz : len.toInt = z) (hzr : 0 ≤ z ∧ z ≤ 60) (hln : ln = 2) {ii : Nat} {v : Int32} (hi : (ii : Int) < z) (k : Q (some (.int 1)) ((S.set 0 (co 0)).set (3 + 2 * kk) (iA 60 (upd f ii v)))) : Mth mX11_put (d + 2) 0 [.ref 0, .int (nI kk), .int (nI ii), .int v] S Q := by
  refine Mth_of (by decide) rfl ?_
  refine Ev_aload_n dX11_put_0 rfl ?_
  refine Ev_iload_n dX11_put_1 rfl ?_
  refine Ev_callV (bc := 0) (b := 0) dX11_put_2 cv_X11_64 rfl hO (Nat.le_of_ble_eq_true rfl) (by omega) ?_
  refine c_X11_sheetAt hO hA hfa (kk := kk) (by omega) ?_
  refine Ev_astore dX11_put_5 rfl ?_
  refine Ev_aload dX11_put_7 rfl ?_
  refine Ev_ifnonnull dX11_put_9 ?_
  refine Ev_aload dX11_put_18 rfl ?_
  refine Ev_callV (bc := 0) (b := 0) dX11_put_20 cv_X11_228 rfl hS (Nat.le_of_ble_eq_true rfl) (by omega) ?_
  refine c_X5_hasNothing hS (fun q => absurd q hn) (fun _ => ?_)
  refine Ev_if_eq dX11_put_23 (fun _ => ?_) (fun c => absurd (by decide) c)
  refine Ev_aload dX11_put_32 rfl ?_
  refine Ev_iload_n dX11_put_34 rfl ?_
  refine Ev_callV (bc := 0) (b := 0) dX11_put_35 cv_X11_234 rfl hS (Nat.le_of_ble_eq_true rfl) (by omega) ?_
  refine c_X5_hasCell hS (fun _ => ?_) (fun q => absurd q (not_not_intro (by rw [hz, nIt (by omega)]; omega)))
  refine Ev_if_ne dX11_put_38 (fun _ => ?_) (fun c => absurd c (by decide))
  refine Ev_aload_n dX11_put_47 rfl ?_
  refine Ev_iconst (v := 0) dX11_put_48 (by decide) ?_
  refine Ev_put dX11_put_49 fr_X11_60_11 hO rfl rfl rfl ?_
  refine Ev_aload dX11_put_52 rfl ?_
  refine Ev_iload_n dX11_put_54 rfl ?_
  refine Ev_iload_n dX11_put_55 rfl ?_
  refine Ev_callV (bc := 0) (b := 0) dX11_put_56 cv_X11_237 rfl (gn (by omega) hS) (Nat.le_of_ble_eq_true rfl) (by omega) ?_
  refine c_X5_write2 (gn (by omega) hS) (gn (by omega) hc) (by omega) hln (by rw [hz]; exact hi) (by omega) ?_
  refine Ev_iconst (v := 1) dX11_put_59 (by decide) ?_
  refine Ev_iret dX11_put_60 rfl rfl ?_
  exact k

set_option maxHeartbeats 4000000 in
set_option maxRecDepth 100000 in
theorem c_X11_cell_unk {d : Nat} {S : aS} {Q : Option Value → aS → Prop} {lf : Int32} (hO : S[0]? = some (co lf)) {x : Int32} (hk : ¬ (0 ≤ x.toInt ∧ x.toInt ≤ 3)) {i w : Int32} (k : Q (some (.long (-9223372036854775808))) (S.set 0 (co 0))) : Mth mX11_cell (d + 2) 0 [.ref 0, .int x, .int i, .int w] S Q := by
  refine Mth_of (by decide) rfl ?_
  refine Ev_aload_n dX11_cell_0 rfl ?_
  refine Ev_iload_n dX11_cell_1 rfl ?_
  refine Ev_callV (bc := 0) (b := 0) dX11_cell_2 cv_X11_64 rfl hO (Nat.le_of_ble_eq_true rfl) (by omega) ?_
  refine c_X11_sheetAt_bad hO hk ?_
  refine Ev_astoreN dX11_cell_5 rfl ?_
  refine Ev_aloadN dX11_cell_7 rfl ?_
  refine Ev_ifnullN dX11_cell_9 ?_
  refine Ev_aload_n dX11_cell_21 rfl ?_
  refine Ev_iconst (v := 0) dX11_cell_22 (by decide) ?_
  refine Ev_put dX11_cell_23 fr_X11_60_11 hO rfl rfl rfl ?_
  refine Ev_ldc2 dX11_cell_26 wl_X11_165 ?_
  refine Ev_lret dX11_cell_29 rfl ?_
  exact k

set_option maxHeartbeats 4000000 in
set_option maxRecDepth 100000 in
theorem c_X11_cell_lane {d : Nat} {S : aS} {Q : Option Value → aS → Prop} {lf : Int32} (hO : S[0]? = some (co lf)) {fa : Nat → Option Nat} (hA : S[1]? = some (rA 3 4 fa)) (hfa : ∀ k, k < 4 → fa k = some (2 + 2 * k)) {kk : Nat} (hk : kk < 4) {i w : Int32} (hw : ¬ (0 ≤ w.toInt ∧ w.toInt ≤ 2)) (k : Q (some (.long (-9223372036854775808))) (S.set 0 (co 0))) : Mth mX11_cell (d + 2) 0 [.ref 0, .int (nI kk), .int i, .int w] S Q := by
  refine Mth_of (by decide) rfl ?_
  refine Ev_aload_n dX11_cell_0 rfl ?_
  refine Ev_iload_n dX11_cell_1 rfl ?_
  refine Ev_callV (bc := 0) (b := 0) dX11_cell_2 cv_X11_64 rfl hO (Nat.le_of_ble_eq_true rfl) (by omega) ?_
  refine c_X11_sheetAt hO hA hfa (kk := kk) (by omega) ?_
  refine Ev_astore dX11_cell_5 rfl ?_
  refine Ev_aload dX11_cell_7 rfl ?_
  refine Ev_ifnull dX11_cell_9 ?_
  refine Ev_iload_n dX11_cell_12 rfl ?_
  refine Ev_iconst (v := 0) dX11_cell_13 (by decide) ?_
  refine Ev_iconst (v := 2) dX11_cell_14 (by decide) ?_
  refine Ev_callS (bc := 0) (b := 0) dX11_cell_15 cs_X11_72 rfl (Nat.le_of_ble_eq_true rfl) (by omega) ?_
  refine c_X11_isWithin (fun q => absurd q hw) (fun _ => ?_)
  refine Ev_if_ne dX11_cell_18 (fun c => absurd (by decide) c) (fun _ => ?_)
  refine Ev_aload_n dX11_cell_21 rfl ?_
  refine Ev_iconst (v := 0) dX11_cell_22 (by decide) ?_
  refine Ev_put dX11_cell_23 fr_X11_60_11 hO rfl rfl rfl ?_
  refine Ev_ldc2 dX11_cell_26 wl_X11_165 ?_
  refine Ev_lret dX11_cell_29 rfl ?_
  exact k

set_option maxHeartbeats 4000000 in
set_option maxRecDepth 100000 in
theorem c_X11_cell_cast {d : Nat} {S : aS} {Q : Option Value → aS → Prop} {lf : Int32} (hO : S[0]? = some (co lf)) {fa : Nat → Option Nat} (hA : S[1]? = some (rA 3 4 fa)) (hfa : ∀ k, k < 4 → fa k = some (2 + 2 * k)) {kk : Nat} (hk : kk < 4) {ln len : Int32} {f : Nat → Int32} (hS : S[2 + 2 * kk]? = some (.inr (5, [.ref (3 + 2 * kk), .int ln, .int len]))) (hc : S[3 + 2 * kk]? = some (iA 60 f)) {i w : Int32} (hw : 0 ≤ w.toInt ∧ w.toInt ≤ 2) (hn : ¬ ln = -1) (heq : ¬ ln = w) (k : Q (some (.long (-9223372036854775808))) (S.set 0 (co 2))) : Mth mX11_cell (d + 3) 0 [.ref 0, .int (nI kk), .int i, .int w] S Q := by
  refine Mth_of (by decide) rfl ?_
  refine Ev_aload_n dX11_cell_0 rfl ?_
  refine Ev_iload_n dX11_cell_1 rfl ?_
  refine Ev_callV (bc := 0) (b := 0) dX11_cell_2 cv_X11_64 rfl hO (Nat.le_of_ble_eq_true rfl) (by omega) ?_
  refine c_X11_sheetAt hO hA hfa (kk := kk) (by omega) ?_
  refine Ev_astore dX11_cell_5 rfl ?_
  refine Ev_aload dX11_cell_7 rfl ?_
  refine Ev_ifnull dX11_cell_9 ?_
  refine Ev_iload_n dX11_cell_12 rfl ?_
  refine Ev_iconst (v := 0) dX11_cell_13 (by decide) ?_
  refine Ev_iconst (v := 2) dX11_cell_14 (by decide) ?_
  refine Ev_callS (bc := 0) (b := 0) dX11_cell_15 cs_X11_72 rfl (Nat.le_of_ble_eq_true rfl) (by omega) ?_
  refine c_X11_isWithin (fun _ => ?_) (fun q => absurd q (not_not_intro hw))
  refine Ev_if_ne dX11_cell_18 (fun _ => ?_) (fun c => absurd c (by decide))
  refine Ev_aload_n dX11_cell_30 rfl ?_
  refine Ev_aload dX11_cell_31 rfl ?_
  refine Ev_iload_n dX11_cell_33 rfl ?_
  refine Ev_callV (bc := 0) (b := 0) dX11_cell_34 cv_X11_240 rfl hS (Nat.le_of_ble_eq_true rfl) (by omega) ?_
  refine c_X5_faultOfRow hS (fun q => absurd q hn) (fun _ q => absurd q heq) (fun _ _ => ?_)
  refine Ev_put dX11_cell_37 fr_X11_60_11 hO rfl rfl rfl ?_
  refine Ev_aload_n dX11_cell_40 rfl ?_
  refine Ev_get dX11_cell_41 fg_X11_60_11 (gs hO) rfl ?_
  refine Ev_if_ne dX11_cell_44 (fun _ => ?_) (fun c => absurd c (by decide))
  refine Ev_aload_n dX11_cell_61 rfl ?_
  refine Ev_get dX11_cell_62 fg_X11_60_11 (gs hO) rfl ?_
  refine Ev_if_ne dX11_cell_65 (fun _ => ?_) (fun c => absurd c (by decide))
  refine Ev_ldc2 dX11_cell_78 wl_X11_165 ?_
  refine Ev_lret dX11_cell_81 rfl ?_
  exact k

set_option maxHeartbeats 4000000 in
set_option maxRecDepth 100000 in
theorem c_X11_cell_n {d : Nat} {S : aS} {Q : Option Value → aS → Prop} {lf : Int32} (hO : S[0]? = some (co lf)) {fa : Nat → Option Nat} (hA : S[1]? = some (rA 3 4 fa)) (hfa : ∀ k, k < 4 → fa k = some (2 + 2 * k)) {kk : Nat} (hk : kk < 4) {ln len : Int32} {f : Nat → Int32} (hS : S[2 + 2 * kk]? = some (.inr (5, [.ref (3 + 2 * kk), .int ln, .int len]))) (hc : S[3 + 2 * kk]? = some (iA 60 f)) {i w : Int32} (hw : 0 ≤ w.toInt ∧ w.toInt ≤ 2) (hn : ln = -1) (k : Q (some (.long (-9223372036854775808))) (S.set 0 (co 1))) : Mth mX11_cell (d + 3) 0 [.ref 0, .int (nI kk), .int i, .int w] S Q := by
  refine Mth_of (by decide) rfl ?_
  refine Ev_aload_n dX11_cell_0 rfl ?_
  refine Ev_iload_n dX11_cell_1 rfl ?_
  refine Ev_callV (bc := 0) (b := 0) dX11_cell_2 cv_X11_64 rfl hO (Nat.le_of_ble_eq_true rfl) (by omega) ?_
  refine c_X11_sheetAt hO hA hfa (kk := kk) (by omega) ?_
  refine Ev_astore dX11_cell_5 rfl ?_
  refine Ev_aload dX11_cell_7 rfl ?_
  refine Ev_ifnull dX11_cell_9 ?_
  refine Ev_iload_n dX11_cell_12 rfl ?_
  refine Ev_iconst (v := 0) dX11_cell_13 (by decide) ?_
  refine Ev_iconst (v := 2) dX11_cell_14 (by decide) ?_
  refine Ev_callS (bc := 0) (b := 0) dX11_cell_15 cs_X11_72 rfl (Nat.le_of_ble_eq_true rfl) (by omega) ?_
  refine c_X11_isWithin (fun _ => ?_) (fun q => absurd q (not_not_intro hw))
  refine Ev_if_ne dX11_cell_18 (fun _ => ?_) (fun c => absurd c (by decide))
  refine Ev_aload_n dX11_cell_30 rfl ?_
  refine Ev_aload dX11_cell_31 rfl ?_
  refine Ev_iload_n dX11_cell_33 rfl ?_
  refine Ev_callV (bc := 0) (b := 0) dX11_cell_34 cv_X11_240 rfl hS (Nat.le_of_ble_eq_true rfl) (by omega) ?_
  refine c_X5_faultOfRow hS (fun _ => ?_) (fun q => absurd hn q) (fun q => absurd hn q)
  refine Ev_put dX11_cell_37 fr_X11_60_11 hO rfl rfl rfl ?_
  refine Ev_aload_n dX11_cell_40 rfl ?_
  refine Ev_get dX11_cell_41 fg_X11_60_11 (gs hO) rfl ?_
  refine Ev_if_ne dX11_cell_44 (fun _ => ?_) (fun c => absurd c (by decide))
  refine Ev_aload_n dX11_cell_61 rfl ?_
  refine Ev_get dX11_cell_62 fg_X11_60_11 (gs hO) rfl ?_
  refine Ev_if_ne dX11_cell_65 (fun _ => ?_) (fun c => absurd c (by decide))
  refine Ev_ldc2 dX11_cell_78 wl_X11_165 ?_
  refine Ev_lret dX11_cell_81 rfl ?_
  exact k

set_option maxHeartbeats 4000000 in
set_option maxRecDepth 100000 in
theorem c_X11_cell_i {d : Nat} {S : aS} {Q : Option Value → aS → Prop} {lf : Int32} (hO : S[0]? = some (co lf)) {fa : Nat → Option Nat} (hA : S[1]? = some (rA 3 4 fa)) (hfa : ∀ k, k < 4 → fa k = some (2 + 2 * k)) {kk : Nat} (hk : kk < 4) {ln len : Int32} {f : Nat → Int32} (hS : S[2 + 2 * kk]? = some (.inr (5, [.ref (3 + 2 * kk), .int ln, .int len]))) (hc : S[3 + 2 * kk]? = some (iA 60 f)) (hn : ¬ ln = -1) {z : Int} (hz : len.toInt = z) (hzr : 0 ≤ z ∧ z ≤ 60) {i w : Int32} (hw : 0 ≤ w.toInt ∧ w.toInt ≤ 2) (heq : ln = w) (hi : ¬ (0 ≤ i.toInt ∧ i.toInt < z)) (k : Q (some (.long (-9223372036854775808))) (S.set 0 (co 3))) : Mth mX11_cell (d + 3) 0 [.ref 0, .int (nI kk), .int i, .int w] S Q := by
  refine Mth_of (by decide) rfl ?_
  refine Ev_aload_n dX11_cell_0 rfl ?_
  refine Ev_iload_n dX11_cell_1 rfl ?_
  refine Ev_callV (bc := 0) (b := 0) dX11_cell_2 cv_X11_64 rfl hO (Nat.le_of_ble_eq_true rfl) (by omega) ?_
  refine c_X11_sheetAt hO hA hfa (kk := kk) (by omega) ?_
  refine Ev_astore dX11_cell_5 rfl ?_
  refine Ev_aload dX11_cell_7 rfl ?_
  refine Ev_ifnull dX11_cell_9 ?_
  refine Ev_iload_n dX11_cell_12 rfl ?_
  refine Ev_iconst (v := 0) dX11_cell_13 (by decide) ?_
  refine Ev_iconst (v := 2) dX11_cell_14 (by decide) ?_
  refine Ev_callS (bc := 0) (b := 0) dX11_cell_15 cs_X11_72 rfl (Nat.le_of_ble_eq_true rfl) (by omega) ?_
  refine c_X11_isWithin (fun _ => ?_) (fun q => absurd q (not_not_intro hw))
  refine Ev_if_ne dX11_cell_18 (fun _ => ?_) (fun c => absurd c (by decide))
  refine Ev_aload_n dX11_cell_30 rfl ?_
  refine Ev_aload dX11_cell_31 rfl ?_
  refine Ev_iload_n dX11_cell_33 rfl ?_
  refine Ev_callV (bc := 0) (b := 0) dX11_cell_34 cv_X11_240 rfl hS (Nat.le_of_ble_eq_true rfl) (by omega) ?_
  refine c_X5_faultOfRow hS (fun q => absurd q hn) (fun _ _ => ?_) (fun _ q => absurd heq q)
  refine Ev_put dX11_cell_37 fr_X11_60_11 hO rfl rfl rfl ?_
  refine Ev_aload_n dX11_cell_40 rfl ?_
  refine Ev_get dX11_cell_41 fg_X11_60_11 (gs hO) rfl ?_
  refine Ev_if_ne dX11_cell_44 (fun c => absurd (by decide) c) (fun _ => ?_)
  refine Ev_aload dX11_cell_47 rfl ?_
  refine Ev_iload_n dX11_cell_49 rfl ?_
  refine Ev_callV (bc := 0) (b := 0) dX11_cell_50 cv_X11_234 rfl (gn (by omega) hS) (Nat.le_of_ble_eq_true rfl) (by omega) ?_
  refine c_X5_hasCell (gn (by omega) hS) (fun q => absurd q (by rw [hz]; exact hi)) (fun _ => ?_)
  refine Ev_if_ne dX11_cell_53 (fun c => absurd (by decide) c) (fun _ => ?_)
  refine Ev_aload_n dX11_cell_56 rfl ?_
  refine Ev_iconst (v := 3) dX11_cell_57 (by decide) ?_
  refine Ev_put dX11_cell_58 fr_X11_60_11 (gs hO) rfl rfl rfl ?_
  refine Ev_st gss ?_
  refine Ev_aload_n dX11_cell_61 rfl ?_
  refine Ev_get dX11_cell_62 fg_X11_60_11 (gs hO) rfl ?_
  refine Ev_if_ne dX11_cell_65 (fun _ => ?_) (fun c => absurd c (by decide))
  refine Ev_ldc2 dX11_cell_78 wl_X11_165 ?_
  refine Ev_lret dX11_cell_81 rfl ?_
  exact k

set_option maxHeartbeats 4000000 in
set_option maxRecDepth 100000 in
theorem c_X11_cell_o {d : Nat} {S : aS} {Q : Option Value → aS → Prop} {lf : Int32} (hO : S[0]? = some (co lf)) {fa : Nat → Option Nat} (hA : S[1]? = some (rA 3 4 fa)) (hfa : ∀ k, k < 4 → fa k = some (2 + 2 * k)) {kk : Nat} (hk : kk < 4) {ln len : Int32} {f : Nat → Int32} (hS : S[2 + 2 * kk]? = some (.inr (5, [.ref (3 + 2 * kk), .int ln, .int len]))) (hc : S[3 + 2 * kk]? = some (iA 60 f)) (hn : ¬ ln = -1) {z : Int} (hz : len.toInt = z) (hzr : 0 ≤ z ∧ z ≤ 60) {ii : Nat} {w : Int32} (hw : 0 ≤ w.toInt ∧ w.toInt ≤ 2) (heq : ln = w) (hi : (ii : Int) < z) (k : Q (some (.long (f ii).toInt64)) (S.set 0 (co 0))) : Mth mX11_cell (d + 3) 0 [.ref 0, .int (nI kk), .int (nI ii), .int w] S Q := by
  refine Mth_of (by decide) rfl ?_
  refine Ev_aload_n dX11_cell_0 rfl ?_
  refine Ev_iload_n dX11_cell_1 rfl ?_
  refine Ev_callV (bc := 0) (b := 0) dX11_cell_2 cv_X11_64 rfl hO (Nat.le_of_ble_eq_true rfl) (by omega) ?_
  refine c_X11_sheetAt hO hA hfa (kk := kk) (by omega) ?_
  refine Ev_astore dX11_cell_5 rfl ?_
  refine Ev_aload dX11_cell_7 rfl ?_
  refine Ev_ifnull dX11_cell_9 ?_
  refine Ev_iload_n dX11_cell_12 rfl ?_
  refine Ev_iconst (v := 0) dX11_cell_13 (by decide) ?_
  refine Ev_iconst (v := 2) dX11_cell_14 (by decide) ?_
  refine Ev_callS (bc := 0) (b := 0) dX11_cell_15 cs_X11_72 rfl (Nat.le_of_ble_eq_true rfl) (by omega) ?_
  refine c_X11_isWithin (fun _ => ?_) (fun q => absurd q (not_not_intro hw))
  refine Ev_if_ne dX11_cell_18 (fun _ => ?_) (fun c => absurd c (by decide))
  refine Ev_aload_n dX11_cell_30 rfl ?_
  refine Ev_aload dX11_cell_31 rfl ?_
  refine Ev_iload_n dX11_cell_33 rfl ?_
  refine Ev_callV (bc := 0) (b := 0) dX11_cell_34 cv_X11_240 rfl hS (Nat.le_of_ble_eq_true rfl) (by omega) ?_
  refine c_X5_faultOfRow hS (fun q => absurd q hn) (fun _ _ => ?_) (fun _ q => absurd heq q)
  refine Ev_put dX11_cell_37 fr_X11_60_11 hO rfl rfl rfl ?_
  refine Ev_aload_n dX11_cell_40 rfl ?_
  refine Ev_get dX11_cell_41 fg_X11_60_11 (gs hO) rfl ?_
  refine Ev_if_ne dX11_cell_44 (fun c => absurd (by decide) c) (fun _ => ?_)
  refine Ev_aload dX11_cell_47 rfl ?_
  refine Ev_iload_n dX11_cell_49 rfl ?_
  refine Ev_callV (bc := 0) (b := 0) dX11_cell_50 cv_X11_234 rfl (gn (by omega) hS) (Nat.le_of_ble_eq_true rfl) (by omega) ?_
  refine c_X5_hasCell (gn (by omega) hS) (fun _ => ?_) (fun q => absurd q (not_not_intro (by rw [hz, nIt (by omega)]; omega)))
  refine Ev_if_ne dX11_cell_53 (fun _ => ?_) (fun c => absurd c (by decide))
  refine Ev_aload_n dX11_cell_61 rfl ?_
  refine Ev_get dX11_cell_62 fg_X11_60_11 (gs hO) rfl ?_
  refine Ev_if_ne dX11_cell_65 (fun c => absurd (by decide) c) (fun _ => ?_)
  refine Ev_aload dX11_cell_68 rfl ?_
  refine Ev_iload_n dX11_cell_70 rfl ?_
  refine Ev_callV (bc := 0) (b := 0) dX11_cell_71 cv_X11_243 rfl (gn (by omega) hS) (Nat.le_of_ble_eq_true rfl) (by omega) ?_
  refine c_X5_read (gn (by omega) hS) (gn (by omega) hc) (ii := ii) (by rw [hz]; exact hi) (by omega) ?_
  refine Ev_i2l dX11_cell_74 ?_
  refine Ev_goto dX11_cell_75 ?_
  refine Ev_lret dX11_cell_81 rfl ?_
  exact k

set_option maxHeartbeats 4000000 in
set_option maxRecDepth 100000 in
theorem c_X11_lose_unk {d : Nat} {S : aS} {Q : Option Value → aS → Prop} {lf : Int32} (hO : S[0]? = some (co lf)) {x : Int32} (hk : ¬ (0 ≤ x.toInt ∧ x.toInt ≤ 3)) (k : Q (some (.int (-1))) S) : Mth mX11_lose (d + 2) 0 [.ref 0, .int x] S Q := by
  refine Mth_of (by decide) rfl ?_
  refine Ev_aload_n dX11_lose_0 rfl ?_
  refine Ev_iload_n dX11_lose_1 rfl ?_
  refine Ev_callV (bc := 0) (b := 0) dX11_lose_2 cv_X11_64 rfl hO (Nat.le_of_ble_eq_true rfl) (by omega) ?_
  refine c_X11_sheetAt_bad hO hk ?_
  refine Ev_astore_nN dX11_lose_5 rfl ?_
  refine Ev_aload_nN dX11_lose_6 rfl ?_
  refine Ev_ifnonnullN dX11_lose_7 ?_
  refine Ev_iconst (v := (-1)) dX11_lose_10 (by decide) ?_
  refine Ev_iret dX11_lose_11 rfl rfl ?_
  exact k

set_option maxHeartbeats 4000000 in
set_option maxRecDepth 100000 in
theorem c_X11_lose_n {d : Nat} {S : aS} {Q : Option Value → aS → Prop} {lf : Int32} (hO : S[0]? = some (co lf)) {fa : Nat → Option Nat} (hA : S[1]? = some (rA 3 4 fa)) (hfa : ∀ k, k < 4 → fa k = some (2 + 2 * k)) {kk : Nat} (hk : kk < 4) {ln len : Int32} {f : Nat → Int32} (hS : S[2 + 2 * kk]? = some (.inr (5, [.ref (3 + 2 * kk), .int ln, .int len]))) (hc : S[3 + 2 * kk]? = some (iA 60 f)) (hn : ln = -1) (k : Q (some (.int 0)) S) : Mth mX11_lose (d + 2) 0 [.ref 0, .int (nI kk)] S Q := by
  refine Mth_of (by decide) rfl ?_
  refine Ev_aload_n dX11_lose_0 rfl ?_
  refine Ev_iload_n dX11_lose_1 rfl ?_
  refine Ev_callV (bc := 0) (b := 0) dX11_lose_2 cv_X11_64 rfl hO (Nat.le_of_ble_eq_true rfl) (by omega) ?_
  refine c_X11_sheetAt hO hA hfa (kk := kk) (by omega) ?_
  refine Ev_astore_n dX11_lose_5 rfl ?_
  refine Ev_aload_n dX11_lose_6 rfl ?_
  refine Ev_ifnonnull dX11_lose_7 ?_
  refine Ev_aload_n dX11_lose_12 rfl ?_
  refine Ev_callV (bc := 0) (b := 0) dX11_lose_13 cv_X11_228 rfl hS (Nat.le_of_ble_eq_true rfl) (by omega) ?_
  refine c_X5_hasNothing hS (fun _ => ?_) (fun q => absurd q (not_not_intro hn))
  refine Ev_if_eq dX11_lose_16 (fun c => absurd c (by decide)) (fun _ => ?_)
  refine Ev_iconst (v := 0) dX11_lose_19 (by decide) ?_
  refine Ev_iret dX11_lose_20 rfl rfl ?_
  exact k

set_option maxHeartbeats 4000000 in
set_option maxRecDepth 100000 in
theorem c_X11_lose_o {d : Nat} {S : aS} {Q : Option Value → aS → Prop} {lf : Int32} (hO : S[0]? = some (co lf)) {fa : Nat → Option Nat} (hA : S[1]? = some (rA 3 4 fa)) (hfa : ∀ k, k < 4 → fa k = some (2 + 2 * k)) {kk : Nat} (hk : kk < 4) {ln len : Int32} {f : Nat → Int32} (hS : S[2 + 2 * kk]? = some (.inr (5, [.ref (3 + 2 * kk), .int ln, .int len]))) (hc : S[3 + 2 * kk]? = some (iA 60 f)) (hn : ¬ ln = -1) (k : Q (some (.int 1)) (S.set (2 + 2 * kk) (.inr (5, [.ref (3 + 2 * kk), .int (-1), .int 0])))) : Mth mX11_lose (d + 2) 0 [.ref 0, .int (nI kk)] S Q := by
  refine Mth_of (by decide) rfl ?_
  refine Ev_aload_n dX11_lose_0 rfl ?_
  refine Ev_iload_n dX11_lose_1 rfl ?_
  refine Ev_callV (bc := 0) (b := 0) dX11_lose_2 cv_X11_64 rfl hO (Nat.le_of_ble_eq_true rfl) (by omega) ?_
  refine c_X11_sheetAt hO hA hfa (kk := kk) (by omega) ?_
  refine Ev_astore_n dX11_lose_5 rfl ?_
  refine Ev_aload_n dX11_lose_6 rfl ?_
  refine Ev_ifnonnull dX11_lose_7 ?_
  refine Ev_aload_n dX11_lose_12 rfl ?_
  refine Ev_callV (bc := 0) (b := 0) dX11_lose_13 cv_X11_228 rfl hS (Nat.le_of_ble_eq_true rfl) (by omega) ?_
  refine c_X5_hasNothing hS (fun q => absurd q hn) (fun _ => ?_)
  refine Ev_if_eq dX11_lose_16 (fun _ => ?_) (fun c => absurd (by decide) c)
  refine Ev_aload_n dX11_lose_21 rfl ?_
  refine Ev_callV (bc := 0) (b := 0) dX11_lose_22 cv_X11_231 rfl hS (Nat.le_of_ble_eq_true rfl) (by omega) ?_
  refine c_X5_drop hS ?_
  refine Ev_iconst (v := 1) dX11_lose_25 (by decide) ?_
  refine Ev_iret dX11_lose_26 rfl rfl ?_
  exact k

set_option maxHeartbeats 4000000 in
set_option maxRecDepth 100000 in
theorem c_X11_sheet_unk {d : Nat} {S : aS} {Q : Option Value → aS → Prop} {lf : Int32} (hO : S[0]? = some (co lf)) {x : Int32} (hk : ¬ (0 ≤ x.toInt ∧ x.toInt ≤ 3)) {w n9 : Int32} (k : Q (some (.int (-1))) (S.set 0 (co 0))) : Mth mX11_sheet (d + 3) 0 [.ref 0, .int x, .int w, .int n9] S Q := by
  refine Mth_of (by decide) rfl ?_
  refine Ev_aload_n dX11_sheet_0 rfl ?_
  refine Ev_iload_n dX11_sheet_1 rfl ?_
  refine Ev_callV (bc := 0) (b := 0) dX11_sheet_2 cv_X11_64 rfl hO (Nat.le_of_ble_eq_true rfl) (by omega) ?_
  refine c_X11_sheetAt_bad hO hk ?_
  refine Ev_astoreN dX11_sheet_5 rfl ?_
  refine Ev_aloadN dX11_sheet_7 rfl ?_
  refine Ev_ifnonnullN dX11_sheet_9 ?_
  refine Ev_aload_n dX11_sheet_12 rfl ?_
  refine Ev_iconst (v := (-1)) dX11_sheet_13 (by decide) ?_
  refine Ev_callV (bc := 0) (b := 0) dX11_sheet_14 cv_X11_68 rfl hO (Nat.le_of_ble_eq_true rfl) (by omega) ?_
  refine c_X11_refused hO ?_
  refine Ev_iret dX11_sheet_17 rfl rfl ?_
  exact k

set_option maxHeartbeats 4000000 in
set_option maxRecDepth 100000 in
theorem c_X11_sheet_lane {d : Nat} {S : aS} {Q : Option Value → aS → Prop} {lf : Int32} (hO : S[0]? = some (co lf)) {fa : Nat → Option Nat} (hA : S[1]? = some (rA 3 4 fa)) (hfa : ∀ k, k < 4 → fa k = some (2 + 2 * k)) {kk : Nat} (hk : kk < 4) {w n9 : Int32} (hw : ¬ (0 ≤ w.toInt ∧ w.toInt ≤ 2)) (k : Q (some (.int (-2))) (S.set 0 (co 0))) : Mth mX11_sheet (d + 3) 0 [.ref 0, .int (nI kk), .int w, .int n9] S Q := by
  refine Mth_of (by decide) rfl ?_
  refine Ev_aload_n dX11_sheet_0 rfl ?_
  refine Ev_iload_n dX11_sheet_1 rfl ?_
  refine Ev_callV (bc := 0) (b := 0) dX11_sheet_2 cv_X11_64 rfl hO (Nat.le_of_ble_eq_true rfl) (by omega) ?_
  refine c_X11_sheetAt hO hA hfa (kk := kk) (by omega) ?_
  refine Ev_astore dX11_sheet_5 rfl ?_
  refine Ev_aload dX11_sheet_7 rfl ?_
  refine Ev_ifnonnull dX11_sheet_9 ?_
  refine Ev_iload_n dX11_sheet_18 rfl ?_
  refine Ev_iconst (v := 0) dX11_sheet_19 (by decide) ?_
  refine Ev_iconst (v := 2) dX11_sheet_20 (by decide) ?_
  refine Ev_callS (bc := 0) (b := 0) dX11_sheet_21 cs_X11_72 rfl (Nat.le_of_ble_eq_true rfl) (by omega) ?_
  refine c_X11_isWithin (fun q => absurd q hw) (fun _ => ?_)
  refine Ev_if_eq dX11_sheet_24 (fun _ => ?_) (fun c => absurd (by decide) c)
  refine Ev_aload_n dX11_sheet_33 rfl ?_
  refine Ev_bipush (v := (-2)) dX11_sheet_34 (by decide) ?_
  refine Ev_callV (bc := 0) (b := 0) dX11_sheet_36 cv_X11_68 rfl hO (Nat.le_of_ble_eq_true rfl) (by omega) ?_
  refine c_X11_refused hO ?_
  refine Ev_iret dX11_sheet_39 rfl rfl ?_
  exact k

set_option maxHeartbeats 4000000 in
set_option maxRecDepth 100000 in
theorem c_X11_sheet_big {d : Nat} {S : aS} {Q : Option Value → aS → Prop} {lf : Int32} (hO : S[0]? = some (co lf)) {fa : Nat → Option Nat} (hA : S[1]? = some (rA 3 4 fa)) (hfa : ∀ k, k < 4 → fa k = some (2 + 2 * k)) {kk : Nat} (hk : kk < 4) {w n9 : Int32} (hw : 0 ≤ w.toInt ∧ w.toInt ≤ 2) (hb : 60 < n9.toInt) (k : Q (some (.int (-2))) (S.set 0 (co 0))) : Mth mX11_sheet (d + 3) 0 [.ref 0, .int (nI kk), .int w, .int n9] S Q := by
  refine Mth_of (by decide) rfl ?_
  refine Ev_aload_n dX11_sheet_0 rfl ?_
  refine Ev_iload_n dX11_sheet_1 rfl ?_
  refine Ev_callV (bc := 0) (b := 0) dX11_sheet_2 cv_X11_64 rfl hO (Nat.le_of_ble_eq_true rfl) (by omega) ?_
  refine c_X11_sheetAt hO hA hfa (kk := kk) (by omega) ?_
  refine Ev_astore dX11_sheet_5 rfl ?_
  refine Ev_aload dX11_sheet_7 rfl ?_
  refine Ev_ifnonnull dX11_sheet_9 ?_
  refine Ev_iload_n dX11_sheet_18 rfl ?_
  refine Ev_iconst (v := 0) dX11_sheet_19 (by decide) ?_
  refine Ev_iconst (v := 2) dX11_sheet_20 (by decide) ?_
  refine Ev_callS (bc := 0) (b := 0) dX11_sheet_21 cs_X11_72 rfl (Nat.le_of_ble_eq_true rfl) (by omega) ?_
  refine c_X11_isWithin (fun _ => ?_) (fun q => absurd q (not_not_intro hw))
  refine Ev_if_eq dX11_sheet_24 (fun c => absurd c (by decide)) (fun _ => ?_)
  refine Ev_iload_n dX11_sheet_27 rfl ?_
  refine Ev_bipush (v := 60) dX11_sheet_28 (by decide) ?_
  refine Ev_icmp_le dX11_sheet_30 (fun c => absurd c (by first | (simp only [xlt, xle, xeq, z32_0, z32_1, z32_2, z32_3, z32_8, z32_12, z32_60]; omega) | (simp only [xlt, xle, xeq, z32_0, z32_1, z32_2, z32_3, z32_8, z32_12, z32_60]; done) | omega)) (fun _ => ?_)
  refine Ev_aload_n dX11_sheet_33 rfl ?_
  refine Ev_bipush (v := (-2)) dX11_sheet_34 (by decide) ?_
  refine Ev_callV (bc := 0) (b := 0) dX11_sheet_36 cv_X11_68 rfl hO (Nat.le_of_ble_eq_true rfl) (by omega) ?_
  refine c_X11_refused hO ?_
  refine Ev_iret dX11_sheet_39 rfl rfl ?_
  exact k

set_option maxHeartbeats 4000000 in
set_option maxRecDepth 100000 in
theorem c_X11_sheet_size {d : Nat} {S : aS} {Q : Option Value → aS → Prop} {lf : Int32} (hO : S[0]? = some (co lf)) {fa : Nat → Option Nat} (hA : S[1]? = some (rA 3 4 fa)) (hfa : ∀ k, k < 4 → fa k = some (2 + 2 * k)) {kk : Nat} (hk : kk < 4) {w n9 : Int32} (hw : 0 ≤ w.toInt ∧ w.toInt ≤ 2) (hb : n9.toInt < 0) (k : Q (some (.int (-14))) (S.set 0 (co 4))) : Mth mX11_sheet (d + 3) 0 [.ref 0, .int (nI kk), .int w, .int n9] S Q := by
  refine Mth_of (by decide) rfl ?_
  refine Ev_aload_n dX11_sheet_0 rfl ?_
  refine Ev_iload_n dX11_sheet_1 rfl ?_
  refine Ev_callV (bc := 0) (b := 0) dX11_sheet_2 cv_X11_64 rfl hO (Nat.le_of_ble_eq_true rfl) (by omega) ?_
  refine c_X11_sheetAt hO hA hfa (kk := kk) (by omega) ?_
  refine Ev_astore dX11_sheet_5 rfl ?_
  refine Ev_aload dX11_sheet_7 rfl ?_
  refine Ev_ifnonnull dX11_sheet_9 ?_
  refine Ev_iload_n dX11_sheet_18 rfl ?_
  refine Ev_iconst (v := 0) dX11_sheet_19 (by decide) ?_
  refine Ev_iconst (v := 2) dX11_sheet_20 (by decide) ?_
  refine Ev_callS (bc := 0) (b := 0) dX11_sheet_21 cs_X11_72 rfl (Nat.le_of_ble_eq_true rfl) (by omega) ?_
  refine c_X11_isWithin (fun _ => ?_) (fun q => absurd q (not_not_intro hw))
  refine Ev_if_eq dX11_sheet_24 (fun c => absurd c (by decide)) (fun _ => ?_)
  refine Ev_iload_n dX11_sheet_27 rfl ?_
  refine Ev_bipush (v := 60) dX11_sheet_28 (by decide) ?_
  refine Ev_icmp_le dX11_sheet_30 (fun _ => ?_) (fun c => absurd (by first | (simp only [xlt, xle, xeq, z32_0, z32_1, z32_2, z32_3, z32_8, z32_12, z32_60]; omega) | (simp only [xlt, xle, xeq, z32_0, z32_1, z32_2, z32_3, z32_8, z32_12, z32_60]; done) | omega) c)
  refine Ev_iload_n dX11_sheet_40 rfl ?_
  refine Ev_if_ge dX11_sheet_41 (fun c => absurd c (by first | (simp only [xlt, xle, xeq, z32_0, z32_1, z32_2, z32_3, z32_8, z32_12, z32_60]; omega) | (simp only [xlt, xle, xeq, z32_0, z32_1, z32_2, z32_3, z32_8, z32_12, z32_60]; done) | omega)) (fun _ => ?_)
  refine Ev_aload_n dX11_sheet_44 rfl ?_
  refine Ev_iconst (v := 4) dX11_sheet_45 (by decide) ?_
  refine Ev_callV (bc := 0) (b := 0) dX11_sheet_46 cv_X11_80 rfl hO (Nat.le_of_ble_eq_true rfl) (by omega) ?_
  refine c_X11_failed hO ?_
  refine Ev_topi (y := (-14)) (by decide) ?_
  refine Ev_iret dX11_sheet_49 rfl rfl ?_
  exact k

set_option maxHeartbeats 4000000 in
set_option maxRecDepth 100000 in
theorem c_X11_sheet_o {d : Nat} {S : aS} {Q : Option Value → aS → Prop} {lf : Int32} (hO : S[0]? = some (co lf)) {fa : Nat → Option Nat} (hA : S[1]? = some (rA 3 4 fa)) (hfa : ∀ k, k < 4 → fa k = some (2 + 2 * k)) {kk : Nat} (hk : kk < 4) {ln len : Int32} {f : Nat → Int32} (hS : S[2 + 2 * kk]? = some (.inr (5, [.ref (3 + 2 * kk), .int ln, .int len]))) (hc : S[3 + 2 * kk]? = some (iA 60 f)) {n9 : Nat} (hb : n9 ≤ 60) {w : Int32} (hw : 0 ≤ w.toInt ∧ w.toInt ≤ 2) (k : Q (some (.int 1)) (((S.set 0 (co 0)).set (3 + 2 * kk) (iA 60 (filN f 0 60))).set (2 + 2 * kk) (.inr (5, [.ref (3 + 2 * kk), .int w, .int (nI n9)])))) : Mth mX11_sheet (d + 3) 0 [.ref 0, .int (nI kk), .int w, .int (nI n9)] S Q := by
  refine Mth_of (by decide) rfl ?_
  refine Ev_aload_n dX11_sheet_0 rfl ?_
  refine Ev_iload_n dX11_sheet_1 rfl ?_
  refine Ev_callV (bc := 0) (b := 0) dX11_sheet_2 cv_X11_64 rfl hO (Nat.le_of_ble_eq_true rfl) (by omega) ?_
  refine c_X11_sheetAt hO hA hfa (kk := kk) (by omega) ?_
  refine Ev_astore dX11_sheet_5 rfl ?_
  refine Ev_aload dX11_sheet_7 rfl ?_
  refine Ev_ifnonnull dX11_sheet_9 ?_
  refine Ev_iload_n dX11_sheet_18 rfl ?_
  refine Ev_iconst (v := 0) dX11_sheet_19 (by decide) ?_
  refine Ev_iconst (v := 2) dX11_sheet_20 (by decide) ?_
  refine Ev_callS (bc := 0) (b := 0) dX11_sheet_21 cs_X11_72 rfl (Nat.le_of_ble_eq_true rfl) (by omega) ?_
  refine c_X11_isWithin (fun _ => ?_) (fun q => absurd q (not_not_intro hw))
  refine Ev_if_eq dX11_sheet_24 (fun c => absurd c (by decide)) (fun _ => ?_)
  refine Ev_iload_n dX11_sheet_27 rfl ?_
  refine Ev_bipush (v := 60) dX11_sheet_28 (by decide) ?_
  refine Ev_icmp_le dX11_sheet_30 (fun _ => ?_) (fun c => absurd ((nle (b := 60) (by omega) (by omega)).mpr hb) c)
  refine Ev_iload_n dX11_sheet_40 rfl ?_
  refine Ev_if_ge dX11_sheet_41 (fun _ => ?_) (fun c => absurd (nI_pos' (by omega)) c)
  refine Ev_aload_n dX11_sheet_50 rfl ?_
  refine Ev_iconst (v := 0) dX11_sheet_51 (by decide) ?_
  refine Ev_put dX11_sheet_52 fr_X11_60_11 hO rfl rfl rfl ?_
  refine Ev_aload dX11_sheet_55 rfl ?_
  refine Ev_iload_n dX11_sheet_57 rfl ?_
  refine Ev_iload_n dX11_sheet_58 rfl ?_
  refine Ev_callV (bc := 0) (b := 0) dX11_sheet_59 cv_X11_224 rfl (gn (by omega) hS) (Nat.le_of_ble_eq_true rfl) (by omega) ?_
  refine c_X5_begin (gn (by omega) hS) (gn (by omega) hc) (by omega) ?_
  refine Ev_iconst (v := 1) dX11_sheet_62 (by decide) ?_
  refine Ev_iret dX11_sheet_63 rfl rfl ?_
  exact k

set_option maxHeartbeats 4000000 in
set_option maxRecDepth 100000 in
theorem c_X11_copy_unk1 {d : Nat} {S : aS} {Q : Option Value → aS → Prop} {lf : Int32} (hO : S[0]? = some (co lf)) {fa : Nat → Option Nat} (hA : S[1]? = some (rA 3 4 fa)) (hfa : ∀ k, k < 4 → fa k = some (2 + 2 * k)) {x : Int32} (hk : ¬ (0 ≤ x.toInt ∧ x.toInt ≤ 3)) {i j n9 : Int32} {oo : Nat} (ho : oo < 4) (k : Q (some (.int (-1))) (S.set 0 (co 0))) : Mth mX11_copy (d + 2) 0 [.ref 0, .int x, .int i, .int (nI oo), .int j, .int n9] S Q := by
  refine Mth_of (by decide) rfl ?_
  refine Ev_aload_n dX11_copy_0 rfl ?_
  refine Ev_iload_n dX11_copy_1 rfl ?_
  refine Ev_callV (bc := 0) (b := 0) dX11_copy_2 cv_X11_64 rfl hO (Nat.le_of_ble_eq_true rfl) (by omega) ?_
  refine c_X11_sheetAt_bad hO hk ?_
  refine Ev_astoreN dX11_copy_5 rfl ?_
  refine Ev_aload_n dX11_copy_7 rfl ?_
  refine Ev_iload_n dX11_copy_8 rfl ?_
  refine Ev_callV (bc := 0) (b := 0) dX11_copy_9 cv_X11_64 rfl hO (Nat.le_of_ble_eq_true rfl) (by omega) ?_
  refine c_X11_sheetAt hO hA hfa (kk := oo) (by omega) ?_
  refine Ev_astore dX11_copy_12 rfl ?_
  refine Ev_aloadN dX11_copy_14 rfl ?_
  refine Ev_ifnullN dX11_copy_16 ?_
  refine Ev_aload_n dX11_copy_24 rfl ?_
  refine Ev_iconst (v := (-1)) dX11_copy_25 (by decide) ?_
  refine Ev_callV (bc := 0) (b := 0) dX11_copy_26 cv_X11_68 rfl hO (Nat.le_of_ble_eq_true rfl) (by omega) ?_
  refine c_X11_refused hO ?_
  refine Ev_iret dX11_copy_29 rfl rfl ?_
  exact k

set_option maxHeartbeats 4000000 in
set_option maxRecDepth 100000 in
theorem c_X11_copy_unk12 {d : Nat} {S : aS} {Q : Option Value → aS → Prop} {lf : Int32} (hO : S[0]? = some (co lf)) {fa : Nat → Option Nat} (hA : S[1]? = some (rA 3 4 fa)) (hfa : ∀ k, k < 4 → fa k = some (2 + 2 * k)) {x : Int32} (hk : ¬ (0 ≤ x.toInt ∧ x.toInt ≤ 3)) {i j n9 x2 : Int32} (hk2 : ¬ (0 ≤ x2.toInt ∧ x2.toInt ≤ 3)) (k : Q (some (.int (-1))) (S.set 0 (co 0))) : Mth mX11_copy (d + 2) 0 [.ref 0, .int x, .int i, .int x2, .int j, .int n9] S Q := by
  refine Mth_of (by decide) rfl ?_
  refine Ev_aload_n dX11_copy_0 rfl ?_
  refine Ev_iload_n dX11_copy_1 rfl ?_
  refine Ev_callV (bc := 0) (b := 0) dX11_copy_2 cv_X11_64 rfl hO (Nat.le_of_ble_eq_true rfl) (by omega) ?_
  refine c_X11_sheetAt_bad hO hk ?_
  refine Ev_astoreN dX11_copy_5 rfl ?_
  refine Ev_aload_n dX11_copy_7 rfl ?_
  refine Ev_iload_n dX11_copy_8 rfl ?_
  refine Ev_callV (bc := 0) (b := 0) dX11_copy_9 cv_X11_64 rfl hO (Nat.le_of_ble_eq_true rfl) (by omega) ?_
  refine c_X11_sheetAt_bad hO hk2 ?_
  refine Ev_astoreN dX11_copy_12 rfl ?_
  refine Ev_aloadN dX11_copy_14 rfl ?_
  refine Ev_ifnullN dX11_copy_16 ?_
  refine Ev_aload_n dX11_copy_24 rfl ?_
  refine Ev_iconst (v := (-1)) dX11_copy_25 (by decide) ?_
  refine Ev_callV (bc := 0) (b := 0) dX11_copy_26 cv_X11_68 rfl hO (Nat.le_of_ble_eq_true rfl) (by omega) ?_
  refine c_X11_refused hO ?_
  refine Ev_iret dX11_copy_29 rfl rfl ?_
  exact k

set_option maxHeartbeats 4000000 in
set_option maxRecDepth 100000 in
theorem c_X11_copy_unk2 {d : Nat} {S : aS} {Q : Option Value → aS → Prop} {lf : Int32} (hO : S[0]? = some (co lf)) {fa : Nat → Option Nat} (hA : S[1]? = some (rA 3 4 fa)) (hfa : ∀ k, k < 4 → fa k = some (2 + 2 * k)) {kk : Nat} (hk : kk < 4) {i j n9 x : Int32} (hx : ¬ (0 ≤ x.toInt ∧ x.toInt ≤ 3)) (k : Q (some (.int (-1))) (S.set 0 (co 0))) : Mth mX11_copy (d + 2) 0 [.ref 0, .int (nI kk), .int i, .int x, .int j, .int n9] S Q := by
  refine Mth_of (by decide) rfl ?_
  refine Ev_aload_n dX11_copy_0 rfl ?_
  refine Ev_iload_n dX11_copy_1 rfl ?_
  refine Ev_callV (bc := 0) (b := 0) dX11_copy_2 cv_X11_64 rfl hO (Nat.le_of_ble_eq_true rfl) (by omega) ?_
  refine c_X11_sheetAt hO hA hfa (kk := kk) (by omega) ?_
  refine Ev_astore dX11_copy_5 rfl ?_
  refine Ev_aload_n dX11_copy_7 rfl ?_
  refine Ev_iload_n dX11_copy_8 rfl ?_
  refine Ev_callV (bc := 0) (b := 0) dX11_copy_9 cv_X11_64 rfl hO (Nat.le_of_ble_eq_true rfl) (by omega) ?_
  refine c_X11_sheetAt_bad hO hx ?_
  refine Ev_astoreN dX11_copy_12 rfl ?_
  refine Ev_aload dX11_copy_14 rfl ?_
  refine Ev_ifnull dX11_copy_16 ?_
  refine Ev_aloadN dX11_copy_19 rfl ?_
  refine Ev_ifnonnullN dX11_copy_21 ?_
  refine Ev_aload_n dX11_copy_24 rfl ?_
  refine Ev_iconst (v := (-1)) dX11_copy_25 (by decide) ?_
  refine Ev_callV (bc := 0) (b := 0) dX11_copy_26 cv_X11_68 rfl hO (Nat.le_of_ble_eq_true rfl) (by omega) ?_
  refine c_X11_refused hO ?_
  refine Ev_iret dX11_copy_29 rfl rfl ?_
  exact k

set_option maxHeartbeats 4000000 in
set_option maxRecDepth 100000 in
theorem c_X11_copy_n1 {d : Nat} {S : aS} {Q : Option Value → aS → Prop} {lf : Int32} (hO : S[0]? = some (co lf)) {fa : Nat → Option Nat} (hA : S[1]? = some (rA 3 4 fa)) (hfa : ∀ k, k < 4 → fa k = some (2 + 2 * k)) {kk : Nat} (hk : kk < 4) {ln len : Int32} {f : Nat → Int32} (hS : S[2 + 2 * kk]? = some (.inr (5, [.ref (3 + 2 * kk), .int ln, .int len]))) (hc : S[3 + 2 * kk]? = some (iA 60 f)) {oo : Nat} (ho : oo < 4) {ln2 len2 : Int32} {f2 : Nat → Int32} (hS2 : S[2 + 2 * oo]? = some (.inr (5, [.ref (3 + 2 * oo), .int ln2, .int len2]))) (hc2 : S[3 + 2 * oo]? = some (iA 60 f2)) {i j n9 : Int32} (hn : ln = -1) (k : Q (some (.int (-11))) (S.set 0 (co 1))) : Mth mX11_copy (d + 2) 0 [.ref 0, .int (nI kk), .int i, .int (nI oo), .int j, .int n9] S Q := by
  refine Mth_of (by decide) rfl ?_
  refine Ev_aload_n dX11_copy_0 rfl ?_
  refine Ev_iload_n dX11_copy_1 rfl ?_
  refine Ev_callV (bc := 0) (b := 0) dX11_copy_2 cv_X11_64 rfl hO (Nat.le_of_ble_eq_true rfl) (by omega) ?_
  refine c_X11_sheetAt hO hA hfa (kk := kk) (by omega) ?_
  refine Ev_astore dX11_copy_5 rfl ?_
  refine Ev_aload_n dX11_copy_7 rfl ?_
  refine Ev_iload_n dX11_copy_8 rfl ?_
  refine Ev_callV (bc := 0) (b := 0) dX11_copy_9 cv_X11_64 rfl hO (Nat.le_of_ble_eq_true rfl) (by omega) ?_
  refine c_X11_sheetAt hO hA hfa (kk := oo) (by omega) ?_
  refine Ev_astore dX11_copy_12 rfl ?_
  refine Ev_aload dX11_copy_14 rfl ?_
  refine Ev_ifnull dX11_copy_16 ?_
  refine Ev_aload dX11_copy_19 rfl ?_
  refine Ev_ifnonnull dX11_copy_21 ?_
  refine Ev_aload dX11_copy_30 rfl ?_
  refine Ev_callV (bc := 0) (b := 0) dX11_copy_32 cv_X11_228 rfl hS (Nat.le_of_ble_eq_true rfl) (by omega) ?_
  refine c_X5_hasNothing hS (fun _ => ?_) (fun q => absurd q (not_not_intro hn))
  refine Ev_if_ne dX11_copy_35 (fun _ => ?_) (fun c => absurd c (by decide))
  refine Ev_aload_n dX11_copy_46 rfl ?_
  refine Ev_iconst (v := 1) dX11_copy_47 (by decide) ?_
  refine Ev_callV (bc := 0) (b := 0) dX11_copy_48 cv_X11_80 rfl hO (Nat.le_of_ble_eq_true rfl) (by omega) ?_
  refine c_X11_failed hO ?_
  refine Ev_topi (y := (-11)) (by decide) ?_
  refine Ev_iret dX11_copy_51 rfl rfl ?_
  exact k

set_option maxHeartbeats 4000000 in
set_option maxRecDepth 100000 in
theorem c_X11_copy_n2 {d : Nat} {S : aS} {Q : Option Value → aS → Prop} {lf : Int32} (hO : S[0]? = some (co lf)) {fa : Nat → Option Nat} (hA : S[1]? = some (rA 3 4 fa)) (hfa : ∀ k, k < 4 → fa k = some (2 + 2 * k)) {kk : Nat} (hk : kk < 4) {ln len : Int32} {f : Nat → Int32} (hS : S[2 + 2 * kk]? = some (.inr (5, [.ref (3 + 2 * kk), .int ln, .int len]))) (hc : S[3 + 2 * kk]? = some (iA 60 f)) {oo : Nat} (ho : oo < 4) {ln2 len2 : Int32} {f2 : Nat → Int32} (hS2 : S[2 + 2 * oo]? = some (.inr (5, [.ref (3 + 2 * oo), .int ln2, .int len2]))) (hc2 : S[3 + 2 * oo]? = some (iA 60 f2)) {i j n9 : Int32} (hn : ¬ ln = -1) (hn2 : ln2 = -1) (k : Q (some (.int (-11))) (S.set 0 (co 1))) : Mth mX11_copy (d + 2) 0 [.ref 0, .int (nI kk), .int i, .int (nI oo), .int j, .int n9] S Q := by
  refine Mth_of (by decide) rfl ?_
  refine Ev_aload_n dX11_copy_0 rfl ?_
  refine Ev_iload_n dX11_copy_1 rfl ?_
  refine Ev_callV (bc := 0) (b := 0) dX11_copy_2 cv_X11_64 rfl hO (Nat.le_of_ble_eq_true rfl) (by omega) ?_
  refine c_X11_sheetAt hO hA hfa (kk := kk) (by omega) ?_
  refine Ev_astore dX11_copy_5 rfl ?_
  refine Ev_aload_n dX11_copy_7 rfl ?_
  refine Ev_iload_n dX11_copy_8 rfl ?_
  refine Ev_callV (bc := 0) (b := 0) dX11_copy_9 cv_X11_64 rfl hO (Nat.le_of_ble_eq_true rfl) (by omega) ?_
  refine c_X11_sheetAt hO hA hfa (kk := oo) (by omega) ?_
  refine Ev_astore dX11_copy_12 rfl ?_
  refine Ev_aload dX11_copy_14 rfl ?_
  refine Ev_ifnull dX11_copy_16 ?_
  refine Ev_aload dX11_copy_19 rfl ?_
  refine Ev_ifnonnull dX11_copy_21 ?_
  refine Ev_aload dX11_copy_30 rfl ?_
  refine Ev_callV (bc := 0) (b := 0) dX11_copy_32 cv_X11_228 rfl hS (Nat.le_of_ble_eq_true rfl) (by omega) ?_
  refine c_X5_hasNothing hS (fun q => absurd q hn) (fun _ => ?_)
  refine Ev_if_ne dX11_copy_35 (fun c => absurd (by decide) c) (fun _ => ?_)
  refine Ev_aload dX11_copy_38 rfl ?_
  refine Ev_callV (bc := 0) (b := 0) dX11_copy_40 cv_X11_228 rfl hS2 (Nat.le_of_ble_eq_true rfl) (by omega) ?_
  refine c_X5_hasNothing hS2 (fun _ => ?_) (fun q => absurd q (not_not_intro hn2))
  refine Ev_if_eq dX11_copy_43 (fun c => absurd c (by decide)) (fun _ => ?_)
  refine Ev_aload_n dX11_copy_46 rfl ?_
  refine Ev_iconst (v := 1) dX11_copy_47 (by decide) ?_
  refine Ev_callV (bc := 0) (b := 0) dX11_copy_48 cv_X11_80 rfl hO (Nat.le_of_ble_eq_true rfl) (by omega) ?_
  refine c_X11_failed hO ?_
  refine Ev_topi (y := (-11)) (by decide) ?_
  refine Ev_iret dX11_copy_51 rfl rfl ?_
  exact k

set_option maxHeartbeats 4000000 in
set_option maxRecDepth 100000 in
theorem c_X11_copy_cast {d : Nat} {S : aS} {Q : Option Value → aS → Prop} {lf : Int32} (hO : S[0]? = some (co lf)) {fa : Nat → Option Nat} (hA : S[1]? = some (rA 3 4 fa)) (hfa : ∀ k, k < 4 → fa k = some (2 + 2 * k)) {kk : Nat} (hk : kk < 4) {ln len : Int32} {f : Nat → Int32} (hS : S[2 + 2 * kk]? = some (.inr (5, [.ref (3 + 2 * kk), .int ln, .int len]))) (hc : S[3 + 2 * kk]? = some (iA 60 f)) {oo : Nat} (ho : oo < 4) {ln2 len2 : Int32} {f2 : Nat → Int32} (hS2 : S[2 + 2 * oo]? = some (.inr (5, [.ref (3 + 2 * oo), .int ln2, .int len2]))) (hc2 : S[3 + 2 * oo]? = some (iA 60 f2)) {i j n9 : Int32} (hn : ¬ ln = -1) (hn2 : ¬ ln2 = -1) (hne : ¬ ln = ln2) (k : Q (some (.int (-12))) (S.set 0 (co 2))) : Mth mX11_copy (d + 2) 0 [.ref 0, .int (nI kk), .int i, .int (nI oo), .int j, .int n9] S Q := by
  refine Mth_of (by decide) rfl ?_
  refine Ev_aload_n dX11_copy_0 rfl ?_
  refine Ev_iload_n dX11_copy_1 rfl ?_
  refine Ev_callV (bc := 0) (b := 0) dX11_copy_2 cv_X11_64 rfl hO (Nat.le_of_ble_eq_true rfl) (by omega) ?_
  refine c_X11_sheetAt hO hA hfa (kk := kk) (by omega) ?_
  refine Ev_astore dX11_copy_5 rfl ?_
  refine Ev_aload_n dX11_copy_7 rfl ?_
  refine Ev_iload_n dX11_copy_8 rfl ?_
  refine Ev_callV (bc := 0) (b := 0) dX11_copy_9 cv_X11_64 rfl hO (Nat.le_of_ble_eq_true rfl) (by omega) ?_
  refine c_X11_sheetAt hO hA hfa (kk := oo) (by omega) ?_
  refine Ev_astore dX11_copy_12 rfl ?_
  refine Ev_aload dX11_copy_14 rfl ?_
  refine Ev_ifnull dX11_copy_16 ?_
  refine Ev_aload dX11_copy_19 rfl ?_
  refine Ev_ifnonnull dX11_copy_21 ?_
  refine Ev_aload dX11_copy_30 rfl ?_
  refine Ev_callV (bc := 0) (b := 0) dX11_copy_32 cv_X11_228 rfl hS (Nat.le_of_ble_eq_true rfl) (by omega) ?_
  refine c_X5_hasNothing hS (fun q => absurd q hn) (fun _ => ?_)
  refine Ev_if_ne dX11_copy_35 (fun c => absurd (by decide) c) (fun _ => ?_)
  refine Ev_aload dX11_copy_38 rfl ?_
  refine Ev_callV (bc := 0) (b := 0) dX11_copy_40 cv_X11_228 rfl hS2 (Nat.le_of_ble_eq_true rfl) (by omega) ?_
  refine c_X5_hasNothing hS2 (fun q => absurd q hn2) (fun _ => ?_)
  refine Ev_if_eq dX11_copy_43 (fun _ => ?_) (fun c => absurd (by decide) c)
  refine Ev_aload dX11_copy_52 rfl ?_
  refine Ev_get dX11_copy_54 fg_X11_246_5 hS rfl ?_
  refine Ev_aload dX11_copy_57 rfl ?_
  refine Ev_get dX11_copy_59 fg_X11_246_5 hS2 rfl ?_
  refine Ev_icmp_eq dX11_copy_62 (fun c => absurd c hne) (fun _ => ?_)
  refine Ev_aload_n dX11_copy_65 rfl ?_
  refine Ev_iconst (v := 2) dX11_copy_66 (by decide) ?_
  refine Ev_callV (bc := 0) (b := 0) dX11_copy_67 cv_X11_80 rfl hO (Nat.le_of_ble_eq_true rfl) (by omega) ?_
  refine c_X11_failed hO ?_
  refine Ev_topi (y := (-12)) (by decide) ?_
  refine Ev_iret dX11_copy_70 rfl rfl ?_
  exact k

set_option maxHeartbeats 4000000 in
set_option maxRecDepth 100000 in
theorem c_X11_copy_i1 {d : Nat} {S : aS} {Q : Option Value → aS → Prop} {lf : Int32} (hO : S[0]? = some (co lf)) {fa : Nat → Option Nat} (hA : S[1]? = some (rA 3 4 fa)) (hfa : ∀ k, k < 4 → fa k = some (2 + 2 * k)) {kk : Nat} (hk : kk < 4) {ln len : Int32} {f : Nat → Int32} (hS : S[2 + 2 * kk]? = some (.inr (5, [.ref (3 + 2 * kk), .int ln, .int len]))) (hc : S[3 + 2 * kk]? = some (iA 60 f)) {oo : Nat} (ho : oo < 4) {ln2 len2 : Int32} {f2 : Nat → Int32} (hS2 : S[2 + 2 * oo]? = some (.inr (5, [.ref (3 + 2 * oo), .int ln2, .int len2]))) (hc2 : S[3 + 2 * oo]? = some (iA 60 f2)) {i j n9 : Int32} (hn : ¬ ln = -1) (hn2 : ¬ ln2 = -1) {z z2 : Int} (hz : len.toInt = z) (hzr : 0 ≤ z ∧ z ≤ 60) (hz2 : len2.toInt = z2) (hzr2 : 0 ≤ z2 ∧ z2 ≤ 60) (heq : ln = ln2) (hi : i.toInt < 0 ∨ n9.toInt < 0 ∨ z < i.toInt + n9.toInt) (k : Q (some (.int (-13))) (S.set 0 (co 3))) : Mth mX11_copy (d + 2) 0 [.ref 0, .int (nI kk), .int i, .int (nI oo), .int j, .int n9] S Q := by
  refine Mth_of (by decide) rfl ?_
  refine Ev_aload_n dX11_copy_0 rfl ?_
  refine Ev_iload_n dX11_copy_1 rfl ?_
  refine Ev_callV (bc := 0) (b := 0) dX11_copy_2 cv_X11_64 rfl hO (Nat.le_of_ble_eq_true rfl) (by omega) ?_
  refine c_X11_sheetAt hO hA hfa (kk := kk) (by omega) ?_
  refine Ev_astore dX11_copy_5 rfl ?_
  refine Ev_aload_n dX11_copy_7 rfl ?_
  refine Ev_iload_n dX11_copy_8 rfl ?_
  refine Ev_callV (bc := 0) (b := 0) dX11_copy_9 cv_X11_64 rfl hO (Nat.le_of_ble_eq_true rfl) (by omega) ?_
  refine c_X11_sheetAt hO hA hfa (kk := oo) (by omega) ?_
  refine Ev_astore dX11_copy_12 rfl ?_
  refine Ev_aload dX11_copy_14 rfl ?_
  refine Ev_ifnull dX11_copy_16 ?_
  refine Ev_aload dX11_copy_19 rfl ?_
  refine Ev_ifnonnull dX11_copy_21 ?_
  refine Ev_aload dX11_copy_30 rfl ?_
  refine Ev_callV (bc := 0) (b := 0) dX11_copy_32 cv_X11_228 rfl hS (Nat.le_of_ble_eq_true rfl) (by omega) ?_
  refine c_X5_hasNothing hS (fun q => absurd q hn) (fun _ => ?_)
  refine Ev_if_ne dX11_copy_35 (fun c => absurd (by decide) c) (fun _ => ?_)
  refine Ev_aload dX11_copy_38 rfl ?_
  refine Ev_callV (bc := 0) (b := 0) dX11_copy_40 cv_X11_228 rfl hS2 (Nat.le_of_ble_eq_true rfl) (by omega) ?_
  refine c_X5_hasNothing hS2 (fun q => absurd q hn2) (fun _ => ?_)
  refine Ev_if_eq dX11_copy_43 (fun _ => ?_) (fun c => absurd (by decide) c)
  refine Ev_aload dX11_copy_52 rfl ?_
  refine Ev_get dX11_copy_54 fg_X11_246_5 hS rfl ?_
  refine Ev_aload dX11_copy_57 rfl ?_
  refine Ev_get dX11_copy_59 fg_X11_246_5 hS2 rfl ?_
  refine Ev_icmp_eq dX11_copy_62 (fun _ => ?_) (fun c => absurd heq c)
  refine Ev_aload dX11_copy_71 rfl ?_
  refine Ev_iload_n dX11_copy_73 rfl ?_
  refine Ev_iload dX11_copy_74 rfl ?_
  refine Ev_callV (bc := 0) (b := 0) dX11_copy_76 cv_X11_249 rfl hS (Nat.le_of_ble_eq_true rfl) (by omega) ?_
  refine c_X5_hasCells hS (by omega) (fun q => absurd q (by rw [hz]; omega)) (fun _ => ?_)
  refine Ev_if_eq dX11_copy_79 (fun _ => ?_) (fun c => absurd (by decide) c)
  refine Ev_aload_n dX11_copy_94 rfl ?_
  refine Ev_iconst (v := 3) dX11_copy_95 (by decide) ?_
  refine Ev_callV (bc := 0) (b := 0) dX11_copy_96 cv_X11_80 rfl hO (Nat.le_of_ble_eq_true rfl) (by omega) ?_
  refine c_X11_failed hO ?_
  refine Ev_topi (y := (-13)) (by decide) ?_
  refine Ev_iret dX11_copy_99 rfl rfl ?_
  exact k

set_option maxHeartbeats 4000000 in
set_option maxRecDepth 100000 in
theorem c_X11_copy_i2 {d : Nat} {S : aS} {Q : Option Value → aS → Prop} {lf : Int32} (hO : S[0]? = some (co lf)) {fa : Nat → Option Nat} (hA : S[1]? = some (rA 3 4 fa)) (hfa : ∀ k, k < 4 → fa k = some (2 + 2 * k)) {kk : Nat} (hk : kk < 4) {ln len : Int32} {f : Nat → Int32} (hS : S[2 + 2 * kk]? = some (.inr (5, [.ref (3 + 2 * kk), .int ln, .int len]))) (hc : S[3 + 2 * kk]? = some (iA 60 f)) {oo : Nat} (ho : oo < 4) {ln2 len2 : Int32} {f2 : Nat → Int32} (hS2 : S[2 + 2 * oo]? = some (.inr (5, [.ref (3 + 2 * oo), .int ln2, .int len2]))) (hc2 : S[3 + 2 * oo]? = some (iA 60 f2)) {i j n9 : Int32} (hn : ¬ ln = -1) (hn2 : ¬ ln2 = -1) {z z2 : Int} (hz : len.toInt = z) (hzr : 0 ≤ z ∧ z ≤ 60) (hz2 : len2.toInt = z2) (hzr2 : 0 ≤ z2 ∧ z2 ≤ 60) (heq : ln = ln2) (hi : ¬ (i.toInt < 0 ∨ n9.toInt < 0 ∨ z < i.toInt + n9.toInt)) (hj : j.toInt < 0 ∨ n9.toInt < 0 ∨ z2 < j.toInt + n9.toInt) (k : Q (some (.int (-13))) (S.set 0 (co 3))) : Mth mX11_copy (d + 2) 0 [.ref 0, .int (nI kk), .int i, .int (nI oo), .int j, .int n9] S Q := by
  refine Mth_of (by decide) rfl ?_
  refine Ev_aload_n dX11_copy_0 rfl ?_
  refine Ev_iload_n dX11_copy_1 rfl ?_
  refine Ev_callV (bc := 0) (b := 0) dX11_copy_2 cv_X11_64 rfl hO (Nat.le_of_ble_eq_true rfl) (by omega) ?_
  refine c_X11_sheetAt hO hA hfa (kk := kk) (by omega) ?_
  refine Ev_astore dX11_copy_5 rfl ?_
  refine Ev_aload_n dX11_copy_7 rfl ?_
  refine Ev_iload_n dX11_copy_8 rfl ?_
  refine Ev_callV (bc := 0) (b := 0) dX11_copy_9 cv_X11_64 rfl hO (Nat.le_of_ble_eq_true rfl) (by omega) ?_
  refine c_X11_sheetAt hO hA hfa (kk := oo) (by omega) ?_
  refine Ev_astore dX11_copy_12 rfl ?_
  refine Ev_aload dX11_copy_14 rfl ?_
  refine Ev_ifnull dX11_copy_16 ?_
  refine Ev_aload dX11_copy_19 rfl ?_
  refine Ev_ifnonnull dX11_copy_21 ?_
  refine Ev_aload dX11_copy_30 rfl ?_
  refine Ev_callV (bc := 0) (b := 0) dX11_copy_32 cv_X11_228 rfl hS (Nat.le_of_ble_eq_true rfl) (by omega) ?_
  refine c_X5_hasNothing hS (fun q => absurd q hn) (fun _ => ?_)
  refine Ev_if_ne dX11_copy_35 (fun c => absurd (by decide) c) (fun _ => ?_)
  refine Ev_aload dX11_copy_38 rfl ?_
  refine Ev_callV (bc := 0) (b := 0) dX11_copy_40 cv_X11_228 rfl hS2 (Nat.le_of_ble_eq_true rfl) (by omega) ?_
  refine c_X5_hasNothing hS2 (fun q => absurd q hn2) (fun _ => ?_)
  refine Ev_if_eq dX11_copy_43 (fun _ => ?_) (fun c => absurd (by decide) c)
  refine Ev_aload dX11_copy_52 rfl ?_
  refine Ev_get dX11_copy_54 fg_X11_246_5 hS rfl ?_
  refine Ev_aload dX11_copy_57 rfl ?_
  refine Ev_get dX11_copy_59 fg_X11_246_5 hS2 rfl ?_
  refine Ev_icmp_eq dX11_copy_62 (fun _ => ?_) (fun c => absurd heq c)
  refine Ev_aload dX11_copy_71 rfl ?_
  refine Ev_iload_n dX11_copy_73 rfl ?_
  refine Ev_iload dX11_copy_74 rfl ?_
  refine Ev_callV (bc := 0) (b := 0) dX11_copy_76 cv_X11_249 rfl hS (Nat.le_of_ble_eq_true rfl) (by omega) ?_
  refine c_X5_hasCells hS (by omega) (fun _ => ?_) (fun q => absurd q (not_not_intro (by rw [hz]; omega)))
  refine Ev_if_eq dX11_copy_79 (fun c => absurd c (by decide)) (fun _ => ?_)
  refine Ev_aload dX11_copy_82 rfl ?_
  refine Ev_iload dX11_copy_84 rfl ?_
  refine Ev_iload dX11_copy_86 rfl ?_
  refine Ev_callV (bc := 0) (b := 0) dX11_copy_88 cv_X11_249 rfl hS2 (Nat.le_of_ble_eq_true rfl) (by omega) ?_
  refine c_X5_hasCells hS2 (by omega) (fun q => absurd q (by rw [hz2]; omega)) (fun _ => ?_)
  refine Ev_if_ne dX11_copy_91 (fun c => absurd (by decide) c) (fun _ => ?_)
  refine Ev_aload_n dX11_copy_94 rfl ?_
  refine Ev_iconst (v := 3) dX11_copy_95 (by decide) ?_
  refine Ev_callV (bc := 0) (b := 0) dX11_copy_96 cv_X11_80 rfl hO (Nat.le_of_ble_eq_true rfl) (by omega) ?_
  refine c_X11_failed hO ?_
  refine Ev_topi (y := (-13)) (by decide) ?_
  refine Ev_iret dX11_copy_99 rfl rfl ?_
  exact k

set_option maxHeartbeats 4000000 in
set_option maxRecDepth 100000 in
theorem c_X11_copy_o {d : Nat} {S : aS} {Q : Option Value → aS → Prop} {lf : Int32} (hO : S[0]? = some (co lf)) {fa : Nat → Option Nat} (hA : S[1]? = some (rA 3 4 fa)) (hfa : ∀ k, k < 4 → fa k = some (2 + 2 * k)) {kk : Nat} (hk : kk < 4) {ln len : Int32} {f : Nat → Int32} (hS : S[2 + 2 * kk]? = some (.inr (5, [.ref (3 + 2 * kk), .int ln, .int len]))) (hc : S[3 + 2 * kk]? = some (iA 60 f)) {oo : Nat} (ho : oo < 4) {ln2 len2 : Int32} {f2 : Nat → Int32} (hS2 : S[2 + 2 * oo]? = some (.inr (5, [.ref (3 + 2 * oo), .int ln2, .int len2]))) (hc2 : S[3 + 2 * oo]? = some (iA 60 f2)) {ii jj nn : Nat} (hn : ¬ ln = -1) (hn2 : ¬ ln2 = -1) {z z2 : Int} (hz : len.toInt = z) (hzr : 0 ≤ z ∧ z ≤ 60) (hz2 : len2.toInt = z2) (hzr2 : 0 ≤ z2 ∧ z2 ≤ 60) (heq : ln = ln2) (hiz : (ii : Int) + nn ≤ z) (hjz : (jj : Int) + nn ≤ z2) (k : Q (some (.int (nI nn))) ((S.set 0 (co 0)).set (3 + 2 * oo) (iA 60 (va_cpy f f2 ii jj nn)))) : Mth mX11_copy (d + 2) 0 [.ref 0, .int (nI kk), .int (nI ii), .int (nI oo), .int (nI jj), .int (nI nn)] S Q := by
  refine Mth_of (by decide) rfl ?_
  refine Ev_aload_n dX11_copy_0 rfl ?_
  refine Ev_iload_n dX11_copy_1 rfl ?_
  refine Ev_callV (bc := 0) (b := 0) dX11_copy_2 cv_X11_64 rfl hO (Nat.le_of_ble_eq_true rfl) (by omega) ?_
  refine c_X11_sheetAt hO hA hfa (kk := kk) (by omega) ?_
  refine Ev_astore dX11_copy_5 rfl ?_
  refine Ev_aload_n dX11_copy_7 rfl ?_
  refine Ev_iload_n dX11_copy_8 rfl ?_
  refine Ev_callV (bc := 0) (b := 0) dX11_copy_9 cv_X11_64 rfl hO (Nat.le_of_ble_eq_true rfl) (by omega) ?_
  refine c_X11_sheetAt hO hA hfa (kk := oo) (by omega) ?_
  refine Ev_astore dX11_copy_12 rfl ?_
  refine Ev_aload dX11_copy_14 rfl ?_
  refine Ev_ifnull dX11_copy_16 ?_
  refine Ev_aload dX11_copy_19 rfl ?_
  refine Ev_ifnonnull dX11_copy_21 ?_
  refine Ev_aload dX11_copy_30 rfl ?_
  refine Ev_callV (bc := 0) (b := 0) dX11_copy_32 cv_X11_228 rfl hS (Nat.le_of_ble_eq_true rfl) (by omega) ?_
  refine c_X5_hasNothing hS (fun q => absurd q hn) (fun _ => ?_)
  refine Ev_if_ne dX11_copy_35 (fun c => absurd (by decide) c) (fun _ => ?_)
  refine Ev_aload dX11_copy_38 rfl ?_
  refine Ev_callV (bc := 0) (b := 0) dX11_copy_40 cv_X11_228 rfl hS2 (Nat.le_of_ble_eq_true rfl) (by omega) ?_
  refine c_X5_hasNothing hS2 (fun q => absurd q hn2) (fun _ => ?_)
  refine Ev_if_eq dX11_copy_43 (fun _ => ?_) (fun c => absurd (by decide) c)
  refine Ev_aload dX11_copy_52 rfl ?_
  refine Ev_get dX11_copy_54 fg_X11_246_5 hS rfl ?_
  refine Ev_aload dX11_copy_57 rfl ?_
  refine Ev_get dX11_copy_59 fg_X11_246_5 hS2 rfl ?_
  refine Ev_icmp_eq dX11_copy_62 (fun _ => ?_) (fun c => absurd heq c)
  refine Ev_aload dX11_copy_71 rfl ?_
  refine Ev_iload_n dX11_copy_73 rfl ?_
  refine Ev_iload dX11_copy_74 rfl ?_
  refine Ev_callV (bc := 0) (b := 0) dX11_copy_76 cv_X11_249 rfl hS (Nat.le_of_ble_eq_true rfl) (by omega) ?_
  refine c_X5_hasCells hS (by omega) (fun _ => ?_) (fun q => absurd q (not_not_intro (by rw [hz, nIt (by omega), nIt (by omega)]; omega)))
  refine Ev_if_eq dX11_copy_79 (fun c => absurd c (by decide)) (fun _ => ?_)
  refine Ev_aload dX11_copy_82 rfl ?_
  refine Ev_iload dX11_copy_84 rfl ?_
  refine Ev_iload dX11_copy_86 rfl ?_
  refine Ev_callV (bc := 0) (b := 0) dX11_copy_88 cv_X11_249 rfl hS2 (Nat.le_of_ble_eq_true rfl) (by omega) ?_
  refine c_X5_hasCells hS2 (by omega) (fun _ => ?_) (fun q => absurd q (not_not_intro (by rw [hz2, nIt (by omega), nIt (by omega)]; omega)))
  refine Ev_if_ne dX11_copy_91 (fun _ => ?_) (fun c => absurd c (by decide))
  refine Ev_aload_n dX11_copy_100 rfl ?_
  refine Ev_iconst (v := 0) dX11_copy_101 (by decide) ?_
  refine Ev_put dX11_copy_102 fr_X11_60_11 hO rfl rfl rfl ?_
  refine Ev_aload dX11_copy_105 rfl ?_
  refine Ev_get dX11_copy_107 fg_X11_253_5 (gn (by omega) hS) rfl ?_
  refine Ev_iload_n dX11_copy_110 rfl ?_
  refine Ev_aload dX11_copy_111 rfl ?_
  refine Ev_get dX11_copy_113 fg_X11_253_5 (gn (by omega) hS2) rfl ?_
  refine Ev_iload dX11_copy_116 rfl ?_
  refine Ev_iload dX11_copy_118 rfl ?_
  refine Ev_copyi dX11_copy_120 wl_X11_257 (Nat.le_of_ble_eq_true rfl) (gn (by omega) hc) (gn (by omega) hc2) (nI_pos (by omega)) (nI_pos (by omega)) (nI_pos (by omega)) (by rw [ncl (by omega), ncl (by omega)]; omega) (by rw [ncl (by omega), ncl (by omega)]; omega) ?_
  rw [ncl (show ii < 2147483648 by omega), ncl (show jj < 2147483648 by omega), ncl (show nn < 2147483648 by omega)]
  refine Ev_iload dX11_copy_123 rfl ?_
  refine Ev_iret dX11_copy_125 rfl rfl ?_
  exact k

