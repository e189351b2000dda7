/-! ===== net, of the component ===== -/
abbrev txc (kk ii m : Nat) : aE := .inr (8, [.ref (2 + 2 * kk), .int (nI ii), .int (nI m)])
set_option maxHeartbeats 4000000 in
set_option maxRecDepth 100000 in
theorem c_X11_net_unk {d : Nat} {S : aS} {Q : Option Value → aS → Prop} {lf : Int32} (hO : S[0]? = some (co lf)) {x : Int32} (hk : ¬ (0 ≤ x.toInt ∧ x.toInt ≤ 3)) {w i n9 : Int32} (k : Q (some (.int (-1))) (S.set 0 (co 0))) : Mth mX11_net (d + 3) 10 [.ref 0, .int x, .int w, .int i, .int n9] S Q := by
  refine Mth_of (by decide) rfl ?_
  refine Ev_aload_n dX11_net_0 rfl ?_
  refine Ev_iload_n dX11_net_1 rfl ?_
  refine Ev_callV (bc := 0) (b := 10) dX11_net_2 cv_X11_64 rfl hO (Nat.le_of_ble_eq_true rfl) (by omega) ?_
  refine c_X11_sheetAt_bad hO hk ?_
  refine Ev_astoreN dX11_net_5 rfl ?_
  refine Ev_aloadN dX11_net_7 rfl ?_
  refine Ev_ifnonnullN dX11_net_9 ?_
  refine Ev_aload_n dX11_net_12 rfl ?_
  refine Ev_iconst (v := (-1)) dX11_net_13 (by decide) ?_
  refine Ev_callV (bc := 0) (b := 10) dX11_net_14 cv_X11_68 rfl hO (Nat.le_of_ble_eq_true rfl) (by omega) ?_
  refine c_X11_refused hO ?_
  refine Ev_iret dX11_net_17 rfl rfl ?_
  exact k

set_option maxHeartbeats 4000000 in
set_option maxRecDepth 100000 in
theorem c_X11_net_lane {d : Nat} {S : aS} {Q : Option Value → aS → Prop} {lf : Int32} (hO : S[0]? = some (co lf)) {fa : Nat → Option Nat} (hA1 : S[1]? = some (rA 3 4 fa)) (hfa : ∀ k, k < 4 → fa k = some (2 + 2 * k)) {kk : Nat} (hk : kk < 4) {w i n9 : Int32} (hw : ¬ (0 ≤ w.toInt ∧ w.toInt ≤ 2)) (k : Q (some (.int (-2))) (S.set 0 (co 0))) : Mth mX11_net (d + 3) 10 [.ref 0, .int (nI kk), .int w, .int i, .int n9] S Q := by
  refine Mth_of (by decide) rfl ?_
  refine Ev_aload_n dX11_net_0 rfl ?_
  refine Ev_iload_n dX11_net_1 rfl ?_
  refine Ev_callV (bc := 0) (b := 10) dX11_net_2 cv_X11_64 rfl hO (Nat.le_of_ble_eq_true rfl) (by omega) ?_
  refine c_X11_sheetAt hO hA1 hfa (kk := kk) (by omega) ?_
  refine Ev_astore dX11_net_5 rfl ?_
  refine Ev_aload dX11_net_7 rfl ?_
  refine Ev_ifnonnull dX11_net_9 ?_
  refine Ev_iload_n dX11_net_18 rfl ?_
  refine Ev_iconst (v := 0) dX11_net_19 (by decide) ?_
  refine Ev_iconst (v := 2) dX11_net_20 (by decide) ?_
  refine Ev_callS (bc := 0) (b := 10) dX11_net_21 cs_X11_72 rfl (Nat.le_of_ble_eq_true rfl) (by omega) ?_
  refine c_X11_isWithin (fun q => absurd q hw) (fun _ => ?_)
  refine Ev_if_ne dX11_net_24 (fun c => absurd (by decide) c) (fun _ => ?_)
  refine Ev_aload_n dX11_net_27 rfl ?_
  refine Ev_bipush (v := (-2)) dX11_net_28 (by decide) ?_
  refine Ev_callV (bc := 0) (b := 10) dX11_net_30 cv_X11_68 rfl hO (Nat.le_of_ble_eq_true rfl) (by omega) ?_
  refine c_X11_refused hO ?_
  refine Ev_iret dX11_net_33 rfl rfl ?_
  exact k

set_option maxHeartbeats 4000000 in
set_option maxRecDepth 100000 in
theorem c_X11_net_cast {d : Nat} {S : aS} {Q : Option Value → aS → Prop} {lf : Int32} (hO : S[0]? = some (co lf)) {fa : Nat → Option Nat} (hA1 : S[1]? = some (rA 3 4 fa)) (hfa : ∀ k, k < 4 → fa k = some (2 + 2 * k)) {kk : Nat} (hk : kk < 4) {ln len : Int32} {f : Nat → Int32} (hS : S[2 + 2 * kk]? = some (.inr (5, [.ref (3 + 2 * kk), .int ln, .int len]))) (hc : S[3 + 2 * kk]? = some (iA 60 f)) {w i n9 : Int32} (hw : 0 ≤ w.toInt ∧ w.toInt ≤ 2) (hn : ¬ ln = -1) (heq : ¬ ln = w) (k : Q (some (.int (-12))) (S.set 0 (co 2))) : Mth mX11_net (d + 3) 10 [.ref 0, .int (nI kk), .int w, .int i, .int n9] S Q := by
  refine Mth_of (by decide) rfl ?_
  refine Ev_aload_n dX11_net_0 rfl ?_
  refine Ev_iload_n dX11_net_1 rfl ?_
  refine Ev_callV (bc := 0) (b := 10) dX11_net_2 cv_X11_64 rfl hO (Nat.le_of_ble_eq_true rfl) (by omega) ?_
  refine c_X11_sheetAt hO hA1 hfa (kk := kk) (by omega) ?_
  refine Ev_astore dX11_net_5 rfl ?_
  refine Ev_aload dX11_net_7 rfl ?_
  refine Ev_ifnonnull dX11_net_9 ?_
  refine Ev_iload_n dX11_net_18 rfl ?_
  refine Ev_iconst (v := 0) dX11_net_19 (by decide) ?_
  refine Ev_iconst (v := 2) dX11_net_20 (by decide) ?_
  refine Ev_callS (bc := 0) (b := 10) dX11_net_21 cs_X11_72 rfl (Nat.le_of_ble_eq_true rfl) (by omega) ?_
  refine c_X11_isWithin (fun _ => ?_) (fun q => absurd q (not_not_intro hw))
  refine Ev_if_ne dX11_net_24 (fun _ => ?_) (fun c => absurd c (by decide))
  refine Ev_aload dX11_net_34 rfl ?_
  refine Ev_iload_n dX11_net_36 rfl ?_
  refine Ev_iload_n dX11_net_37 rfl ?_
  refine Ev_iload dX11_net_38 rfl ?_
  refine Ev_callV (bc := 0) (b := 10) dX11_net_40 cv_X11_76 rfl hS (Nat.le_of_ble_eq_true rfl) (by omega) ?_
  refine c_X5_faultOfCells_cast hS hn heq ?_
  refine Ev_istore dX11_net_43 rfl ?_
  refine Ev_iload dX11_net_45 rfl ?_
  refine Ev_if_eq dX11_net_47 (fun c => absurd c (by decide)) (fun _ => ?_)
  refine Ev_aload_n dX11_net_50 rfl ?_
  refine Ev_iload dX11_net_51 rfl ?_
  refine Ev_callV (bc := 0) (b := 10) dX11_net_53 cv_X11_80 rfl hO (Nat.le_of_ble_eq_true rfl) (by omega) ?_
  refine c_X11_failed hO ?_
  refine Ev_topi (y := (-12)) (by decide) ?_
  refine Ev_iret dX11_net_56 rfl rfl ?_
  exact k

set_option maxHeartbeats 4000000 in
set_option maxRecDepth 100000 in
theorem c_X11_net_n {d : Nat} {S : aS} {Q : Option Value → aS → Prop} {lf : Int32} (hO : S[0]? = some (co lf)) {fa : Nat → Option Nat} (hA1 : S[1]? = some (rA 3 4 fa)) (hfa : ∀ k, k < 4 → fa k = some (2 + 2 * k)) {kk : Nat} (hk : kk < 4) {ln len : Int32} {f : Nat → Int32} (hS : S[2 + 2 * kk]? = some (.inr (5, [.ref (3 + 2 * kk), .int ln, .int len]))) (hc : S[3 + 2 * kk]? = some (iA 60 f)) {w i n9 : Int32} (hw : 0 ≤ w.toInt ∧ w.toInt ≤ 2) (hn : ln = -1) (k : Q (some (.int (-11))) (S.set 0 (co 1))) : Mth mX11_net (d + 3) 10 [.ref 0, .int (nI kk), .int w, .int i, .int n9] S Q := by
  refine Mth_of (by decide) rfl ?_
  refine Ev_aload_n dX11_net_0 rfl ?_
  refine Ev_iload_n dX11_net_1 rfl ?_
  refine Ev_callV (bc := 0) (b := 10) dX11_net_2 cv_X11_64 rfl hO (Nat.le_of_ble_eq_true rfl) (by omega) ?_
  refine c_X11_sheetAt hO hA1 hfa (kk := kk) (by omega) ?_
  refine Ev_astore dX11_net_5 rfl ?_
  refine Ev_aload dX11_net_7 rfl ?_
  refine Ev_ifnonnull dX11_net_9 ?_
  refine Ev_iload_n dX11_net_18 rfl ?_
  refine Ev_iconst (v := 0) dX11_net_19 (by decide) ?_
  refine Ev_iconst (v := 2) dX11_net_20 (by decide) ?_
  refine Ev_callS (bc := 0) (b := 10) dX11_net_21 cs_X11_72 rfl (Nat.le_of_ble_eq_true rfl) (by omega) ?_
  refine c_X11_isWithin (fun _ => ?_) (fun q => absurd q (not_not_intro hw))
  refine Ev_if_ne dX11_net_24 (fun _ => ?_) (fun c => absurd c (by decide))
  refine Ev_aload dX11_net_34 rfl ?_
  refine Ev_iload_n dX11_net_36 rfl ?_
  refine Ev_iload_n dX11_net_37 rfl ?_
  refine Ev_iload dX11_net_38 rfl ?_
  refine Ev_callV (bc := 0) (b := 10) dX11_net_40 cv_X11_76 rfl hS (Nat.le_of_ble_eq_true rfl) (by omega) ?_
  refine c_X5_faultOfCells_n hS hn ?_
  refine Ev_istore dX11_net_43 rfl ?_
  refine Ev_iload dX11_net_45 rfl ?_
  refine Ev_if_eq dX11_net_47 (fun c => absurd c (by decide)) (fun _ => ?_)
  refine Ev_aload_n dX11_net_50 rfl ?_
  refine Ev_iload dX11_net_51 rfl ?_
  refine Ev_callV (bc := 0) (b := 10) dX11_net_53 cv_X11_80 rfl hO (Nat.le_of_ble_eq_true rfl) (by omega) ?_
  refine c_X11_failed hO ?_
  refine Ev_topi (y := (-11)) (by decide) ?_
  refine Ev_iret dX11_net_56 rfl rfl ?_
  exact k

set_option maxHeartbeats 4000000 in
set_option maxRecDepth 100000 in
theorem c_X11_net_size {d : Nat} {S : aS} {Q : Option Value → aS → Prop} {lf : Int32} (hO : S[0]? = some (co lf)) {fa : Nat → Option Nat} (hA1 : S[1]? = some (rA 3 4 fa)) (hfa : ∀ k, k < 4 → fa k = some (2 + 2 * k)) {kk : Nat} (hk : kk < 4) {ln len : Int32} {f : Nat → Int32} (hS : S[2 + 2 * kk]? = some (.inr (5, [.ref (3 + 2 * kk), .int ln, .int len]))) (hc : S[3 + 2 * kk]? = some (iA 60 f)) {w i n9 : Int32} (hw : 0 ≤ w.toInt ∧ w.toInt ≤ 2) (hn : ¬ ln = -1) (heq : ln = w) (hs4 : n9.toInt < 0) (k : Q (some (.int (-14))) (S.set 0 (co 4))) : Mth mX11_net (d + 3) 10 [.ref 0, .int (nI kk), .int w, .int i, .int n9] S Q := by
  refine Mth_of (by decide) rfl ?_
  refine Ev_aload_n dX11_net_0 rfl ?_
  refine Ev_iload_n dX11_net_1 rfl ?_
  refine Ev_callV (bc := 0) (b := 10) dX11_net_2 cv_X11_64 rfl hO (Nat.le_of_ble_eq_true rfl) (by omega) ?_
  refine c_X11_sheetAt hO hA1 hfa (kk := kk) (by omega) ?_
  refine Ev_astore dX11_net_5 rfl ?_
  refine Ev_aload dX11_net_7 rfl ?_
  refine Ev_ifnonnull dX11_net_9 ?_
  refine Ev_iload_n dX11_net_18 rfl ?_
  refine Ev_iconst (v := 0) dX11_net_19 (by decide) ?_
  refine Ev_iconst (v := 2) dX11_net_20 (by decide) ?_
  refine Ev_callS (bc := 0) (b := 10) dX11_net_21 cs_X11_72 rfl (Nat.le_of_ble_eq_true rfl) (by omega) ?_
  refine c_X11_isWithin (fun _ => ?_) (fun q => absurd q (not_not_intro hw))
  refine Ev_if_ne dX11_net_24 (fun _ => ?_) (fun c => absurd c (by decide))
  refine Ev_aload dX11_net_34 rfl ?_
  refine Ev_iload_n dX11_net_36 rfl ?_
  refine Ev_iload_n dX11_net_37 rfl ?_
  refine Ev_iload dX11_net_38 rfl ?_
  refine Ev_callV (bc := 0) (b := 10) dX11_net_40 cv_X11_76 rfl hS (Nat.le_of_ble_eq_true rfl) (by omega) ?_
  refine c_X5_faultOfCells_size hS hn heq hs4 ?_
  refine Ev_istore dX11_net_43 rfl ?_
  refine Ev_iload dX11_net_45 rfl ?_
  refine Ev_if_eq dX11_net_47 (fun c => absurd c (by decide)) (fun _ => ?_)
  refine Ev_aload_n dX11_net_50 rfl ?_
  refine Ev_iload dX11_net_51 rfl ?_
  refine Ev_callV (bc := 0) (b := 10) dX11_net_53 cv_X11_80 rfl hO (Nat.le_of_ble_eq_true rfl) (by omega) ?_
  refine c_X11_failed hO ?_
  refine Ev_topi (y := (-14)) (by decide) ?_
  refine Ev_iret dX11_net_56 rfl rfl ?_
  exact k

set_option maxHeartbeats 4000000 in
set_option maxRecDepth 100000 in
theorem c_X11_net_ix {d : Nat} {S : aS} {Q : Option Value → aS → Prop} {lf : Int32} (hO : S[0]? = some (co lf)) {fa : Nat → Option Nat} (hA1 : S[1]? = some (rA 3 4 fa)) (hfa : ∀ k, k < 4 → fa k = some (2 + 2 * k)) {kk : Nat} (hk : kk < 4) {ln len : Int32} {f : Nat → Int32} (hS : S[2 + 2 * kk]? = some (.inr (5, [.ref (3 + 2 * kk), .int ln, .int len]))) (hc : S[3 + 2 * kk]? = some (iA 60 f)) {w i n9 : Int32} (hw : 0 ≤ w.toInt ∧ w.toInt ≤ 2) (hl : 0 ≤ len.toInt ∧ len.toInt ≤ 60) (hn : ¬ ln = -1) (heq : ln = w) (hs4 : 0 ≤ n9.toInt) (hi : ¬ (0 ≤ i.toInt ∧ i.toInt + n9.toInt ≤ len.toInt)) (k : Q (some (.int (-13))) (S.set 0 (co 3))) : Mth mX11_net (d + 3) 10 [.ref 0, .int (nI kk), .int w, .int i, .int n9] S Q := by
  refine Mth_of (by decide) rfl ?_
  refine Ev_aload_n dX11_net_0 rfl ?_
  refine Ev_iload_n dX11_net_1 rfl ?_
  refine Ev_callV (bc := 0) (b := 10) dX11_net_2 cv_X11_64 rfl hO (Nat.le_of_ble_eq_true rfl) (by omega) ?_
  refine c_X11_sheetAt hO hA1 hfa (kk := kk) (by omega) ?_
  refine Ev_astore dX11_net_5 rfl ?_
  refine Ev_aload dX11_net_7 rfl ?_
  refine Ev_ifnonnull dX11_net_9 ?_
  refine Ev_iload_n dX11_net_18 rfl ?_
  refine Ev_iconst (v := 0) dX11_net_19 (by decide) ?_
  refine Ev_iconst (v := 2) dX11_net_20 (by decide) ?_
  refine Ev_callS (bc := 0) (b := 10) dX11_net_21 cs_X11_72 rfl (Nat.le_of_ble_eq_true rfl) (by omega) ?_
  refine c_X11_isWithin (fun _ => ?_) (fun q => absurd q (not_not_intro hw))
  refine Ev_if_ne dX11_net_24 (fun _ => ?_) (fun c => absurd c (by decide))
  refine Ev_aload dX11_net_34 rfl ?_
  refine Ev_iload_n dX11_net_36 rfl ?_
  refine Ev_iload_n dX11_net_37 rfl ?_
  refine Ev_iload dX11_net_38 rfl ?_
  refine Ev_callV (bc := 0) (b := 10) dX11_net_40 cv_X11_76 rfl hS (Nat.le_of_ble_eq_true rfl) (by omega) ?_
  refine c_X5_faultOfCells_ix hS hl hn heq hs4 hi ?_
  refine Ev_istore dX11_net_43 rfl ?_
  refine Ev_iload dX11_net_45 rfl ?_
  refine Ev_if_eq dX11_net_47 (fun c => absurd c (by decide)) (fun _ => ?_)
  refine Ev_aload_n dX11_net_50 rfl ?_
  refine Ev_iload dX11_net_51 rfl ?_
  refine Ev_callV (bc := 0) (b := 10) dX11_net_53 cv_X11_80 rfl hO (Nat.le_of_ble_eq_true rfl) (by omega) ?_
  refine c_X11_failed hO ?_
  refine Ev_topi (y := (-13)) (by decide) ?_
  refine Ev_iret dX11_net_56 rfl rfl ?_
  exact k

set_option maxHeartbeats 4000000 in
set_option maxRecDepth 100000 in
theorem c_X8_init {d : Nat} {S : aS} {Q : Option Value → aS → Prop} {a bb : Nat} {v1 v2 : Int32} (hS : S[a]? = some (.inr (8, [.null, .int 0, .int 0]))) (k : Q none (S.set a (.inr (8, [.ref bb, .int v1, .int v2])))) : Mth mX8_init (d + 1) 0 [.ref a, .ref bb, .int v1, .int v2] S Q := by
  refine Mth_of (by decide) rfl ?_
  refine Ev_aload_n dX8_init_0 rfl ?_
  refine Ev_objInit dX8_init_1 wl_X8_3 (Nat.le_of_ble_eq_true rfl) ?_
  refine Ev_aload_n dX8_init_4 rfl ?_
  refine Ev_aload_n dX8_init_5 rfl ?_
  refine Ev_putF dX8_init_6 fr_X8_9_8 rfl hS rfl rfl rfl ?_
  refine Ev_aload_n dX8_init_9 rfl ?_
  refine Ev_iload_n dX8_init_10 rfl ?_
  refine Ev_putF dX8_init_11 fr_X8_15_8 rfl (gs hS) rfl rfl rfl ?_
  refine Ev_st gss ?_
  refine Ev_aload_n dX8_init_14 rfl ?_
  refine Ev_iload_n dX8_init_15 rfl ?_
  refine Ev_putF dX8_init_16 fr_X8_19_8 rfl (gs hS) rfl rfl rfl ?_
  refine Ev_st gss ?_
  refine Ev_vret dX8_init_19 rfl ?_
  exact k

set_option maxHeartbeats 4000000 in
set_option maxRecDepth 100000 in
theorem c_X11_net_o {d : Nat} {S : aS} {Q : Option Value → aS → Prop} {lf : Int32} (hO : S[0]? = some (co lf)) {fa : Nat → Option Nat} (hA1 : S[1]? = some (rA 3 4 fa)) (hfa : ∀ k, k < 4 → fa k = some (2 + 2 * k)) {pl n q : Nat} {du lw fr : Int32} (hp7 : pl ≤ 7) (hn9 : n ≤ 9) (hq : q ≤ 8) (hN : S[10]? = some (nt (nI pl) (nI n) du lw fr (nI q))) {kk : Nat} (hk : kk < 4) {ln len : Int32} {f : Nat → Int32} (hS : S[2 + 2 * kk]? = some (.inr (5, [.ref (3 + 2 * kk), .int ln, .int len]))) (hc : S[3 + 2 * kk]? = some (iA 60 f)) {w : Int32} (hw : 0 ≤ w.toInt ∧ w.toInt ≤ 2) (hl : 0 ≤ len.toInt ∧ len.toInt ≤ 60) {ii m : Nat} (hiz : (ii : Int) + m ≤ len.toInt) (hn : ¬ ln = -1) (heq : ln = w) {L : Nat} {sa0 : Nat → Option Nat} (h11 : S[11]? = some (rA 4 9 sa0)) (hlen : S.length = L + 0) (hL : 55 < L) (kf : ∀ p, FFa (fun y => f (ii + y)) m p → Q (some (.int (-100 - nI p))) (S.set 0 (co 0) ++ [txc kk ii m])) (ks : ∀ S9, WHa (fun y => f (ii + y)) m → TK (fun y => f (ii + y)) m (L + 0 + 1) ((S.set 0 (co 0) ++ [txc kk ii m]).set 10 (nt (nI (tP (fun y => f (ii + y)) m)) (nI ((m - 2) / 7)) du lw fr (nI q))) S9 ((m - 2) / 7) → Q (some (.int (nI ((m - 2) / 7)))) (setN (S9.set 10 (nt (nI (tP (fun y => f (ii + y)) m)) (nI ((m - 2) / 7)) 45 0 (-9) 0)) (fun j => L + 0 + 1 + j) (stc (tG (fun y => f (ii + y)) m) 0 (-9)) ((m - 2) / 7)))  : Mth mX11_net (d + 6) 10 [.ref 0, .int (nI kk), .int w, .int (nI ii), .int (nI m)] S Q := by
  refine Mth_of (by decide) rfl ?_
  refine Ev_aload_n dX11_net_0 rfl ?_
  refine Ev_iload_n dX11_net_1 rfl ?_
  refine Ev_callV (bc := 0) (b := 10) dX11_net_2 cv_X11_64 rfl hO (Nat.le_of_ble_eq_true rfl) (by omega) ?_
  refine c_X11_sheetAt hO hA1 hfa (kk := kk) (by omega) ?_
  refine Ev_astore dX11_net_5 rfl ?_
  refine Ev_aload dX11_net_7 rfl ?_
  refine Ev_ifnonnull dX11_net_9 ?_
  refine Ev_iload_n dX11_net_18 rfl ?_
  refine Ev_iconst (v := 0) dX11_net_19 (by decide) ?_
  refine Ev_iconst (v := 2) dX11_net_20 (by decide) ?_
  refine Ev_callS (bc := 0) (b := 10) dX11_net_21 cs_X11_72 rfl (Nat.le_of_ble_eq_true rfl) (by omega) ?_
  refine c_X11_isWithin (fun _ => ?_) (fun q => absurd q (not_not_intro hw))
  refine Ev_if_ne dX11_net_24 (fun _ => ?_) (fun c => absurd c (by decide))
  refine Ev_aload dX11_net_34 rfl ?_
  refine Ev_iload_n dX11_net_36 rfl ?_
  refine Ev_iload_n dX11_net_37 rfl ?_
  refine Ev_iload dX11_net_38 rfl ?_
  refine Ev_callV (bc := 0) (b := 10) dX11_net_40 cv_X11_76 rfl hS (Nat.le_of_ble_eq_true rfl) (by omega) ?_
  refine c_X5_faultOfCells_o hS hl hn heq (by rw [nIt (by omega)]; omega) (by rw [nIt (by omega), nIt (by omega)]; omega) ?_
  refine Ev_istore dX11_net_43 rfl ?_
  refine Ev_iload dX11_net_45 rfl ?_
  refine Ev_if_eq dX11_net_47 (fun _ => ?_) (fun c => absurd (by decide) c)
  refine Ev_aload_n dX11_net_57 rfl ?_
  refine Ev_iconst (v := 0) dX11_net_58 (by decide) ?_
  refine Ev_put dX11_net_59 fr_X11_60_11 hO rfl rfl rfl ?_
  refine Ev_new (b := 9) dX11_net_62 nr_X11_83 ?_
  refine Ev_ref (j := L + 0) (lnS hlen) ?_
  refine Ev_dup dX11_net_65 rfl ?_
  refine Ev_aload dX11_net_66 rfl ?_
  refine Ev_iload_n dX11_net_68 rfl ?_
  refine Ev_iload dX11_net_69 rfl ?_
  refine Ev_callI (bc := 0) (b := 9) dX11_net_71 ci_X11_85 rfl (Nat.le_of_ble_eq_true rfl) (by omega) ?_
  refine c_X8_init (gl2 (lnS hlen)) ?_
  refine Ev_st (app_set (lnS hlen)) ?_
  refine Ev_astore dX11_net_74 rfl ?_
  refine Ev_aload dX11_net_76 rfl ?_
  refine Ev_callV (bc := 0) (b := 9) dX11_net_78 cv_X11_88 rfl (gl2 (lnS hlen)) (Nat.le_of_ble_eq_true rfl) (by omega) ?_
  refine c_X8_firstFault (gl2 (lnS hlen)) (ga (gn (by omega) hS)) (ga (gn (by omega) hc)) hl hiz (fun p hp => ?_) (fun hW => ?_)
  · skip
    have hpm := hp.2.2.1
    refine Ev_istore dX11_net_81 rfl ?_
    refine Ev_iload dX11_net_83 rfl ?_
    refine Ev_bipush (v := (-9)) dX11_net_85 (by decide) ?_
    refine Ev_icmp_eq dX11_net_87 (fun c => absurd c (nI_n9 (by omega))) (fun _ => ?_)
    refine Ev_bipush (v := (-100)) dX11_net_90 (by decide) ?_
    refine Ev_iload dX11_net_92 rfl ?_
    refine Ev_isub dX11_net_94 ?_
    refine Ev_iret dX11_net_95 rfl rfl ?_
    exact kf p hp
  · skip
    refine Ev_istore dX11_net_81 rfl ?_
    refine Ev_iload dX11_net_83 rfl ?_
    refine Ev_bipush (v := (-9)) dX11_net_85 (by decide) ?_
    refine Ev_icmp_eq dX11_net_87 (fun _ => ?_) (fun c => absurd (by decide) c)
    refine Ev_aload_n dX11_net_96 rfl ?_
    refine Ev_get dX11_net_97 fg_X11_21_11 (ga (gs hO)) rfl ?_
    refine Ev_aload dX11_net_100 rfl ?_
    refine Ev_callV (bc := ((m - 2) / 7)) (b := 0) dX11_net_102 cv_X11_92 rfl (ga (gn (by decide) hN)) (Nat.le_of_ble_eq_true rfl) (by omega) ?_
    have hnn : m = 2 + 7 * ((m - 2) / 7) := by have h1 := hW.2.1; have h2 := hW.2.2; omega
    have hn1 : 1 ≤ ((m - 2) / 7) := by have h1 := hW.2.1; omega
    refine c_X2_takeOver (tx := L + 0) (L := L + 0 + 1) (n := ((m - 2) / 7)) (gl2 (lnS hlen)) (ga (gn (by omega) hS)) (ga (gn (by omega) hc)) hl hiz hk (by omega) (by omega) hn1 hnn (ga (gn (by decide) hN)) (ga (gn (by decide) h11)) (ln1 (lnS hlen)) hW.1 (fun S9 hTK => ?_)
    refine Ev_aload_n dX11_net_105 rfl ?_
    refine Ev_get dX11_net_106 fg_X11_21_11 (by rw [setN_off _ (fun j hj => by omega)]; exact gn (by decide) (hTK.2.1.at (gn (by decide) (ga (gs hO))) (by omega))) rfl ?_
    refine Ev_get dX11_net_109 fg_X11_96_2 (by rw [setN_off _ (fun j hj => by omega)]; exact gs (hTK.2.1.at (gs (ga (gn (by decide) hN))) (by omega))) rfl ?_
    refine Ev_iret dX11_net_112 rfl rfl ?_
    exact ks S9 hW hTK

