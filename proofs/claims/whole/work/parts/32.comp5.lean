set_option maxHeartbeats 4000000 in
set_option maxRecDepth 100000 in
theorem c_X11_followTold_unk0 {d : Nat} {S : aS} {Q : Option Value → aS → Prop} {lf : Int32} (hO : S[0]? = some (co lf)) {x : Int32} (hk : ¬ (0 ≤ x.toInt ∧ x.toInt ≤ 3)) {w i n9 : Int32} (k : Q (some (.int (-1))) (S.set 0 (co 0))) : Mth mX11_followTold (d + 3) 0 [.ref 0, .int x, .int w, .int i, .int n9, .int 0] S Q := by
  refine Mth_of (by decide) rfl ?_
  refine Ev_aload_n dX11_followTold_0 rfl ?_
  refine Ev_iload_n dX11_followTold_1 rfl ?_
  refine Ev_callV (bc := 0) (b := 0) dX11_followTold_2 cv_X11_64 rfl hO (Nat.le_of_ble_eq_true rfl) (by omega) ?_
  refine c_X11_sheetAt_bad hO hk ?_
  refine Ev_astoreN dX11_followTold_5 rfl ?_
  refine Ev_aloadN dX11_followTold_7 rfl ?_
  refine Ev_ifnonnullN dX11_followTold_9 ?_
  refine Ev_aload_n dX11_followTold_12 rfl ?_
  refine Ev_iconst (v := (-1)) dX11_followTold_13 (by decide) ?_
  refine Ev_callV (bc := 0) (b := 0) dX11_followTold_14 cv_X11_68 rfl hO (Nat.le_of_ble_eq_true rfl) (by omega) ?_
  refine c_X11_refused hO ?_
  refine Ev_iret dX11_followTold_17 rfl rfl ?_
  exact k

set_option maxHeartbeats 4000000 in
set_option maxRecDepth 100000 in
theorem c_X11_followTold_lane0 {d : Nat} {S : aS} {Q : Option Value → aS → Prop} {lf : Int32} (hO : S[0]? = some (co lf)) {fa : Nat → Option Nat} (hA1 : S[1]? = some (rA 3 4 fa)) (hfa : ∀ k, k < 4 → fa k = some (2 + 2 * k)) {kk : Nat} (hk : kk < 4) {w i n9 : Int32} (hw : ¬ (0 ≤ w.toInt ∧ w.toInt ≤ 2)) (k : Q (some (.int (-2))) (S.set 0 (co 0))) : Mth mX11_followTold (d + 3) 0 [.ref 0, .int (nI kk), .int w, .int i, .int n9, .int 0] S Q := by
  refine Mth_of (by decide) rfl ?_
  refine Ev_aload_n dX11_followTold_0 rfl ?_
  refine Ev_iload_n dX11_followTold_1 rfl ?_
  refine Ev_callV (bc := 0) (b := 0) dX11_followTold_2 cv_X11_64 rfl hO (Nat.le_of_ble_eq_true rfl) (by omega) ?_
  refine c_X11_sheetAt hO hA1 hfa (kk := kk) (by omega) ?_
  refine Ev_astore dX11_followTold_5 rfl ?_
  refine Ev_aload dX11_followTold_7 rfl ?_
  refine Ev_ifnonnull dX11_followTold_9 ?_
  refine Ev_iload_n dX11_followTold_18 rfl ?_
  refine Ev_iconst (v := 0) dX11_followTold_19 (by decide) ?_
  refine Ev_iconst (v := 2) dX11_followTold_20 (by decide) ?_
  refine Ev_callS (bc := 0) (b := 0) dX11_followTold_21 cs_X11_72 rfl (Nat.le_of_ble_eq_true rfl) (by omega) ?_
  refine c_X11_isWithin (fun q => absurd q hw) (fun _ => ?_)
  refine Ev_if_eq dX11_followTold_24 (fun _ => ?_) (fun c => absurd (by decide) c)
  refine Ev_aload_n dX11_followTold_32 rfl ?_
  refine Ev_bipush (v := (-2)) dX11_followTold_33 (by decide) ?_
  refine Ev_callV (bc := 0) (b := 0) dX11_followTold_35 cv_X11_68 rfl hO (Nat.le_of_ble_eq_true rfl) (by omega) ?_
  refine c_X11_refused hO ?_
  refine Ev_iret dX11_followTold_38 rfl rfl ?_
  exact k

set_option maxHeartbeats 4000000 in
set_option maxRecDepth 100000 in
theorem c_X11_followTold_unk1 {d : Nat} {S : aS} {Q : Option Value → aS → Prop} {lf : Int32} (hO : S[0]? = some (co lf)) {x : Int32} (hk : ¬ (0 ≤ x.toInt ∧ x.toInt ≤ 3)) {w i n9 : Int32} (k : Q (some (.int (-1))) (S.set 0 (co 0))) : Mth mX11_followTold (d + 3) 0 [.ref 0, .int x, .int w, .int i, .int n9, .int 1] S Q := by
  refine Mth_of (by decide) rfl ?_
  refine Ev_aload_n dX11_followTold_0 rfl ?_
  refine Ev_iload_n dX11_followTold_1 rfl ?_
  refine Ev_callV (bc := 0) (b := 0) dX11_followTold_2 cv_X11_64 rfl hO (Nat.le_of_ble_eq_true rfl) (by omega) ?_
  refine c_X11_sheetAt_bad hO hk ?_
  refine Ev_astoreN dX11_followTold_5 rfl ?_
  refine Ev_aloadN dX11_followTold_7 rfl ?_
  refine Ev_ifnonnullN dX11_followTold_9 ?_
  refine Ev_aload_n dX11_followTold_12 rfl ?_
  refine Ev_iconst (v := (-1)) dX11_followTold_13 (by decide) ?_
  refine Ev_callV (bc := 0) (b := 0) dX11_followTold_14 cv_X11_68 rfl hO (Nat.le_of_ble_eq_true rfl) (by omega) ?_
  refine c_X11_refused hO ?_
  refine Ev_iret dX11_followTold_17 rfl rfl ?_
  exact k

set_option maxHeartbeats 4000000 in
set_option maxRecDepth 100000 in
theorem c_X11_followTold_lane1 {d : Nat} {S : aS} {Q : Option Value → aS → Prop} {lf : Int32} (hO : S[0]? = some (co lf)) {fa : Nat → Option Nat} (hA1 : S[1]? = some (rA 3 4 fa)) (hfa : ∀ k, k < 4 → fa k = some (2 + 2 * k)) {kk : Nat} (hk : kk < 4) {w i n9 : Int32} (hw : ¬ (0 ≤ w.toInt ∧ w.toInt ≤ 2)) (k : Q (some (.int (-2))) (S.set 0 (co 0))) : Mth mX11_followTold (d + 3) 0 [.ref 0, .int (nI kk), .int w, .int i, .int n9, .int 1] S Q := by
  refine Mth_of (by decide) rfl ?_
  refine Ev_aload_n dX11_followTold_0 rfl ?_
  refine Ev_iload_n dX11_followTold_1 rfl ?_
  refine Ev_callV (bc := 0) (b := 0) dX11_followTold_2 cv_X11_64 rfl hO (Nat.le_of_ble_eq_true rfl) (by omega) ?_
  refine c_X11_sheetAt hO hA1 hfa (kk := kk) (by omega) ?_
  refine Ev_astore dX11_followTold_5 rfl ?_
  refine Ev_aload dX11_followTold_7 rfl ?_
  refine Ev_ifnonnull dX11_followTold_9 ?_
  refine Ev_iload_n dX11_followTold_18 rfl ?_
  refine Ev_iconst (v := 0) dX11_followTold_19 (by decide) ?_
  refine Ev_iconst (v := 2) dX11_followTold_20 (by decide) ?_
  refine Ev_callS (bc := 0) (b := 0) dX11_followTold_21 cs_X11_72 rfl (Nat.le_of_ble_eq_true rfl) (by omega) ?_
  refine c_X11_isWithin (fun q => absurd q hw) (fun _ => ?_)
  refine Ev_if_eq dX11_followTold_24 (fun _ => ?_) (fun c => absurd (by decide) c)
  refine Ev_aload_n dX11_followTold_32 rfl ?_
  refine Ev_bipush (v := (-2)) dX11_followTold_33 (by decide) ?_
  refine Ev_callV (bc := 0) (b := 0) dX11_followTold_35 cv_X11_68 rfl hO (Nat.le_of_ble_eq_true rfl) (by omega) ?_
  refine c_X11_refused hO ?_
  refine Ev_iret dX11_followTold_38 rfl rfl ?_
  exact k

set_option maxHeartbeats 4000000 in
set_option maxRecDepth 100000 in
theorem c_X11_followTold_what {d : Nat} {S : aS} {Q : Option Value → aS → Prop} {lf : Int32} (hO : S[0]? = some (co lf)) {fa : Nat → Option Nat} (hA1 : S[1]? = some (rA 3 4 fa)) (hfa : ∀ k, k < 4 → fa k = some (2 + 2 * k)) {kk : Nat} (hk : kk < 4) {w i n9 : Int32} (hw : 0 ≤ w.toInt ∧ w.toInt ≤ 2) (k : Q (some (.int (-2))) (S.set 0 (co 0))) : Mth mX11_followTold (d + 3) 0 [.ref 0, .int (nI kk), .int w, .int i, .int n9, .int 0] S Q := by
  refine Mth_of (by decide) rfl ?_
  refine Ev_aload_n dX11_followTold_0 rfl ?_
  refine Ev_iload_n dX11_followTold_1 rfl ?_
  refine Ev_callV (bc := 0) (b := 0) dX11_followTold_2 cv_X11_64 rfl hO (Nat.le_of_ble_eq_true rfl) (by omega) ?_
  refine c_X11_sheetAt hO hA1 hfa (kk := kk) (by omega) ?_
  refine Ev_astore dX11_followTold_5 rfl ?_
  refine Ev_aload dX11_followTold_7 rfl ?_
  refine Ev_ifnonnull dX11_followTold_9 ?_
  refine Ev_iload_n dX11_followTold_18 rfl ?_
  refine Ev_iconst (v := 0) dX11_followTold_19 (by decide) ?_
  refine Ev_iconst (v := 2) dX11_followTold_20 (by decide) ?_
  refine Ev_callS (bc := 0) (b := 0) dX11_followTold_21 cs_X11_72 rfl (Nat.le_of_ble_eq_true rfl) (by omega) ?_
  refine c_X11_isWithin (fun _ => ?_) (fun q => absurd q (not_not_intro hw))
  refine Ev_if_eq dX11_followTold_24 (fun c => absurd c (by decide)) (fun _ => ?_)
  refine Ev_iload dX11_followTold_27 rfl ?_
  refine Ev_if_ne dX11_followTold_29 (fun c => absurd (by decide) c) (fun _ => ?_)
  refine Ev_aload_n dX11_followTold_32 rfl ?_
  refine Ev_bipush (v := (-2)) dX11_followTold_33 (by decide) ?_
  refine Ev_callV (bc := 0) (b := 0) dX11_followTold_35 cv_X11_68 rfl hO (Nat.le_of_ble_eq_true rfl) (by omega) ?_
  refine c_X11_refused hO ?_
  refine Ev_iret dX11_followTold_38 rfl rfl ?_
  exact k

set_option maxHeartbeats 4000000 in
set_option maxRecDepth 100000 in
theorem c_X11_followTold_none {d : Nat} {S : aS} {Q : Option Value → aS → Prop} {lf : Int32} (hO : S[0]? = some (co lf)) {fa : Nat → Option Nat} (hA1 : S[1]? = some (rA 3 4 fa)) (hfa : ∀ k, k < 4 → fa k = some (2 + 2 * k)) {pl n q : Nat} {du lw fr : Int32} (hp7 : pl ≤ 7) (hn9 : n ≤ 9) (hq : q ≤ 8) (hN : S[10]? = some (nt (nI pl) (nI n) du lw fr (nI q))) {kk : Nat} (hk : kk < 4) {w i n9 : Int32} (hw : 0 ≤ w.toInt ∧ w.toInt ≤ 2) (hp : pl = 0) (k : Q (some (.int (-3))) (S.set 0 (co 0))) : Mth mX11_followTold (d + 3) 0 [.ref 0, .int (nI kk), .int w, .int i, .int n9, .int 1] S Q := by
  refine Mth_of (by decide) rfl ?_
  refine Ev_aload_n dX11_followTold_0 rfl ?_
  refine Ev_iload_n dX11_followTold_1 rfl ?_
  refine Ev_callV (bc := 0) (b := 0) dX11_followTold_2 cv_X11_64 rfl hO (Nat.le_of_ble_eq_true rfl) (by omega) ?_
  refine c_X11_sheetAt hO hA1 hfa (kk := kk) (by omega) ?_
  refine Ev_astore dX11_followTold_5 rfl ?_
  refine Ev_aload dX11_followTold_7 rfl ?_
  refine Ev_ifnonnull dX11_followTold_9 ?_
  refine Ev_iload_n dX11_followTold_18 rfl ?_
  refine Ev_iconst (v := 0) dX11_followTold_19 (by decide) ?_
  refine Ev_iconst (v := 2) dX11_followTold_20 (by decide) ?_
  refine Ev_callS (bc := 0) (b := 0) dX11_followTold_21 cs_X11_72 rfl (Nat.le_of_ble_eq_true rfl) (by omega) ?_
  refine c_X11_isWithin (fun _ => ?_) (fun q => absurd q (not_not_intro hw))
  refine Ev_if_eq dX11_followTold_24 (fun c => absurd c (by decide)) (fun _ => ?_)
  refine Ev_iload dX11_followTold_27 rfl ?_
  refine Ev_if_ne dX11_followTold_29 (fun _ => ?_) (fun c => absurd c (by decide))
  refine Ev_aload_n dX11_followTold_39 rfl ?_
  refine Ev_get dX11_followTold_40 fg_X11_21_11 hO rfl ?_
  refine Ev_callV (bc := 0) (b := 0) dX11_followTold_43 cv_X11_130 rfl hN (Nat.le_of_ble_eq_true rfl) (by omega) ?_
  refine c_X2_isNone hp7 hn9 hq hN (fun _ => ?_) (fun q => absurd q (not_not_intro hp))
  refine Ev_if_eq dX11_followTold_46 (fun c => absurd c (by decide)) (fun _ => ?_)
  refine Ev_aload_n dX11_followTold_49 rfl ?_
  refine Ev_bipush (v := (-3)) dX11_followTold_50 (by decide) ?_
  refine Ev_callV (bc := 0) (b := 0) dX11_followTold_52 cv_X11_68 rfl hO (Nat.le_of_ble_eq_true rfl) (by omega) ?_
  refine c_X11_refused hO ?_
  refine Ev_iret dX11_followTold_55 rfl rfl ?_
  exact k

set_option maxHeartbeats 4000000 in
set_option maxRecDepth 100000 in
theorem c_X11_followTold_cast {d : Nat} {S : aS} {Q : Option Value → aS → Prop} {lf : Int32} (hO : S[0]? = some (co lf)) {fa : Nat → Option Nat} (hA1 : S[1]? = some (rA 3 4 fa)) (hfa : ∀ k, k < 4 → fa k = some (2 + 2 * k)) {pl n q : Nat} {du lw fr : Int32} (hp7 : pl ≤ 7) (hn9 : n ≤ 9) (hq : q ≤ 8) (hN : S[10]? = some (nt (nI pl) (nI n) du lw fr (nI q))) {kk : Nat} (hk : kk < 4) {ln len : Int32} {f : Nat → Int32} (hS : S[2 + 2 * kk]? = some (.inr (5, [.ref (3 + 2 * kk), .int ln, .int len]))) (hc : S[3 + 2 * kk]? = some (iA 60 f)) {w i n9 : Int32} (hw : 0 ≤ w.toInt ∧ w.toInt ≤ 2) (hp : ¬ pl = 0) (hn : ¬ ln = -1) (heq : ¬ ln = w) (k : Q (some (.int (-12))) (S.set 0 (co 2))) : Mth mX11_followTold (d + 3) 0 [.ref 0, .int (nI kk), .int w, .int i, .int n9, .int 1] S Q := by
  refine Mth_of (by decide) rfl ?_
  refine Ev_aload_n dX11_followTold_0 rfl ?_
  refine Ev_iload_n dX11_followTold_1 rfl ?_
  refine Ev_callV (bc := 0) (b := 0) dX11_followTold_2 cv_X11_64 rfl hO (Nat.le_of_ble_eq_true rfl) (by omega) ?_
  refine c_X11_sheetAt hO hA1 hfa (kk := kk) (by omega) ?_
  refine Ev_astore dX11_followTold_5 rfl ?_
  refine Ev_aload dX11_followTold_7 rfl ?_
  refine Ev_ifnonnull dX11_followTold_9 ?_
  refine Ev_iload_n dX11_followTold_18 rfl ?_
  refine Ev_iconst (v := 0) dX11_followTold_19 (by decide) ?_
  refine Ev_iconst (v := 2) dX11_followTold_20 (by decide) ?_
  refine Ev_callS (bc := 0) (b := 0) dX11_followTold_21 cs_X11_72 rfl (Nat.le_of_ble_eq_true rfl) (by omega) ?_
  refine c_X11_isWithin (fun _ => ?_) (fun q => absurd q (not_not_intro hw))
  refine Ev_if_eq dX11_followTold_24 (fun c => absurd c (by decide)) (fun _ => ?_)
  refine Ev_iload dX11_followTold_27 rfl ?_
  refine Ev_if_ne dX11_followTold_29 (fun _ => ?_) (fun c => absurd c (by decide))
  refine Ev_aload_n dX11_followTold_39 rfl ?_
  refine Ev_get dX11_followTold_40 fg_X11_21_11 hO rfl ?_
  refine Ev_callV (bc := 0) (b := 0) dX11_followTold_43 cv_X11_130 rfl hN (Nat.le_of_ble_eq_true rfl) (by omega) ?_
  refine c_X2_isNone hp7 hn9 hq hN (fun q => absurd q hp) (fun _ => ?_)
  refine Ev_if_eq dX11_followTold_46 (fun _ => ?_) (fun c => absurd (by decide) c)
  refine Ev_aload dX11_followTold_56 rfl ?_
  refine Ev_iload_n dX11_followTold_58 rfl ?_
  refine Ev_iload_n dX11_followTold_59 rfl ?_
  refine Ev_iload dX11_followTold_60 rfl ?_
  refine Ev_callV (bc := 0) (b := 0) dX11_followTold_62 cv_X11_76 rfl hS (Nat.le_of_ble_eq_true rfl) (by omega) ?_
  refine c_X5_faultOfCells_cast hS hn heq ?_
  refine Ev_istore dX11_followTold_65 rfl ?_
  refine Ev_iload dX11_followTold_67 rfl ?_
  refine Ev_if_eq dX11_followTold_69 (fun c => absurd c (by decide)) (fun _ => ?_)
  refine Ev_aload_n dX11_followTold_72 rfl ?_
  refine Ev_iload dX11_followTold_73 rfl ?_
  refine Ev_callV (bc := 0) (b := 0) dX11_followTold_75 cv_X11_80 rfl hO (Nat.le_of_ble_eq_true rfl) (by omega) ?_
  refine c_X11_failed hO ?_
  refine Ev_topi (y := (-12)) (by decide) ?_
  refine Ev_iret dX11_followTold_78 rfl rfl ?_
  exact k

set_option maxHeartbeats 4000000 in
set_option maxRecDepth 100000 in
theorem c_X11_followTold_n {d : Nat} {S : aS} {Q : Option Value → aS → Prop} {lf : Int32} (hO : S[0]? = some (co lf)) {fa : Nat → Option Nat} (hA1 : S[1]? = some (rA 3 4 fa)) (hfa : ∀ k, k < 4 → fa k = some (2 + 2 * k)) {pl n q : Nat} {du lw fr : Int32} (hp7 : pl ≤ 7) (hn9 : n ≤ 9) (hq : q ≤ 8) (hN : S[10]? = some (nt (nI pl) (nI n) du lw fr (nI q))) {kk : Nat} (hk : kk < 4) {ln len : Int32} {f : Nat → Int32} (hS : S[2 + 2 * kk]? = some (.inr (5, [.ref (3 + 2 * kk), .int ln, .int len]))) (hc : S[3 + 2 * kk]? = some (iA 60 f)) {w i n9 : Int32} (hw : 0 ≤ w.toInt ∧ w.toInt ≤ 2) (hp : ¬ pl = 0) (hn : ln = -1) (k : Q (some (.int (-11))) (S.set 0 (co 1))) : Mth mX11_followTold (d + 3) 0 [.ref 0, .int (nI kk), .int w, .int i, .int n9, .int 1] S Q := by
  refine Mth_of (by decide) rfl ?_
  refine Ev_aload_n dX11_followTold_0 rfl ?_
  refine Ev_iload_n dX11_followTold_1 rfl ?_
  refine Ev_callV (bc := 0) (b := 0) dX11_followTold_2 cv_X11_64 rfl hO (Nat.le_of_ble_eq_true rfl) (by omega) ?_
  refine c_X11_sheetAt hO hA1 hfa (kk := kk) (by omega) ?_
  refine Ev_astore dX11_followTold_5 rfl ?_
  refine Ev_aload dX11_followTold_7 rfl ?_
  refine Ev_ifnonnull dX11_followTold_9 ?_
  refine Ev_iload_n dX11_followTold_18 rfl ?_
  refine Ev_iconst (v := 0) dX11_followTold_19 (by decide) ?_
  refine Ev_iconst (v := 2) dX11_followTold_20 (by decide) ?_
  refine Ev_callS (bc := 0) (b := 0) dX11_followTold_21 cs_X11_72 rfl (Nat.le_of_ble_eq_true rfl) (by omega) ?_
  refine c_X11_isWithin (fun _ => ?_) (fun q => absurd q (not_not_intro hw))
  refine Ev_if_eq dX11_followTold_24 (fun c => absurd c (by decide)) (fun _ => ?_)
  refine Ev_iload dX11_followTold_27 rfl ?_
  refine Ev_if_ne dX11_followTold_29 (fun _ => ?_) (fun c => absurd c (by decide))
  refine Ev_aload_n dX11_followTold_39 rfl ?_
  refine Ev_get dX11_followTold_40 fg_X11_21_11 hO rfl ?_
  refine Ev_callV (bc := 0) (b := 0) dX11_followTold_43 cv_X11_130 rfl hN (Nat.le_of_ble_eq_true rfl) (by omega) ?_
  refine c_X2_isNone hp7 hn9 hq hN (fun q => absurd q hp) (fun _ => ?_)
  refine Ev_if_eq dX11_followTold_46 (fun _ => ?_) (fun c => absurd (by decide) c)
  refine Ev_aload dX11_followTold_56 rfl ?_
  refine Ev_iload_n dX11_followTold_58 rfl ?_
  refine Ev_iload_n dX11_followTold_59 rfl ?_
  refine Ev_iload dX11_followTold_60 rfl ?_
  refine Ev_callV (bc := 0) (b := 0) dX11_followTold_62 cv_X11_76 rfl hS (Nat.le_of_ble_eq_true rfl) (by omega) ?_
  refine c_X5_faultOfCells_n hS hn ?_
  refine Ev_istore dX11_followTold_65 rfl ?_
  refine Ev_iload dX11_followTold_67 rfl ?_
  refine Ev_if_eq dX11_followTold_69 (fun c => absurd c (by decide)) (fun _ => ?_)
  refine Ev_aload_n dX11_followTold_72 rfl ?_
  refine Ev_iload dX11_followTold_73 rfl ?_
  refine Ev_callV (bc := 0) (b := 0) dX11_followTold_75 cv_X11_80 rfl hO (Nat.le_of_ble_eq_true rfl) (by omega) ?_
  refine c_X11_failed hO ?_
  refine Ev_topi (y := (-11)) (by decide) ?_
  refine Ev_iret dX11_followTold_78 rfl rfl ?_
  exact k

set_option maxHeartbeats 4000000 in
set_option maxRecDepth 100000 in
theorem c_X11_followTold_size {d : Nat} {S : aS} {Q : Option Value → aS → Prop} {lf : Int32} (hO : S[0]? = some (co lf)) {fa : Nat → Option Nat} (hA1 : S[1]? = some (rA 3 4 fa)) (hfa : ∀ k, k < 4 → fa k = some (2 + 2 * k)) {pl n q : Nat} {du lw fr : Int32} (hp7 : pl ≤ 7) (hn9 : n ≤ 9) (hq : q ≤ 8) (hN : S[10]? = some (nt (nI pl) (nI n) du lw fr (nI q))) {kk : Nat} (hk : kk < 4) {ln len : Int32} {f : Nat → Int32} (hS : S[2 + 2 * kk]? = some (.inr (5, [.ref (3 + 2 * kk), .int ln, .int len]))) (hc : S[3 + 2 * kk]? = some (iA 60 f)) {w i n9 : Int32} (hw : 0 ≤ w.toInt ∧ w.toInt ≤ 2) (hp : ¬ pl = 0) (hn : ¬ ln = -1) (heq : ln = w) (hs4 : n9.toInt < 0) (k : Q (some (.int (-14))) (S.set 0 (co 4))) : Mth mX11_followTold (d + 3) 0 [.ref 0, .int (nI kk), .int w, .int i, .int n9, .int 1] S Q := by
  refine Mth_of (by decide) rfl ?_
  refine Ev_aload_n dX11_followTold_0 rfl ?_
  refine Ev_iload_n dX11_followTold_1 rfl ?_
  refine Ev_callV (bc := 0) (b := 0) dX11_followTold_2 cv_X11_64 rfl hO (Nat.le_of_ble_eq_true rfl) (by omega) ?_
  refine c_X11_sheetAt hO hA1 hfa (kk := kk) (by omega) ?_
  refine Ev_astore dX11_followTold_5 rfl ?_
  refine Ev_aload dX11_followTold_7 rfl ?_
  refine Ev_ifnonnull dX11_followTold_9 ?_
  refine Ev_iload_n dX11_followTold_18 rfl ?_
  refine Ev_iconst (v := 0) dX11_followTold_19 (by decide) ?_
  refine Ev_iconst (v := 2) dX11_followTold_20 (by decide) ?_
  refine Ev_callS (bc := 0) (b := 0) dX11_followTold_21 cs_X11_72 rfl (Nat.le_of_ble_eq_true rfl) (by omega) ?_
  refine c_X11_isWithin (fun _ => ?_) (fun q => absurd q (not_not_intro hw))
  refine Ev_if_eq dX11_followTold_24 (fun c => absurd c (by decide)) (fun _ => ?_)
  refine Ev_iload dX11_followTold_27 rfl ?_
  refine Ev_if_ne dX11_followTold_29 (fun _ => ?_) (fun c => absurd c (by decide))
  refine Ev_aload_n dX11_followTold_39 rfl ?_
  refine Ev_get dX11_followTold_40 fg_X11_21_11 hO rfl ?_
  refine Ev_callV (bc := 0) (b := 0) dX11_followTold_43 cv_X11_130 rfl hN (Nat.le_of_ble_eq_true rfl) (by omega) ?_
  refine c_X2_isNone hp7 hn9 hq hN (fun q => absurd q hp) (fun _ => ?_)
  refine Ev_if_eq dX11_followTold_46 (fun _ => ?_) (fun c => absurd (by decide) c)
  refine Ev_aload dX11_followTold_56 rfl ?_
  refine Ev_iload_n dX11_followTold_58 rfl ?_
  refine Ev_iload_n dX11_followTold_59 rfl ?_
  refine Ev_iload dX11_followTold_60 rfl ?_
  refine Ev_callV (bc := 0) (b := 0) dX11_followTold_62 cv_X11_76 rfl hS (Nat.le_of_ble_eq_true rfl) (by omega) ?_
  refine c_X5_faultOfCells_size hS hn heq hs4 ?_
  refine Ev_istore dX11_followTold_65 rfl ?_
  refine Ev_iload dX11_followTold_67 rfl ?_
  refine Ev_if_eq dX11_followTold_69 (fun c => absurd c (by decide)) (fun _ => ?_)
  refine Ev_aload_n dX11_followTold_72 rfl ?_
  refine Ev_iload dX11_followTold_73 rfl ?_
  refine Ev_callV (bc := 0) (b := 0) dX11_followTold_75 cv_X11_80 rfl hO (Nat.le_of_ble_eq_true rfl) (by omega) ?_
  refine c_X11_failed hO ?_
  refine Ev_topi (y := (-14)) (by decide) ?_
  refine Ev_iret dX11_followTold_78 rfl rfl ?_
  exact k

set_option maxHeartbeats 4000000 in
set_option maxRecDepth 100000 in
theorem c_X11_followTold_ix {d : Nat} {S : aS} {Q : Option Value → aS → Prop} {lf : Int32} (hO : S[0]? = some (co lf)) {fa : Nat → Option Nat} (hA1 : S[1]? = some (rA 3 4 fa)) (hfa : ∀ k, k < 4 → fa k = some (2 + 2 * k)) {pl n q : Nat} {du lw fr : Int32} (hp7 : pl ≤ 7) (hn9 : n ≤ 9) (hq : q ≤ 8) (hN : S[10]? = some (nt (nI pl) (nI n) du lw fr (nI q))) {kk : Nat} (hk : kk < 4) {ln len : Int32} {f : Nat → Int32} (hS : S[2 + 2 * kk]? = some (.inr (5, [.ref (3 + 2 * kk), .int ln, .int len]))) (hc : S[3 + 2 * kk]? = some (iA 60 f)) {w i n9 : Int32} (hw : 0 ≤ w.toInt ∧ w.toInt ≤ 2) (hp : ¬ pl = 0) (hl : 0 ≤ len.toInt ∧ len.toInt ≤ 60) (hn : ¬ ln = -1) (heq : ln = w) (hs4 : 0 ≤ n9.toInt) (hi : ¬ (0 ≤ i.toInt ∧ i.toInt + n9.toInt ≤ len.toInt)) (k : Q (some (.int (-13))) (S.set 0 (co 3))) : Mth mX11_followTold (d + 3) 0 [.ref 0, .int (nI kk), .int w, .int i, .int n9, .int 1] S Q := by
  refine Mth_of (by decide) rfl ?_
  refine Ev_aload_n dX11_followTold_0 rfl ?_
  refine Ev_iload_n dX11_followTold_1 rfl ?_
  refine Ev_callV (bc := 0) (b := 0) dX11_followTold_2 cv_X11_64 rfl hO (Nat.le_of_ble_eq_true rfl) (by omega) ?_
  refine c_X11_sheetAt hO hA1 hfa (kk := kk) (by omega) ?_
  refine Ev_astore dX11_followTold_5 rfl ?_
  refine Ev_aload dX11_followTold_7 rfl ?_
  refine Ev_ifnonnull dX11_followTold_9 ?_
  refine Ev_iload_n dX11_followTold_18 rfl ?_
  refine Ev_iconst (v := 0) dX11_followTold_19 (by decide) ?_
  refine Ev_iconst (v := 2) dX11_followTold_20 (by decide) ?_
  refine Ev_callS (bc := 0) (b := 0) dX11_followTold_21 cs_X11_72 rfl (Nat.le_of_ble_eq_true rfl) (by omega) ?_
  refine c_X11_isWithin (fun _ => ?_) (fun q => absurd q (not_not_intro hw))
  refine Ev_if_eq dX11_followTold_24 (fun c => absurd c (by decide)) (fun _ => ?_)
  refine Ev_iload dX11_followTold_27 rfl ?_
  refine Ev_if_ne dX11_followTold_29 (fun _ => ?_) (fun c => absurd c (by decide))
  refine Ev_aload_n dX11_followTold_39 rfl ?_
  refine Ev_get dX11_followTold_40 fg_X11_21_11 hO rfl ?_
  refine Ev_callV (bc := 0) (b := 0) dX11_followTold_43 cv_X11_130 rfl hN (Nat.le_of_ble_eq_true rfl) (by omega) ?_
  refine c_X2_isNone hp7 hn9 hq hN (fun q => absurd q hp) (fun _ => ?_)
  refine Ev_if_eq dX11_followTold_46 (fun _ => ?_) (fun c => absurd (by decide) c)
  refine Ev_aload dX11_followTold_56 rfl ?_
  refine Ev_iload_n dX11_followTold_58 rfl ?_
  refine Ev_iload_n dX11_followTold_59 rfl ?_
  refine Ev_iload dX11_followTold_60 rfl ?_
  refine Ev_callV (bc := 0) (b := 0) dX11_followTold_62 cv_X11_76 rfl hS (Nat.le_of_ble_eq_true rfl) (by omega) ?_
  refine c_X5_faultOfCells_ix hS hl hn heq hs4 hi ?_
  refine Ev_istore dX11_followTold_65 rfl ?_
  refine Ev_iload dX11_followTold_67 rfl ?_
  refine Ev_if_eq dX11_followTold_69 (fun c => absurd c (by decide)) (fun _ => ?_)
  refine Ev_aload_n dX11_followTold_72 rfl ?_
  refine Ev_iload dX11_followTold_73 rfl ?_
  refine Ev_callV (bc := 0) (b := 0) dX11_followTold_75 cv_X11_80 rfl hO (Nat.le_of_ble_eq_true rfl) (by omega) ?_
  refine c_X11_failed hO ?_
  refine Ev_topi (y := (-13)) (by decide) ?_
  refine Ev_iret dX11_followTold_78 rfl rfl ?_
  exact k

set_option maxHeartbeats 4000000 in
set_option maxRecDepth 100000 in
theorem c_X11_followTold_big {d : Nat} {S : aS} {Q : Option Value → aS → Prop} {lf : Int32} (hO : S[0]? = some (co lf)) {fa : Nat → Option Nat} (hA1 : S[1]? = some (rA 3 4 fa)) (hfa : ∀ k, k < 4 → fa k = some (2 + 2 * k)) {pl n q : Nat} {du lw fr : Int32} (hp7 : pl ≤ 7) (hn9 : n ≤ 9) (hq : q ≤ 8) (hN : S[10]? = some (nt (nI pl) (nI n) du lw fr (nI q))) {kk : Nat} (hk : kk < 4) {ln len : Int32} {f : Nat → Int32} (hS : S[2 + 2 * kk]? = some (.inr (5, [.ref (3 + 2 * kk), .int ln, .int len]))) (hc : S[3 + 2 * kk]? = some (iA 60 f)) {w : Int32} (hw : 0 ≤ w.toInt ∧ w.toInt ≤ 2) (hp : ¬ pl = 0) (hl : 0 ≤ len.toInt ∧ len.toInt ≤ 60) {ii m : Nat} (hiz : (ii : Int) + m ≤ len.toInt) (hn : ¬ ln = -1) (heq : ln = w) (hm : 12 < m) (k : Q (some (.int (-2))) (S.set 0 (co 0))) : Mth mX11_followTold (d + 3) 0 [.ref 0, .int (nI kk), .int w, .int (nI ii), .int (nI m), .int 1] S Q := by
  refine Mth_of (by decide) rfl ?_
  refine Ev_aload_n dX11_followTold_0 rfl ?_
  refine Ev_iload_n dX11_followTold_1 rfl ?_
  refine Ev_callV (bc := 0) (b := 0) dX11_followTold_2 cv_X11_64 rfl hO (Nat.le_of_ble_eq_true rfl) (by omega) ?_
  refine c_X11_sheetAt hO hA1 hfa (kk := kk) (by omega) ?_
  refine Ev_astore dX11_followTold_5 rfl ?_
  refine Ev_aload dX11_followTold_7 rfl ?_
  refine Ev_ifnonnull dX11_followTold_9 ?_
  refine Ev_iload_n dX11_followTold_18 rfl ?_
  refine Ev_iconst (v := 0) dX11_followTold_19 (by decide) ?_
  refine Ev_iconst (v := 2) dX11_followTold_20 (by decide) ?_
  refine Ev_callS (bc := 0) (b := 0) dX11_followTold_21 cs_X11_72 rfl (Nat.le_of_ble_eq_true rfl) (by omega) ?_
  refine c_X11_isWithin (fun _ => ?_) (fun q => absurd q (not_not_intro hw))
  refine Ev_if_eq dX11_followTold_24 (fun c => absurd c (by decide)) (fun _ => ?_)
  refine Ev_iload dX11_followTold_27 rfl ?_
  refine Ev_if_ne dX11_followTold_29 (fun _ => ?_) (fun c => absurd c (by decide))
  refine Ev_aload_n dX11_followTold_39 rfl ?_
  refine Ev_get dX11_followTold_40 fg_X11_21_11 hO rfl ?_
  refine Ev_callV (bc := 0) (b := 0) dX11_followTold_43 cv_X11_130 rfl hN (Nat.le_of_ble_eq_true rfl) (by omega) ?_
  refine c_X2_isNone hp7 hn9 hq hN (fun q => absurd q hp) (fun _ => ?_)
  refine Ev_if_eq dX11_followTold_46 (fun _ => ?_) (fun c => absurd (by decide) c)
  refine Ev_aload dX11_followTold_56 rfl ?_
  refine Ev_iload_n dX11_followTold_58 rfl ?_
  refine Ev_iload_n dX11_followTold_59 rfl ?_
  refine Ev_iload dX11_followTold_60 rfl ?_
  refine Ev_callV (bc := 0) (b := 0) dX11_followTold_62 cv_X11_76 rfl hS (Nat.le_of_ble_eq_true rfl) (by omega) ?_
  refine c_X5_faultOfCells_o hS hl hn heq (by rw [nIt (by omega)]; omega) (by rw [nIt (by omega), nIt (by omega)]; omega) ?_
  refine Ev_istore dX11_followTold_65 rfl ?_
  refine Ev_iload dX11_followTold_67 rfl ?_
  refine Ev_if_eq dX11_followTold_69 (fun _ => ?_) (fun c => absurd (by decide) c)
  refine Ev_aload_n dX11_followTold_79 rfl ?_
  refine Ev_iconst (v := 0) dX11_followTold_80 (by decide) ?_
  refine Ev_put dX11_followTold_81 fr_X11_60_11 hO rfl rfl rfl ?_
  refine Ev_iload dX11_followTold_84 rfl ?_
  refine Ev_bipush (v := 12) dX11_followTold_86 (by decide) ?_
  refine Ev_icmp_le dX11_followTold_88 (fun c => absurd c (fun z => absurd ((nle (b := 12) (by omega) (by decide)).mp z) (by omega))) (fun _ => ?_)
  refine Ev_bipush (v := (-2)) dX11_followTold_91 (by decide) ?_
  refine Ev_iret dX11_followTold_93 rfl rfl ?_
  exact k

set_option maxHeartbeats 4000000 in
set_option maxRecDepth 100000 in
theorem c_X11_followTold_o {d : Nat} {S : aS} {Q : Option Value → aS → Prop} {lf : Int32} (hO : S[0]? = some (co lf)) {fa : Nat → Option Nat} (hA1 : S[1]? = some (rA 3 4 fa)) (hfa : ∀ k, k < 4 → fa k = some (2 + 2 * k)) {pl n q : Nat} {du lw fr : Int32} (hp7 : pl ≤ 7) (hn9 : n ≤ 9) (hq : q ≤ 8) (hN : S[10]? = some (nt (nI pl) (nI n) du lw fr (nI q))) {cs : Nat} {G : Nat → Nat → Nat} (hg : GD pl n G) {sa : Nat → Option Nat} {ad : Nat → Nat} (hA : S[11]? = some (rA 4 9 sa)) (hsa : ∀ j, j < n → sa j = some (ad j)) {fz : Int} (hC : CN S n G cs fz ad) {kk : Nat} (hk : kk < 4) {ln len : Int32} {f : Nat → Int32} (hS : S[2 + 2 * kk]? = some (.inr (5, [.ref (3 + 2 * kk), .int ln, .int len]))) (hc : S[3 + 2 * kk]? = some (iA 60 f)) {w : Int32} (hl : 0 ≤ len.toInt ∧ len.toInt ≤ 60) {ii m : Nat} (hiz : (ii : Int) + m ≤ len.toInt) (hn : ¬ ln = -1) (heq : ln = w) {x1 x2 x3 x4 x5 : Int32} {x6 : Int64} (hW : S[14]? = some (wkc x1 x2 x3 x4 x5 x6)) (hw : 0 ≤ w.toInt ∧ w.toInt ≤ 2) (hp : ¬ pl = 0) (hm : m ≤ 12) (ku : ∀ x, x < m → ¬ inR n (f (ii + x)) → Q (some (.int (-1))) (S.set 0 (co 0))) (kf : ∀ x p c, x < m → (∀ y, y < m → inR n (f (ii + y))) → paN G cs (rc (fun y => f (ii + y))) x = some p → gt G cs ((rc (fun y => f (ii + y))) x) p = none → Q (some (.int (-100 - nI x))) ((S.set 0 (co 0)).set 14 (WKC G n fz (rc (fun y => f (ii + y))) p c))) (ks : ∀ p, (∀ y, y < m → inR n (f (ii + y))) → paN G cs (rc (fun y => f (ii + y))) m = some p → Q (some (.int 0)) ((S.set 0 (co 0)).set 14 (WKC G n fz (rc (fun y => f (ii + y))) p m)))  : Mth mX11_followTold (d + 3) 0 [.ref 0, .int (nI kk), .int w, .int (nI ii), .int (nI m), .int 1] S Q := by
  refine Mth_of (by decide) rfl ?_
  refine Ev_aload_n dX11_followTold_0 rfl ?_
  refine Ev_iload_n dX11_followTold_1 rfl ?_
  refine Ev_callV (bc := 0) (b := 0) dX11_followTold_2 cv_X11_64 rfl hO (Nat.le_of_ble_eq_true rfl) (by omega) ?_
  refine c_X11_sheetAt hO hA1 hfa (kk := kk) (by omega) ?_
  refine Ev_astore dX11_followTold_5 rfl ?_
  refine Ev_aload dX11_followTold_7 rfl ?_
  refine Ev_ifnonnull dX11_followTold_9 ?_
  refine Ev_iload_n dX11_followTold_18 rfl ?_
  refine Ev_iconst (v := 0) dX11_followTold_19 (by decide) ?_
  refine Ev_iconst (v := 2) dX11_followTold_20 (by decide) ?_
  refine Ev_callS (bc := 0) (b := 0) dX11_followTold_21 cs_X11_72 rfl (Nat.le_of_ble_eq_true rfl) (by omega) ?_
  refine c_X11_isWithin (fun _ => ?_) (fun q => absurd q (not_not_intro hw))
  refine Ev_if_eq dX11_followTold_24 (fun c => absurd c (by decide)) (fun _ => ?_)
  refine Ev_iload dX11_followTold_27 rfl ?_
  refine Ev_if_ne dX11_followTold_29 (fun _ => ?_) (fun c => absurd c (by decide))
  refine Ev_aload_n dX11_followTold_39 rfl ?_
  refine Ev_get dX11_followTold_40 fg_X11_21_11 hO rfl ?_
  refine Ev_callV (bc := 0) (b := 0) dX11_followTold_43 cv_X11_130 rfl hN (Nat.le_of_ble_eq_true rfl) (by omega) ?_
  refine c_X2_isNone hp7 hn9 hq hN (fun q => absurd q hp) (fun _ => ?_)
  refine Ev_if_eq dX11_followTold_46 (fun _ => ?_) (fun c => absurd (by decide) c)
  refine Ev_aload dX11_followTold_56 rfl ?_
  refine Ev_iload_n dX11_followTold_58 rfl ?_
  refine Ev_iload_n dX11_followTold_59 rfl ?_
  refine Ev_iload dX11_followTold_60 rfl ?_
  refine Ev_callV (bc := 0) (b := 0) dX11_followTold_62 cv_X11_76 rfl hS (Nat.le_of_ble_eq_true rfl) (by omega) ?_
  refine c_X5_faultOfCells_o hS hl hn heq (by rw [nIt (by omega)]; omega) (by rw [nIt (by omega), nIt (by omega)]; omega) ?_
  refine Ev_istore dX11_followTold_65 rfl ?_
  refine Ev_iload dX11_followTold_67 rfl ?_
  refine Ev_if_eq dX11_followTold_69 (fun _ => ?_) (fun c => absurd (by decide) c)
  refine Ev_aload_n dX11_followTold_79 rfl ?_
  refine Ev_iconst (v := 0) dX11_followTold_80 (by decide) ?_
  refine Ev_put dX11_followTold_81 fr_X11_60_11 hO rfl rfl rfl ?_
  refine Ev_iload dX11_followTold_84 rfl ?_
  refine Ev_bipush (v := 12) dX11_followTold_86 (by decide) ?_
  refine Ev_icmp_le dX11_followTold_88 (fun _ => ?_) (fun c => absurd ((nle (b := 12) (by omega) (by decide)).mpr hm) c)
  refine Ev_aload_n dX11_followTold_94 rfl ?_
  refine Ev_aload dX11_followTold_95 rfl ?_
  refine Ev_iload_n dX11_followTold_97 rfl ?_
  refine Ev_iload dX11_followTold_98 rfl ?_
  refine Ev_callV (bc := 0) (b := 0) dX11_followTold_100 cv_X11_280 rfl (gs hO) (Nat.le_of_ble_eq_true rfl) (by omega) ?_
  refine c_X11_areStretches (gs hO) hp7 hn9 hq (gn (by decide) hN) hg (gn (by decide) hA) hsa (CN.off hC (by decide)) hk (gn (by omega) hS) (gn (by omega) hc) hl hiz (fun hin => ?_) (fun x hx hxn => ?_)
  · skip
    refine Ev_if_ne dX11_followTold_103 (fun _ => ?_) (fun c => absurd c (by decide))
    refine Ev_aload_n dX11_followTold_108 rfl ?_
    refine Ev_aload dX11_followTold_109 rfl ?_
    refine Ev_iload_n dX11_followTold_111 rfl ?_
    refine Ev_iload dX11_followTold_112 rfl ?_
    refine Ev_callV (bc := 0) (b := 0) dX11_followTold_114 cv_X11_284 rfl (gs hO) (Nat.le_of_ble_eq_true rfl) (by omega) ?_
    refine c_X11_followCells (r := (rc (fun y => f (ii + y)))) (gs hO) hp7 hn9 hq (gn (by decide) hN) hg (gn (by decide) hA) hsa (CN.off hC (by decide)) hk (gn (by omega) hS) (gn (by omega) hc) hl hiz (gn (by decide) hW) hm (fun y hy => inR_rc (c := (fun y => f (ii + y))) (hin y hy)) (Nat.pos_of_ne_zero hp) (fun x p c hx h1 h2 => ?_) (fun p h1 => ?_)
    · skip
      refine Ev_iret dX11_followTold_117 rfl rfl ?_
      exact kf x p c hx hin h1 h2
    · skip
      refine Ev_iret dX11_followTold_117 rfl rfl ?_
      exact ks p hin h1
  · skip
    refine Ev_if_ne dX11_followTold_103 (fun c => absurd (by decide) c) (fun _ => ?_)
    refine Ev_iconst (v := (-1)) dX11_followTold_106 (by decide) ?_
    refine Ev_iret dX11_followTold_107 rfl rfl ?_
    exact ku x hx hxn

set_option maxHeartbeats 4000000 in
set_option maxRecDepth 100000 in
theorem c_X11_walk_unk {d : Nat} {S : aS} {Q : Option Value → aS → Prop} {lf : Int32} (hO : S[0]? = some (co lf)) {x : Int32} (hk : ¬ (0 ≤ x.toInt ∧ x.toInt ≤ 3)) {w i n9 v : Int32} (k : Q (some (.int (-1))) (S.set 0 (co 0))) : Mth mX11_walk (d + 5) 0 [.ref 0, .int x, .int w, .int i, .int n9, .int v] S Q := by
  refine Mth_of (by decide) rfl ?_
  refine Ev_aload_n dX11_walk_0 rfl ?_
  refine Ev_iload_n dX11_walk_1 rfl ?_
  refine Ev_iload_n dX11_walk_2 rfl ?_
  refine Ev_iload_n dX11_walk_3 rfl ?_
  refine Ev_iload dX11_walk_4 rfl ?_
  refine Ev_iload dX11_walk_6 rfl ?_
  refine Ev_iconst (v := 0) dX11_walk_8 (by decide) ?_
  refine Ev_iconst (v := 3) dX11_walk_9 (by decide) ?_
  refine Ev_callS (bc := 0) (b := 0) dX11_walk_10 cs_X11_72 rfl (Nat.le_of_ble_eq_true rfl) (by omega) ?_
  refine c_X11_isWithin (fun q1 => ?_) (fun q1 => ?_)
  · skip
    refine Ev_callV (bc := 0) (b := 0) dX11_walk_13 cv_X11_151 rfl hO (Nat.le_of_ble_eq_true rfl) (by omega) ?_
    refine c_X11_followTold_unk1 hO hk ?_
    refine Ev_istore dX11_walk_16 rfl ?_
    refine Ev_iload dX11_walk_18 rfl ?_
    refine Ev_if_eq dX11_walk_20 (fun c => absurd c (by decide)) (fun _ => ?_)
    refine Ev_iload dX11_walk_23 rfl ?_
    refine Ev_iret dX11_walk_25 rfl rfl ?_
    exact k
  · skip
    refine Ev_callV (bc := 0) (b := 0) dX11_walk_13 cv_X11_151 rfl hO (Nat.le_of_ble_eq_true rfl) (by omega) ?_
    refine c_X11_followTold_unk0 hO hk ?_
    refine Ev_istore dX11_walk_16 rfl ?_
    refine Ev_iload dX11_walk_18 rfl ?_
    refine Ev_if_eq dX11_walk_20 (fun c => absurd c (by decide)) (fun _ => ?_)
    refine Ev_iload dX11_walk_23 rfl ?_
    refine Ev_iret dX11_walk_25 rfl rfl ?_
    exact k

set_option maxHeartbeats 4000000 in
set_option maxRecDepth 100000 in
theorem c_X11_walk_lane {d : Nat} {S : aS} {Q : Option Value → aS → Prop} {lf : Int32} (hO : S[0]? = some (co lf)) {fa : Nat → Option Nat} (hA1 : S[1]? = some (rA 3 4 fa)) (hfa : ∀ k, k < 4 → fa k = some (2 + 2 * k)) {kk : Nat} (hk : kk < 4) {w i n9 v : Int32} (hw : ¬ (0 ≤ w.toInt ∧ w.toInt ≤ 2)) (k : Q (some (.int (-2))) (S.set 0 (co 0))) : Mth mX11_walk (d + 5) 0 [.ref 0, .int (nI kk), .int w, .int i, .int n9, .int v] S Q := by
  refine Mth_of (by decide) rfl ?_
  refine Ev_aload_n dX11_walk_0 rfl ?_
  refine Ev_iload_n dX11_walk_1 rfl ?_
  refine Ev_iload_n dX11_walk_2 rfl ?_
  refine Ev_iload_n dX11_walk_3 rfl ?_
  refine Ev_iload dX11_walk_4 rfl ?_
  refine Ev_iload dX11_walk_6 rfl ?_
  refine Ev_iconst (v := 0) dX11_walk_8 (by decide) ?_
  refine Ev_iconst (v := 3) dX11_walk_9 (by decide) ?_
  refine Ev_callS (bc := 0) (b := 0) dX11_walk_10 cs_X11_72 rfl (Nat.le_of_ble_eq_true rfl) (by omega) ?_
  refine c_X11_isWithin (fun q1 => ?_) (fun q1 => ?_)
  · skip
    refine Ev_callV (bc := 0) (b := 0) dX11_walk_13 cv_X11_151 rfl hO (Nat.le_of_ble_eq_true rfl) (by omega) ?_
    refine c_X11_followTold_lane1 hO hA1 hfa hk hw ?_
    refine Ev_istore dX11_walk_16 rfl ?_
    refine Ev_iload dX11_walk_18 rfl ?_
    refine Ev_if_eq dX11_walk_20 (fun c => absurd c (by decide)) (fun _ => ?_)
    refine Ev_iload dX11_walk_23 rfl ?_
    refine Ev_iret dX11_walk_25 rfl rfl ?_
    exact k
  · skip
    refine Ev_callV (bc := 0) (b := 0) dX11_walk_13 cv_X11_151 rfl hO (Nat.le_of_ble_eq_true rfl) (by omega) ?_
    refine c_X11_followTold_lane0 hO hA1 hfa hk hw ?_
    refine Ev_istore dX11_walk_16 rfl ?_
    refine Ev_iload dX11_walk_18 rfl ?_
    refine Ev_if_eq dX11_walk_20 (fun c => absurd c (by decide)) (fun _ => ?_)
    refine Ev_iload dX11_walk_23 rfl ?_
    refine Ev_iret dX11_walk_25 rfl rfl ?_
    exact k

set_option maxHeartbeats 4000000 in
set_option maxRecDepth 100000 in
theorem c_X11_walk_what {d : Nat} {S : aS} {Q : Option Value → aS → Prop} {lf : Int32} (hO : S[0]? = some (co lf)) {fa : Nat → Option Nat} (hA1 : S[1]? = some (rA 3 4 fa)) (hfa : ∀ k, k < 4 → fa k = some (2 + 2 * k)) {kk : Nat} (hk : kk < 4) {w i n9 v : Int32} (hw : 0 ≤ w.toInt ∧ w.toInt ≤ 2) (hv : ¬ (0 ≤ v.toInt ∧ v.toInt ≤ 3)) (k : Q (some (.int (-2))) (S.set 0 (co 0))) : Mth mX11_walk (d + 5) 0 [.ref 0, .int (nI kk), .int w, .int i, .int n9, .int v] S Q := by
  refine Mth_of (by decide) rfl ?_
  refine Ev_aload_n dX11_walk_0 rfl ?_
  refine Ev_iload_n dX11_walk_1 rfl ?_
  refine Ev_iload_n dX11_walk_2 rfl ?_
  refine Ev_iload_n dX11_walk_3 rfl ?_
  refine Ev_iload dX11_walk_4 rfl ?_
  refine Ev_iload dX11_walk_6 rfl ?_
  refine Ev_iconst (v := 0) dX11_walk_8 (by decide) ?_
  refine Ev_iconst (v := 3) dX11_walk_9 (by decide) ?_
  refine Ev_callS (bc := 0) (b := 0) dX11_walk_10 cs_X11_72 rfl (Nat.le_of_ble_eq_true rfl) (by omega) ?_
  refine c_X11_isWithin (fun q => absurd q hv) (fun _ => ?_)
  refine Ev_callV (bc := 0) (b := 0) dX11_walk_13 cv_X11_151 rfl hO (Nat.le_of_ble_eq_true rfl) (by omega) ?_
  refine c_X11_followTold_what hO hA1 hfa hk hw ?_
  refine Ev_istore dX11_walk_16 rfl ?_
  refine Ev_iload dX11_walk_18 rfl ?_
  refine Ev_if_eq dX11_walk_20 (fun c => absurd c (by decide)) (fun _ => ?_)
  refine Ev_iload dX11_walk_23 rfl ?_
  refine Ev_iret dX11_walk_25 rfl rfl ?_
  exact k

set_option maxHeartbeats 4000000 in
set_option maxRecDepth 100000 in
theorem c_X11_walk_none {d : Nat} {S : aS} {Q : Option Value → aS → Prop} {lf : Int32} (hO : S[0]? = some (co lf)) {fa : Nat → Option Nat} (hA1 : S[1]? = some (rA 3 4 fa)) (hfa : ∀ k, k < 4 → fa k = some (2 + 2 * k)) {pl n q : Nat} {du lw fr : Int32} (hp7 : pl ≤ 7) (hn9 : n ≤ 9) (hq : q ≤ 8) (hN : S[10]? = some (nt (nI pl) (nI n) du lw fr (nI q))) {kk : Nat} (hk : kk < 4) {w i n9 v : Int32} (hw : 0 ≤ w.toInt ∧ w.toInt ≤ 2) (hv : 0 ≤ v.toInt ∧ v.toInt ≤ 3) (hp : pl = 0) (k : Q (some (.int (-3))) (S.set 0 (co 0))) : Mth mX11_walk (d + 5) 0 [.ref 0, .int (nI kk), .int w, .int i, .int n9, .int v] S Q := by
  refine Mth_of (by decide) rfl ?_
  refine Ev_aload_n dX11_walk_0 rfl ?_
  refine Ev_iload_n dX11_walk_1 rfl ?_
  refine Ev_iload_n dX11_walk_2 rfl ?_
  refine Ev_iload_n dX11_walk_3 rfl ?_
  refine Ev_iload dX11_walk_4 rfl ?_
  refine Ev_iload dX11_walk_6 rfl ?_
  refine Ev_iconst (v := 0) dX11_walk_8 (by decide) ?_
  refine Ev_iconst (v := 3) dX11_walk_9 (by decide) ?_
  refine Ev_callS (bc := 0) (b := 0) dX11_walk_10 cs_X11_72 rfl (Nat.le_of_ble_eq_true rfl) (by omega) ?_
  refine c_X11_isWithin (fun _ => ?_) (fun q => absurd q (not_not_intro hv))
  refine Ev_callV (bc := 0) (b := 0) dX11_walk_13 cv_X11_151 rfl hO (Nat.le_of_ble_eq_true rfl) (by omega) ?_
  refine c_X11_followTold_none hO hA1 hfa hp7 hn9 hq hN hk hw hp ?_
  refine Ev_istore dX11_walk_16 rfl ?_
  refine Ev_iload dX11_walk_18 rfl ?_
  refine Ev_if_eq dX11_walk_20 (fun c => absurd c (by decide)) (fun _ => ?_)
  refine Ev_iload dX11_walk_23 rfl ?_
  refine Ev_iret dX11_walk_25 rfl rfl ?_
  exact k

set_option maxHeartbeats 4000000 in
set_option maxRecDepth 100000 in
theorem c_X11_walk_cast {d : Nat} {S : aS} {Q : Option Value → aS → Prop} {lf : Int32} (hO : S[0]? = some (co lf)) {fa : Nat → Option Nat} (hA1 : S[1]? = some (rA 3 4 fa)) (hfa : ∀ k, k < 4 → fa k = some (2 + 2 * k)) {pl n q : Nat} {du lw fr : Int32} (hp7 : pl ≤ 7) (hn9 : n ≤ 9) (hq : q ≤ 8) (hN : S[10]? = some (nt (nI pl) (nI n) du lw fr (nI q))) {kk : Nat} (hk : kk < 4) {ln len : Int32} {f : Nat → Int32} (hS : S[2 + 2 * kk]? = some (.inr (5, [.ref (3 + 2 * kk), .int ln, .int len]))) (hc : S[3 + 2 * kk]? = some (iA 60 f)) {w i n9 v : Int32} (hw : 0 ≤ w.toInt ∧ w.toInt ≤ 2) (hv : 0 ≤ v.toInt ∧ v.toInt ≤ 3) (hp : ¬ pl = 0) (hn : ¬ ln = -1) (heq : ¬ ln = w) (k : Q (some (.int (-12))) (S.set 0 (co 2))) : Mth mX11_walk (d + 5) 0 [.ref 0, .int (nI kk), .int w, .int i, .int n9, .int v] S Q := by
  refine Mth_of (by decide) rfl ?_
  refine Ev_aload_n dX11_walk_0 rfl ?_
  refine Ev_iload_n dX11_walk_1 rfl ?_
  refine Ev_iload_n dX11_walk_2 rfl ?_
  refine Ev_iload_n dX11_walk_3 rfl ?_
  refine Ev_iload dX11_walk_4 rfl ?_
  refine Ev_iload dX11_walk_6 rfl ?_
  refine Ev_iconst (v := 0) dX11_walk_8 (by decide) ?_
  refine Ev_iconst (v := 3) dX11_walk_9 (by decide) ?_
  refine Ev_callS (bc := 0) (b := 0) dX11_walk_10 cs_X11_72 rfl (Nat.le_of_ble_eq_true rfl) (by omega) ?_
  refine c_X11_isWithin (fun _ => ?_) (fun q => absurd q (not_not_intro hv))
  refine Ev_callV (bc := 0) (b := 0) dX11_walk_13 cv_X11_151 rfl hO (Nat.le_of_ble_eq_true rfl) (by omega) ?_
  refine c_X11_followTold_cast hO hA1 hfa hp7 hn9 hq hN hk hS hc hw hp hn heq ?_
  refine Ev_istore dX11_walk_16 rfl ?_
  refine Ev_iload dX11_walk_18 rfl ?_
  refine Ev_if_eq dX11_walk_20 (fun c => absurd c (by decide)) (fun _ => ?_)
  refine Ev_iload dX11_walk_23 rfl ?_
  refine Ev_iret dX11_walk_25 rfl rfl ?_
  exact k

set_option maxHeartbeats 4000000 in
set_option maxRecDepth 100000 in
theorem c_X11_walk_n {d : Nat} {S : aS} {Q : Option Value → aS → Prop} {lf : Int32} (hO : S[0]? = some (co lf)) {fa : Nat → Option Nat} (hA1 : S[1]? = some (rA 3 4 fa)) (hfa : ∀ k, k < 4 → fa k = some (2 + 2 * k)) {pl n q : Nat} {du lw fr : Int32} (hp7 : pl ≤ 7) (hn9 : n ≤ 9) (hq : q ≤ 8) (hN : S[10]? = some (nt (nI pl) (nI n) du lw fr (nI q))) {kk : Nat} (hk : kk < 4) {ln len : Int32} {f : Nat → Int32} (hS : S[2 + 2 * kk]? = some (.inr (5, [.ref (3 + 2 * kk), .int ln, .int len]))) (hc : S[3 + 2 * kk]? = some (iA 60 f)) {w i n9 v : Int32} (hw : 0 ≤ w.toInt ∧ w.toInt ≤ 2) (hv : 0 ≤ v.toInt ∧ v.toInt ≤ 3) (hp : ¬ pl = 0) (hn : ln = -1) (k : Q (some (.int (-11))) (S.set 0 (co 1))) : Mth mX11_walk (d + 5) 0 [.ref 0, .int (nI kk), .int w, .int i, .int n9, .int v] S Q := by
  refine Mth_of (by decide) rfl ?_
  refine Ev_aload_n dX11_walk_0 rfl ?_
  refine Ev_iload_n dX11_walk_1 rfl ?_
  refine Ev_iload_n dX11_walk_2 rfl ?_
  refine Ev_iload_n dX11_walk_3 rfl ?_
  refine Ev_iload dX11_walk_4 rfl ?_
  refine Ev_iload dX11_walk_6 rfl ?_
  refine Ev_iconst (v := 0) dX11_walk_8 (by decide) ?_
  refine Ev_iconst (v := 3) dX11_walk_9 (by decide) ?_
  refine Ev_callS (bc := 0) (b := 0) dX11_walk_10 cs_X11_72 rfl (Nat.le_of_ble_eq_true rfl) (by omega) ?_
  refine c_X11_isWithin (fun _ => ?_) (fun q => absurd q (not_not_intro hv))
  refine Ev_callV (bc := 0) (b := 0) dX11_walk_13 cv_X11_151 rfl hO (Nat.le_of_ble_eq_true rfl) (by omega) ?_
  refine c_X11_followTold_n hO hA1 hfa hp7 hn9 hq hN hk hS hc hw hp hn ?_
  refine Ev_istore dX11_walk_16 rfl ?_
  refine Ev_iload dX11_walk_18 rfl ?_
  refine Ev_if_eq dX11_walk_20 (fun c => absurd c (by decide)) (fun _ => ?_)
  refine Ev_iload dX11_walk_23 rfl ?_
  refine Ev_iret dX11_walk_25 rfl rfl ?_
  exact k

set_option maxHeartbeats 4000000 in
set_option maxRecDepth 100000 in
theorem c_X11_walk_size {d : Nat} {S : aS} {Q : Option Value → aS → Prop} {lf : Int32} (hO : S[0]? = some (co lf)) {fa : Nat → Option Nat} (hA1 : S[1]? = some (rA 3 4 fa)) (hfa : ∀ k, k < 4 → fa k = some (2 + 2 * k)) {pl n q : Nat} {du lw fr : Int32} (hp7 : pl ≤ 7) (hn9 : n ≤ 9) (hq : q ≤ 8) (hN : S[10]? = some (nt (nI pl) (nI n) du lw fr (nI q))) {kk : Nat} (hk : kk < 4) {ln len : Int32} {f : Nat → Int32} (hS : S[2 + 2 * kk]? = some (.inr (5, [.ref (3 + 2 * kk), .int ln, .int len]))) (hc : S[3 + 2 * kk]? = some (iA 60 f)) {w i n9 v : Int32} (hw : 0 ≤ w.toInt ∧ w.toInt ≤ 2) (hv : 0 ≤ v.toInt ∧ v.toInt ≤ 3) (hp : ¬ pl = 0) (hn : ¬ ln = -1) (heq : ln = w) (hs4 : n9.toInt < 0) (k : Q (some (.int (-14))) (S.set 0 (co 4))) : Mth mX11_walk (d + 5) 0 [.ref 0, .int (nI kk), .int w, .int i, .int n9, .int v] S Q := by
  refine Mth_of (by decide) rfl ?_
  refine Ev_aload_n dX11_walk_0 rfl ?_
  refine Ev_iload_n dX11_walk_1 rfl ?_
  refine Ev_iload_n dX11_walk_2 rfl ?_
  refine Ev_iload_n dX11_walk_3 rfl ?_
  refine Ev_iload dX11_walk_4 rfl ?_
  refine Ev_iload dX11_walk_6 rfl ?_
  refine Ev_iconst (v := 0) dX11_walk_8 (by decide) ?_
  refine Ev_iconst (v := 3) dX11_walk_9 (by decide) ?_
  refine Ev_callS (bc := 0) (b := 0) dX11_walk_10 cs_X11_72 rfl (Nat.le_of_ble_eq_true rfl) (by omega) ?_
  refine c_X11_isWithin (fun _ => ?_) (fun q => absurd q (not_not_intro hv))
  refine Ev_callV (bc := 0) (b := 0) dX11_walk_13 cv_X11_151 rfl hO (Nat.le_of_ble_eq_true rfl) (by omega) ?_
  refine c_X11_followTold_size hO hA1 hfa hp7 hn9 hq hN hk hS hc hw hp hn heq hs4 ?_
  refine Ev_istore dX11_walk_16 rfl ?_
  refine Ev_iload dX11_walk_18 rfl ?_
  refine Ev_if_eq dX11_walk_20 (fun c => absurd c (by decide)) (fun _ => ?_)
  refine Ev_iload dX11_walk_23 rfl ?_
  refine Ev_iret dX11_walk_25 rfl rfl ?_
  exact k

set_option maxHeartbeats 4000000 in
set_option maxRecDepth 100000 in
theorem c_X11_walk_ix {d : Nat} {S : aS} {Q : Option Value → aS → Prop} {lf : Int32} (hO : S[0]? = some (co lf)) {fa : Nat → Option Nat} (hA1 : S[1]? = some (rA 3 4 fa)) (hfa : ∀ k, k < 4 → fa k = some (2 + 2 * k)) {pl n q : Nat} {du lw fr : Int32} (hp7 : pl ≤ 7) (hn9 : n ≤ 9) (hq : q ≤ 8) (hN : S[10]? = some (nt (nI pl) (nI n) du lw fr (nI q))) {kk : Nat} (hk : kk < 4) {ln len : Int32} {f : Nat → Int32} (hS : S[2 + 2 * kk]? = some (.inr (5, [.ref (3 + 2 * kk), .int ln, .int len]))) (hc : S[3 + 2 * kk]? = some (iA 60 f)) {w i n9 v : Int32} (hw : 0 ≤ w.toInt ∧ w.toInt ≤ 2) (hv : 0 ≤ v.toInt ∧ v.toInt ≤ 3) (hp : ¬ pl = 0) (hl : 0 ≤ len.toInt ∧ len.toInt ≤ 60) (hn : ¬ ln = -1) (heq : ln = w) (hs4 : 0 ≤ n9.toInt) (hi : ¬ (0 ≤ i.toInt ∧ i.toInt + n9.toInt ≤ len.toInt)) (k : Q (some (.int (-13))) (S.set 0 (co 3))) : Mth mX11_walk (d + 5) 0 [.ref 0, .int (nI kk), .int w, .int i, .int n9, .int v] S Q := by
  refine Mth_of (by decide) rfl ?_
  refine Ev_aload_n dX11_walk_0 rfl ?_
  refine Ev_iload_n dX11_walk_1 rfl ?_
  refine Ev_iload_n dX11_walk_2 rfl ?_
  refine Ev_iload_n dX11_walk_3 rfl ?_
  refine Ev_iload dX11_walk_4 rfl ?_
  refine Ev_iload dX11_walk_6 rfl ?_
  refine Ev_iconst (v := 0) dX11_walk_8 (by decide) ?_
  refine Ev_iconst (v := 3) dX11_walk_9 (by decide) ?_
  refine Ev_callS (bc := 0) (b := 0) dX11_walk_10 cs_X11_72 rfl (Nat.le_of_ble_eq_true rfl) (by omega) ?_
  refine c_X11_isWithin (fun _ => ?_) (fun q => absurd q (not_not_intro hv))
  refine Ev_callV (bc := 0) (b := 0) dX11_walk_13 cv_X11_151 rfl hO (Nat.le_of_ble_eq_true rfl) (by omega) ?_
  refine c_X11_followTold_ix hO hA1 hfa hp7 hn9 hq hN hk hS hc hw hp hl hn heq hs4 hi ?_
  refine Ev_istore dX11_walk_16 rfl ?_
  refine Ev_iload dX11_walk_18 rfl ?_
  refine Ev_if_eq dX11_walk_20 (fun c => absurd c (by decide)) (fun _ => ?_)
  refine Ev_iload dX11_walk_23 rfl ?_
  refine Ev_iret dX11_walk_25 rfl rfl ?_
  exact k

set_option maxHeartbeats 4000000 in
set_option maxRecDepth 100000 in
theorem c_X11_walk_big {d : Nat} {S : aS} {Q : Option Value → aS → Prop} {lf : Int32} (hO : S[0]? = some (co lf)) {fa : Nat → Option Nat} (hA1 : S[1]? = some (rA 3 4 fa)) (hfa : ∀ k, k < 4 → fa k = some (2 + 2 * k)) {pl n q : Nat} {du lw fr : Int32} (hp7 : pl ≤ 7) (hn9 : n ≤ 9) (hq : q ≤ 8) (hN : S[10]? = some (nt (nI pl) (nI n) du lw fr (nI q))) {kk : Nat} (hk : kk < 4) {ln len : Int32} {f : Nat → Int32} (hS : S[2 + 2 * kk]? = some (.inr (5, [.ref (3 + 2 * kk), .int ln, .int len]))) (hc : S[3 + 2 * kk]? = some (iA 60 f)) {w v : Int32} (hw : 0 ≤ w.toInt ∧ w.toInt ≤ 2) (hv : 0 ≤ v.toInt ∧ v.toInt ≤ 3) (hp : ¬ pl = 0) (hl : 0 ≤ len.toInt ∧ len.toInt ≤ 60) {ii m : Nat} (hiz : (ii : Int) + m ≤ len.toInt) (hn : ¬ ln = -1) (heq : ln = w) (hm : 12 < m) (k : Q (some (.int (-2))) (S.set 0 (co 0))) : Mth mX11_walk (d + 5) 0 [.ref 0, .int (nI kk), .int w, .int (nI ii), .int (nI m), .int v] S Q := by
  refine Mth_of (by decide) rfl ?_
  refine Ev_aload_n dX11_walk_0 rfl ?_
  refine Ev_iload_n dX11_walk_1 rfl ?_
  refine Ev_iload_n dX11_walk_2 rfl ?_
  refine Ev_iload_n dX11_walk_3 rfl ?_
  refine Ev_iload dX11_walk_4 rfl ?_
  refine Ev_iload dX11_walk_6 rfl ?_
  refine Ev_iconst (v := 0) dX11_walk_8 (by decide) ?_
  refine Ev_iconst (v := 3) dX11_walk_9 (by decide) ?_
  refine Ev_callS (bc := 0) (b := 0) dX11_walk_10 cs_X11_72 rfl (Nat.le_of_ble_eq_true rfl) (by omega) ?_
  refine c_X11_isWithin (fun _ => ?_) (fun q => absurd q (not_not_intro hv))
  refine Ev_callV (bc := 0) (b := 0) dX11_walk_13 cv_X11_151 rfl hO (Nat.le_of_ble_eq_true rfl) (by omega) ?_
  refine c_X11_followTold_big hO hA1 hfa hp7 hn9 hq hN hk hS hc hw hp hl hiz hn heq hm ?_
  refine Ev_istore dX11_walk_16 rfl ?_
  refine Ev_iload dX11_walk_18 rfl ?_
  refine Ev_if_eq dX11_walk_20 (fun c => absurd c (by decide)) (fun _ => ?_)
  refine Ev_iload dX11_walk_23 rfl ?_
  refine Ev_iret dX11_walk_25 rfl rfl ?_
  exact k

set_option maxHeartbeats 4000000 in
set_option maxRecDepth 100000 in
theorem c_X11_walk_0 {d : Nat} {S : aS} {Q : Option Value → aS → Prop} {lf : Int32} (hO : S[0]? = some (co lf)) {fa : Nat → Option Nat} (hA1 : S[1]? = some (rA 3 4 fa)) (hfa : ∀ k, k < 4 → fa k = some (2 + 2 * k)) {pl n q : Nat} {du lw fr : Int32} (hp7 : pl ≤ 7) (hn9 : n ≤ 9) (hq : q ≤ 8) (hN : S[10]? = some (nt (nI pl) (nI n) du lw fr (nI q))) {cs : Nat} {G : Nat → Nat → Nat} (hg : GD pl n G) {sa : Nat → Option Nat} {ad : Nat → Nat} (hA : S[11]? = some (rA 4 9 sa)) (hsa : ∀ j, j < n → sa j = some (ad j)) {fz : Int} (hC : CN S n G cs fz ad) {kk : Nat} (hk : kk < 4) {ln len : Int32} {f : Nat → Int32} (hS : S[2 + 2 * kk]? = some (.inr (5, [.ref (3 + 2 * kk), .int ln, .int len]))) (hc : S[3 + 2 * kk]? = some (iA 60 f)) {w : Int32} (hl : 0 ≤ len.toInt ∧ len.toInt ≤ 60) {ii m : Nat} (hiz : (ii : Int) + m ≤ len.toInt) (hn : ¬ ln = -1) (heq : ln = w) {x1 x2 x3 x4 x5 : Int32} {x6 : Int64} (hW : S[14]? = some (wkc x1 x2 x3 x4 x5 x6)) (hw : 0 ≤ w.toInt ∧ w.toInt ≤ 2) (hp : ¬ pl = 0) (hlw : 0 ≤ lw.toInt ∧ lw.toInt ≤ 2) (hdu : 0 ≤ du.toInt ∧ du.toInt ≤ 99) (hm : m ≤ 12) (ku : ∀ x, x < m → ¬ inR n (f (ii + x)) → Q (some (.int (-1))) (S.set 0 (co 0))) (kf : ∀ x p c, x < m → (∀ y, y < m → inR n (f (ii + y))) → paN G cs (rc (fun y => f (ii + y))) x = some p → gt G cs ((rc (fun y => f (ii + y))) x) p = none → Q (some (.int (-100 - nI x))) ((S.set 0 (co 0)).set 14 (WKC G n fz (rc (fun y => f (ii + y))) p c))) (ks : ∀ p, (∀ y, y < m → inR n (f (ii + y))) → paN G cs (rc (fun y => f (ii + y))) m = some p → Q (some (.int (nI p))) ((S.set 0 (co 0)).set 14 (WKC G n fz (rc (fun y => f (ii + y))) p m)))  : Mth mX11_walk (d + 5) 0 [.ref 0, .int (nI kk), .int w, .int (nI ii), .int (nI m), .int 0] S Q := by
  refine Mth_of (by decide) rfl ?_
  refine Ev_aload_n dX11_walk_0 rfl ?_
  refine Ev_iload_n dX11_walk_1 rfl ?_
  refine Ev_iload_n dX11_walk_2 rfl ?_
  refine Ev_iload_n dX11_walk_3 rfl ?_
  refine Ev_iload dX11_walk_4 rfl ?_
  refine Ev_iload dX11_walk_6 rfl ?_
  refine Ev_iconst (v := 0) dX11_walk_8 (by decide) ?_
  refine Ev_iconst (v := 3) dX11_walk_9 (by decide) ?_
  refine Ev_callS (bc := 0) (b := 0) dX11_walk_10 cs_X11_72 rfl (Nat.le_of_ble_eq_true rfl) (by omega) ?_
  refine c_X11_isWithin (fun _ => ?_) (fun q => absurd q (by decide))
  refine Ev_callV (bc := 0) (b := 0) dX11_walk_13 cv_X11_151 rfl hO (Nat.le_of_ble_eq_true rfl) (by omega) ?_
  refine c_X11_followTold_o hO hA1 hfa hp7 hn9 hq hN hg hA hsa hC hk hS hc hl hiz hn heq hW hw hp hm (fun x hx hxn => ?_) (fun x p c hx hin h1 h2 => ?_) (fun p hin h1 => ?_)
  · skip
    refine Ev_istore dX11_walk_16 rfl ?_
    refine Ev_iload dX11_walk_18 rfl ?_
    refine Ev_if_eq dX11_walk_20 (fun c => absurd c (by decide)) (fun _ => ?_)
    refine Ev_iload dX11_walk_23 rfl ?_
    refine Ev_iret dX11_walk_25 rfl rfl ?_
    exact ku x hx hxn
  · skip
    refine Ev_istore dX11_walk_16 rfl ?_
    refine Ev_iload dX11_walk_18 rfl ?_
    refine Ev_if_eq dX11_walk_20 (fun c => absurd c (fun z => m100n (x := x) (by omega) (by rw [z]; decide))) (fun _ => ?_)
    refine Ev_iload dX11_walk_23 rfl ?_
    refine Ev_iret dX11_walk_25 rfl rfl ?_
    exact kf x p c hx hin h1 h2
  · skip
    refine Ev_istore dX11_walk_16 rfl ?_
    refine Ev_iload dX11_walk_18 rfl ?_
    refine Ev_if_eq dX11_walk_20 (fun _ => ?_) (fun c => absurd (by decide) c)
    refine Ev_iload dX11_walk_26 rfl ?_
    refine Ev_tableIn (off := 28) (tg := 56) 0 dX11_walk_28 (by decide) (by decide) rfl (by decide) ?_
    refine Ev_aload_n dX11_walk_56 rfl ?_
    refine Ev_get dX11_walk_57 fg_X11_28_11 (gn (by decide) (gs hO)) rfl ?_
    refine Ev_get dX11_walk_60 fg_X11_155_10 (gs (gn (by decide) hW)) rfl ?_
    refine Ev_iret dX11_walk_63 rfl rfl ?_
    exact ks p hin h1

set_option maxHeartbeats 4000000 in
set_option maxRecDepth 100000 in
theorem c_X11_walk_1 {d : Nat} {S : aS} {Q : Option Value → aS → Prop} {lf : Int32} (hO : S[0]? = some (co lf)) {fa : Nat → Option Nat} (hA1 : S[1]? = some (rA 3 4 fa)) (hfa : ∀ k, k < 4 → fa k = some (2 + 2 * k)) {pl n q : Nat} {du lw fr : Int32} (hp7 : pl ≤ 7) (hn9 : n ≤ 9) (hq : q ≤ 8) (hN : S[10]? = some (nt (nI pl) (nI n) du lw fr (nI q))) {cs : Nat} {G : Nat → Nat → Nat} (hg : GD pl n G) {sa : Nat → Option Nat} {ad : Nat → Nat} (hA : S[11]? = some (rA 4 9 sa)) (hsa : ∀ j, j < n → sa j = some (ad j)) {fz : Int} (hC : CN S n G cs fz ad) {kk : Nat} (hk : kk < 4) {ln len : Int32} {f : Nat → Int32} (hS : S[2 + 2 * kk]? = some (.inr (5, [.ref (3 + 2 * kk), .int ln, .int len]))) (hc : S[3 + 2 * kk]? = some (iA 60 f)) {w : Int32} (hl : 0 ≤ len.toInt ∧ len.toInt ≤ 60) {ii m : Nat} (hiz : (ii : Int) + m ≤ len.toInt) (hn : ¬ ln = -1) (heq : ln = w) {x1 x2 x3 x4 x5 : Int32} {x6 : Int64} (hW : S[14]? = some (wkc x1 x2 x3 x4 x5 x6)) (hw : 0 ≤ w.toInt ∧ w.toInt ≤ 2) (hp : ¬ pl = 0) (hlw : 0 ≤ lw.toInt ∧ lw.toInt ≤ 2) (hdu : 0 ≤ du.toInt ∧ du.toInt ≤ 99) (hm : m ≤ 12) (ku : ∀ x, x < m → ¬ inR n (f (ii + x)) → Q (some (.int (-1))) (S.set 0 (co 0))) (kf : ∀ x p c, x < m → (∀ y, y < m → inR n (f (ii + y))) → paN G cs (rc (fun y => f (ii + y))) x = some p → gt G cs ((rc (fun y => f (ii + y))) x) p = none → Q (some (.int (-100 - nI x))) ((S.set 0 (co 0)).set 14 (WKC G n fz (rc (fun y => f (ii + y))) p c))) (ks : ∀ p, (∀ y, y < m → inR n (f (ii + y))) → paN G cs (rc (fun y => f (ii + y))) m = some p → Q (some (.int (nI (sumN (fun x => tk G fz ((rc (fun y => f (ii + y))) x)) m)))) ((S.set 0 (co 0)).set 14 (WKC G n fz (rc (fun y => f (ii + y))) p m)))  : Mth mX11_walk (d + 5) 0 [.ref 0, .int (nI kk), .int w, .int (nI ii), .int (nI m), .int 1] S Q := by
  refine Mth_of (by decide) rfl ?_
  refine Ev_aload_n dX11_walk_0 rfl ?_
  refine Ev_iload_n dX11_walk_1 rfl ?_
  refine Ev_iload_n dX11_walk_2 rfl ?_
  refine Ev_iload_n dX11_walk_3 rfl ?_
  refine Ev_iload dX11_walk_4 rfl ?_
  refine Ev_iload dX11_walk_6 rfl ?_
  refine Ev_iconst (v := 0) dX11_walk_8 (by decide) ?_
  refine Ev_iconst (v := 3) dX11_walk_9 (by decide) ?_
  refine Ev_callS (bc := 0) (b := 0) dX11_walk_10 cs_X11_72 rfl (Nat.le_of_ble_eq_true rfl) (by omega) ?_
  refine c_X11_isWithin (fun _ => ?_) (fun q => absurd q (by decide))
  refine Ev_callV (bc := 0) (b := 0) dX11_walk_13 cv_X11_151 rfl hO (Nat.le_of_ble_eq_true rfl) (by omega) ?_
  refine c_X11_followTold_o hO hA1 hfa hp7 hn9 hq hN hg hA hsa hC hk hS hc hl hiz hn heq hW hw hp hm (fun x hx hxn => ?_) (fun x p c hx hin h1 h2 => ?_) (fun p hin h1 => ?_)
  · skip
    refine Ev_istore dX11_walk_16 rfl ?_
    refine Ev_iload dX11_walk_18 rfl ?_
    refine Ev_if_eq dX11_walk_20 (fun c => absurd c (by decide)) (fun _ => ?_)
    refine Ev_iload dX11_walk_23 rfl ?_
    refine Ev_iret dX11_walk_25 rfl rfl ?_
    exact ku x hx hxn
  · skip
    refine Ev_istore dX11_walk_16 rfl ?_
    refine Ev_iload dX11_walk_18 rfl ?_
    refine Ev_if_eq dX11_walk_20 (fun c => absurd c (fun z => m100n (x := x) (by omega) (by rw [z]; decide))) (fun _ => ?_)
    refine Ev_iload dX11_walk_23 rfl ?_
    refine Ev_iret dX11_walk_25 rfl rfl ?_
    exact kf x p c hx hin h1 h2
  · skip
    refine Ev_istore dX11_walk_16 rfl ?_
    refine Ev_iload dX11_walk_18 rfl ?_
    refine Ev_if_eq dX11_walk_20 (fun _ => ?_) (fun c => absurd (by decide) c)
    refine Ev_iload dX11_walk_26 rfl ?_
    refine Ev_tableIn (off := 36) (tg := 64) 1 dX11_walk_28 (by decide) (by decide) rfl (by decide) ?_
    refine Ev_aload_n dX11_walk_64 rfl ?_
    refine Ev_get dX11_walk_65 fg_X11_28_11 (gn (by decide) (gs hO)) rfl ?_
    refine Ev_get dX11_walk_68 fg_X11_158_10 (gs (gn (by decide) hW)) rfl ?_
    refine Ev_iret dX11_walk_71 rfl rfl ?_
    exact ks p hin h1

set_option maxHeartbeats 4000000 in
set_option maxRecDepth 100000 in
theorem c_X11_walk_2 {d : Nat} {S : aS} {Q : Option Value → aS → Prop} {lf : Int32} (hO : S[0]? = some (co lf)) {fa : Nat → Option Nat} (hA1 : S[1]? = some (rA 3 4 fa)) (hfa : ∀ k, k < 4 → fa k = some (2 + 2 * k)) {pl n q : Nat} {du lw fr : Int32} (hp7 : pl ≤ 7) (hn9 : n ≤ 9) (hq : q ≤ 8) (hN : S[10]? = some (nt (nI pl) (nI n) du lw fr (nI q))) {cs : Nat} {G : Nat → Nat → Nat} (hg : GD pl n G) {sa : Nat → Option Nat} {ad : Nat → Nat} (hA : S[11]? = some (rA 4 9 sa)) (hsa : ∀ j, j < n → sa j = some (ad j)) {fz : Int} (hC : CN S n G cs fz ad) {kk : Nat} (hk : kk < 4) {ln len : Int32} {f : Nat → Int32} (hS : S[2 + 2 * kk]? = some (.inr (5, [.ref (3 + 2 * kk), .int ln, .int len]))) (hc : S[3 + 2 * kk]? = some (iA 60 f)) {w : Int32} (hl : 0 ≤ len.toInt ∧ len.toInt ≤ 60) {ii m : Nat} (hiz : (ii : Int) + m ≤ len.toInt) (hn : ¬ ln = -1) (heq : ln = w) {x1 x2 x3 x4 x5 : Int32} {x6 : Int64} (hW : S[14]? = some (wkc x1 x2 x3 x4 x5 x6)) (hw : 0 ≤ w.toInt ∧ w.toInt ≤ 2) (hp : ¬ pl = 0) (hlw : 0 ≤ lw.toInt ∧ lw.toInt ≤ 2) (hdu : 0 ≤ du.toInt ∧ du.toInt ≤ 99) (hm : m ≤ 12) (ku : ∀ x, x < m → ¬ inR n (f (ii + x)) → Q (some (.int (-1))) (S.set 0 (co 0))) (kf : ∀ x p c, x < m → (∀ y, y < m → inR n (f (ii + y))) → paN G cs (rc (fun y => f (ii + y))) x = some p → gt G cs ((rc (fun y => f (ii + y))) x) p = none → Q (some (.int (-100 - nI x))) ((S.set 0 (co 0)).set 14 (WKC G n fz (rc (fun y => f (ii + y))) p c))) (ks : ∀ p, (∀ y, y < m → inR n (f (ii + y))) → paN G cs (rc (fun y => f (ii + y))) m = some p → Q (some (.int (nI (sgN G n (goN (rc (fun y => f (ii + y))) m))))) ((S.set 0 (co 0)).set 14 (WKC G n fz (rc (fun y => f (ii + y))) p m)))  : Mth mX11_walk (d + 5) 0 [.ref 0, .int (nI kk), .int w, .int (nI ii), .int (nI m), .int 2] S Q := by
  refine Mth_of (by decide) rfl ?_
  refine Ev_aload_n dX11_walk_0 rfl ?_
  refine Ev_iload_n dX11_walk_1 rfl ?_
  refine Ev_iload_n dX11_walk_2 rfl ?_
  refine Ev_iload_n dX11_walk_3 rfl ?_
  refine Ev_iload dX11_walk_4 rfl ?_
  refine Ev_iload dX11_walk_6 rfl ?_
  refine Ev_iconst (v := 0) dX11_walk_8 (by decide) ?_
  refine Ev_iconst (v := 3) dX11_walk_9 (by decide) ?_
  refine Ev_callS (bc := 0) (b := 0) dX11_walk_10 cs_X11_72 rfl (Nat.le_of_ble_eq_true rfl) (by omega) ?_
  refine c_X11_isWithin (fun _ => ?_) (fun q => absurd q (by decide))
  refine Ev_callV (bc := 0) (b := 0) dX11_walk_13 cv_X11_151 rfl hO (Nat.le_of_ble_eq_true rfl) (by omega) ?_
  refine c_X11_followTold_o hO hA1 hfa hp7 hn9 hq hN hg hA hsa hC hk hS hc hl hiz hn heq hW hw hp hm (fun x hx hxn => ?_) (fun x p c hx hin h1 h2 => ?_) (fun p hin h1 => ?_)
  · skip
    refine Ev_istore dX11_walk_16 rfl ?_
    refine Ev_iload dX11_walk_18 rfl ?_
    refine Ev_if_eq dX11_walk_20 (fun c => absurd c (by decide)) (fun _ => ?_)
    refine Ev_iload dX11_walk_23 rfl ?_
    refine Ev_iret dX11_walk_25 rfl rfl ?_
    exact ku x hx hxn
  · skip
    refine Ev_istore dX11_walk_16 rfl ?_
    refine Ev_iload dX11_walk_18 rfl ?_
    refine Ev_if_eq dX11_walk_20 (fun c => absurd c (fun z => m100n (x := x) (by omega) (by rw [z]; decide))) (fun _ => ?_)
    refine Ev_iload dX11_walk_23 rfl ?_
    refine Ev_iret dX11_walk_25 rfl rfl ?_
    exact kf x p c hx hin h1 h2
  · skip
    refine Ev_istore dX11_walk_16 rfl ?_
    refine Ev_iload dX11_walk_18 rfl ?_
    refine Ev_if_eq dX11_walk_20 (fun _ => ?_) (fun c => absurd (by decide) c)
    refine Ev_iload dX11_walk_26 rfl ?_
    refine Ev_tableIn (off := 44) (tg := 72) 2 dX11_walk_28 (by decide) (by decide) rfl (by decide) ?_
    refine Ev_aload_n dX11_walk_72 rfl ?_
    refine Ev_get dX11_walk_73 fg_X11_28_11 (gn (by decide) (gs hO)) rfl ?_
    refine Ev_get dX11_walk_76 fg_X11_159_10 (gs (gn (by decide) hW)) rfl ?_
    refine Ev_iret dX11_walk_79 rfl rfl ?_
    exact ks p hin h1

set_option maxHeartbeats 4000000 in
set_option maxRecDepth 100000 in
theorem c_X11_walk_3 {d : Nat} {S : aS} {Q : Option Value → aS → Prop} {lf : Int32} (hO : S[0]? = some (co lf)) {fa : Nat → Option Nat} (hA1 : S[1]? = some (rA 3 4 fa)) (hfa : ∀ k, k < 4 → fa k = some (2 + 2 * k)) {pl n q : Nat} {du lw fr : Int32} (hp7 : pl ≤ 7) (hn9 : n ≤ 9) (hq : q ≤ 8) (hN : S[10]? = some (nt (nI pl) (nI n) du lw fr (nI q))) {cs : Nat} {G : Nat → Nat → Nat} (hg : GD pl n G) {sa : Nat → Option Nat} {ad : Nat → Nat} (hA : S[11]? = some (rA 4 9 sa)) (hsa : ∀ j, j < n → sa j = some (ad j)) {fz : Int} (hC : CN S n G cs fz ad) {kk : Nat} (hk : kk < 4) {ln len : Int32} {f : Nat → Int32} (hS : S[2 + 2 * kk]? = some (.inr (5, [.ref (3 + 2 * kk), .int ln, .int len]))) (hc : S[3 + 2 * kk]? = some (iA 60 f)) {w : Int32} (hl : 0 ≤ len.toInt ∧ len.toInt ≤ 60) {ii m : Nat} (hiz : (ii : Int) + m ≤ len.toInt) (hn : ¬ ln = -1) (heq : ln = w) {x1 x2 x3 x4 x5 : Int32} {x6 : Int64} (hW : S[14]? = some (wkc x1 x2 x3 x4 x5 x6)) (hw : 0 ≤ w.toInt ∧ w.toInt ≤ 2) (hp : ¬ pl = 0) (hlw : 0 ≤ lw.toInt ∧ lw.toInt ≤ 2) (hdu : 0 ≤ du.toInt ∧ du.toInt ≤ 99) (hm : m ≤ 12) (ku : ∀ x, x < m → ¬ inR n (f (ii + x)) → Q (some (.int (-1))) (S.set 0 (co 0))) (kf : ∀ x p c, x < m → (∀ y, y < m → inR n (f (ii + y))) → paN G cs (rc (fun y => f (ii + y))) x = some p → gt G cs ((rc (fun y => f (ii + y))) x) p = none → Q (some (.int (-100 - nI x))) ((S.set 0 (co 0)).set 14 (WKC G n fz (rc (fun y => f (ii + y))) p c))) (ks : ∀ p, (∀ y, y < m → inR n (f (ii + y))) → paN G cs (rc (fun y => f (ii + y))) m = some p → Q (some (.int (100000 + iZ (jy lw.toInt du.toInt (sgN G n (goN (rc (fun y => f (ii + y))) m) : Int) (sumN (fun x => tk G fz ((rc (fun y => f (ii + y))) x)) m : Int))))) ((S.set 0 (co 0)).set 14 (WKC G n fz (rc (fun y => f (ii + y))) p m)))  : Mth mX11_walk (d + 5) 0 [.ref 0, .int (nI kk), .int w, .int (nI ii), .int (nI m), .int 3] S Q := by
  refine Mth_of (by decide) rfl ?_
  refine Ev_aload_n dX11_walk_0 rfl ?_
  refine Ev_iload_n dX11_walk_1 rfl ?_
  refine Ev_iload_n dX11_walk_2 rfl ?_
  refine Ev_iload_n dX11_walk_3 rfl ?_
  refine Ev_iload dX11_walk_4 rfl ?_
  refine Ev_iload dX11_walk_6 rfl ?_
  refine Ev_iconst (v := 0) dX11_walk_8 (by decide) ?_
  refine Ev_iconst (v := 3) dX11_walk_9 (by decide) ?_
  refine Ev_callS (bc := 0) (b := 0) dX11_walk_10 cs_X11_72 rfl (Nat.le_of_ble_eq_true rfl) (by omega) ?_
  refine c_X11_isWithin (fun _ => ?_) (fun q => absurd q (by decide))
  refine Ev_callV (bc := 0) (b := 0) dX11_walk_13 cv_X11_151 rfl hO (Nat.le_of_ble_eq_true rfl) (by omega) ?_
  refine c_X11_followTold_o hO hA1 hfa hp7 hn9 hq hN hg hA hsa hC hk hS hc hl hiz hn heq hW hw hp hm (fun x hx hxn => ?_) (fun x p c hx hin h1 h2 => ?_) (fun p hin h1 => ?_)
  · skip
    refine Ev_istore dX11_walk_16 rfl ?_
    refine Ev_iload dX11_walk_18 rfl ?_
    refine Ev_if_eq dX11_walk_20 (fun c => absurd c (by decide)) (fun _ => ?_)
    refine Ev_iload dX11_walk_23 rfl ?_
    refine Ev_iret dX11_walk_25 rfl rfl ?_
    exact ku x hx hxn
  · skip
    refine Ev_istore dX11_walk_16 rfl ?_
    refine Ev_iload dX11_walk_18 rfl ?_
    refine Ev_if_eq dX11_walk_20 (fun c => absurd c (fun z => m100n (x := x) (by omega) (by rw [z]; decide))) (fun _ => ?_)
    refine Ev_iload dX11_walk_23 rfl ?_
    refine Ev_iret dX11_walk_25 rfl rfl ?_
    exact kf x p c hx hin h1 h2
  · skip
    refine Ev_istore dX11_walk_16 rfl ?_
    refine Ev_iload dX11_walk_18 rfl ?_
    refine Ev_if_eq dX11_walk_20 (fun _ => ?_) (fun c => absurd (by decide) c)
    refine Ev_iload dX11_walk_26 rfl ?_
    refine Ev_tableOut (tg := 80) dX11_walk_28 (by decide) (by decide) ?_
    refine Ev_ldc dX11_walk_80 wl_X11_160 ?_
    refine Ev_aload_n dX11_walk_82 rfl ?_
    refine Ev_get dX11_walk_83 fg_X11_21_11 (gn (by decide) (gs hO)) rfl ?_
    refine Ev_aload_n dX11_walk_86 rfl ?_
    refine Ev_get dX11_walk_87 fg_X11_28_11 (gn (by decide) (gs hO)) rfl ?_
    refine Ev_callV (bc := 0) (b := 0) dX11_walk_90 cv_X11_161 rfl (gn (by decide) (gn (by decide) hN)) (Nat.le_of_ble_eq_true rfl) (by omega) ?_
    have hsm : sumN (fun x => tk G fz ((rc (fun y => f (ii + y))) x)) m ≤ m * 21 := sumN_le m (fun x hx => (tk_le hg _ (inR_rc (c := (fun y => f (ii + y))) (hin x hx)).2).1)
    have hsg : sgN G n (goN (rc (fun y => f (ii + y))) m) ≤ n * 9 := sumN_le n (fun x hx => by have := hg.2.2 x hx; show (if _ then _ else _) ≤ 9; split <;> omega)
    refine c_X2_joyOf hp7 hn9 hq (gn (by decide) (gn (by decide) hN)) hlw hdu (gs (gn (by decide) hW)) (by omega) (by omega) ?_
    refine Ev_iadd dX11_walk_93 ?_
    refine Ev_iret dX11_walk_94 rfl rfl ?_
    exact ks p hin h1

set_option maxHeartbeats 4000000 in
set_option maxRecDepth 100000 in
theorem c_X11_safe_unk {d : Nat} {S : aS} {Q : Option Value → aS → Prop} {lf : Int32} (hO : S[0]? = some (co lf)) {x : Int32} (hk : ¬ (0 ≤ x.toInt ∧ x.toInt ≤ 3)) {w i n9 v : Int32} (k : Q (some (.long (-9223372036854775808))) (S.set 0 (co 0))) : Mth mX11_safe (d + 5) 0 [.ref 0, .int x, .int w, .int i, .int n9, .int v] S Q := by
  refine Mth_of (by decide) rfl ?_
  refine Ev_aload_n dX11_safe_0 rfl ?_
  refine Ev_iload_n dX11_safe_1 rfl ?_
  refine Ev_iload_n dX11_safe_2 rfl ?_
  refine Ev_iload_n dX11_safe_3 rfl ?_
  refine Ev_iload dX11_safe_4 rfl ?_
  refine Ev_iload dX11_safe_6 rfl ?_
  refine Ev_iconst (v := 0) dX11_safe_8 (by decide) ?_
  refine Ev_iconst (v := 1) dX11_safe_9 (by decide) ?_
  refine Ev_callS (bc := 0) (b := 0) dX11_safe_10 cs_X11_72 rfl (Nat.le_of_ble_eq_true rfl) (by omega) ?_
  refine c_X11_isWithin (fun q1 => ?_) (fun q1 => ?_)
  · skip
    refine Ev_callV (bc := 0) (b := 0) dX11_safe_13 cv_X11_151 rfl hO (Nat.le_of_ble_eq_true rfl) (by omega) ?_
    refine c_X11_followTold_unk1 hO hk ?_
    refine Ev_istore dX11_safe_16 rfl ?_
    refine Ev_iload dX11_safe_18 rfl ?_
    refine Ev_if_eq dX11_safe_20 (fun c => absurd c (by decide)) (fun _ => ?_)
    refine Ev_ldc2 dX11_safe_23 wl_X11_165 ?_
    refine Ev_lret dX11_safe_26 rfl ?_
    exact k
  · skip
    refine Ev_callV (bc := 0) (b := 0) dX11_safe_13 cv_X11_151 rfl hO (Nat.le_of_ble_eq_true rfl) (by omega) ?_
    refine c_X11_followTold_unk0 hO hk ?_
    refine Ev_istore dX11_safe_16 rfl ?_
    refine Ev_iload dX11_safe_18 rfl ?_
    refine Ev_if_eq dX11_safe_20 (fun c => absurd c (by decide)) (fun _ => ?_)
    refine Ev_ldc2 dX11_safe_23 wl_X11_165 ?_
    refine Ev_lret dX11_safe_26 rfl ?_
    exact k

set_option maxHeartbeats 4000000 in
set_option maxRecDepth 100000 in
theorem c_X11_safe_lane {d : Nat} {S : aS} {Q : Option Value → aS → Prop} {lf : Int32} (hO : S[0]? = some (co lf)) {fa : Nat → Option Nat} (hA1 : S[1]? = some (rA 3 4 fa)) (hfa : ∀ k, k < 4 → fa k = some (2 + 2 * k)) {kk : Nat} (hk : kk < 4) {w i n9 v : Int32} (hw : ¬ (0 ≤ w.toInt ∧ w.toInt ≤ 2)) (k : Q (some (.long (-9223372036854775808))) (S.set 0 (co 0))) : Mth mX11_safe (d + 5) 0 [.ref 0, .int (nI kk), .int w, .int i, .int n9, .int v] S Q := by
  refine Mth_of (by decide) rfl ?_
  refine Ev_aload_n dX11_safe_0 rfl ?_
  refine Ev_iload_n dX11_safe_1 rfl ?_
  refine Ev_iload_n dX11_safe_2 rfl ?_
  refine Ev_iload_n dX11_safe_3 rfl ?_
  refine Ev_iload dX11_safe_4 rfl ?_
  refine Ev_iload dX11_safe_6 rfl ?_
  refine Ev_iconst (v := 0) dX11_safe_8 (by decide) ?_
  refine Ev_iconst (v := 1) dX11_safe_9 (by decide) ?_
  refine Ev_callS (bc := 0) (b := 0) dX11_safe_10 cs_X11_72 rfl (Nat.le_of_ble_eq_true rfl) (by omega) ?_
  refine c_X11_isWithin (fun q1 => ?_) (fun q1 => ?_)
  · skip
    refine Ev_callV (bc := 0) (b := 0) dX11_safe_13 cv_X11_151 rfl hO (Nat.le_of_ble_eq_true rfl) (by omega) ?_
    refine c_X11_followTold_lane1 hO hA1 hfa hk hw ?_
    refine Ev_istore dX11_safe_16 rfl ?_
    refine Ev_iload dX11_safe_18 rfl ?_
    refine Ev_if_eq dX11_safe_20 (fun c => absurd c (by decide)) (fun _ => ?_)
    refine Ev_ldc2 dX11_safe_23 wl_X11_165 ?_
    refine Ev_lret dX11_safe_26 rfl ?_
    exact k
  · skip
    refine Ev_callV (bc := 0) (b := 0) dX11_safe_13 cv_X11_151 rfl hO (Nat.le_of_ble_eq_true rfl) (by omega) ?_
    refine c_X11_followTold_lane0 hO hA1 hfa hk hw ?_
    refine Ev_istore dX11_safe_16 rfl ?_
    refine Ev_iload dX11_safe_18 rfl ?_
    refine Ev_if_eq dX11_safe_20 (fun c => absurd c (by decide)) (fun _ => ?_)
    refine Ev_ldc2 dX11_safe_23 wl_X11_165 ?_
    refine Ev_lret dX11_safe_26 rfl ?_
    exact k

set_option maxHeartbeats 4000000 in
set_option maxRecDepth 100000 in
theorem c_X11_safe_what {d : Nat} {S : aS} {Q : Option Value → aS → Prop} {lf : Int32} (hO : S[0]? = some (co lf)) {fa : Nat → Option Nat} (hA1 : S[1]? = some (rA 3 4 fa)) (hfa : ∀ k, k < 4 → fa k = some (2 + 2 * k)) {kk : Nat} (hk : kk < 4) {w i n9 v : Int32} (hw : 0 ≤ w.toInt ∧ w.toInt ≤ 2) (hv : ¬ (0 ≤ v.toInt ∧ v.toInt ≤ 1)) (k : Q (some (.long (-9223372036854775808))) (S.set 0 (co 0))) : Mth mX11_safe (d + 5) 0 [.ref 0, .int (nI kk), .int w, .int i, .int n9, .int v] S Q := by
  refine Mth_of (by decide) rfl ?_
  refine Ev_aload_n dX11_safe_0 rfl ?_
  refine Ev_iload_n dX11_safe_1 rfl ?_
  refine Ev_iload_n dX11_safe_2 rfl ?_
  refine Ev_iload_n dX11_safe_3 rfl ?_
  refine Ev_iload dX11_safe_4 rfl ?_
  refine Ev_iload dX11_safe_6 rfl ?_
  refine Ev_iconst (v := 0) dX11_safe_8 (by decide) ?_
  refine Ev_iconst (v := 1) dX11_safe_9 (by decide) ?_
  refine Ev_callS (bc := 0) (b := 0) dX11_safe_10 cs_X11_72 rfl (Nat.le_of_ble_eq_true rfl) (by omega) ?_
  refine c_X11_isWithin (fun q => absurd q hv) (fun _ => ?_)
  refine Ev_callV (bc := 0) (b := 0) dX11_safe_13 cv_X11_151 rfl hO (Nat.le_of_ble_eq_true rfl) (by omega) ?_
  refine c_X11_followTold_what hO hA1 hfa hk hw ?_
  refine Ev_istore dX11_safe_16 rfl ?_
  refine Ev_iload dX11_safe_18 rfl ?_
  refine Ev_if_eq dX11_safe_20 (fun c => absurd c (by decide)) (fun _ => ?_)
  refine Ev_ldc2 dX11_safe_23 wl_X11_165 ?_
  refine Ev_lret dX11_safe_26 rfl ?_
  exact k

set_option maxHeartbeats 4000000 in
set_option maxRecDepth 100000 in
theorem c_X11_safe_none {d : Nat} {S : aS} {Q : Option Value → aS → Prop} {lf : Int32} (hO : S[0]? = some (co lf)) {fa : Nat → Option Nat} (hA1 : S[1]? = some (rA 3 4 fa)) (hfa : ∀ k, k < 4 → fa k = some (2 + 2 * k)) {pl n q : Nat} {du lw fr : Int32} (hp7 : pl ≤ 7) (hn9 : n ≤ 9) (hq : q ≤ 8) (hN : S[10]? = some (nt (nI pl) (nI n) du lw fr (nI q))) {kk : Nat} (hk : kk < 4) {w i n9 v : Int32} (hw : 0 ≤ w.toInt ∧ w.toInt ≤ 2) (hv : 0 ≤ v.toInt ∧ v.toInt ≤ 1) (hp : pl = 0) (k : Q (some (.long (-9223372036854775808))) (S.set 0 (co 0))) : Mth mX11_safe (d + 5) 0 [.ref 0, .int (nI kk), .int w, .int i, .int n9, .int v] S Q := by
  refine Mth_of (by decide) rfl ?_
  refine Ev_aload_n dX11_safe_0 rfl ?_
  refine Ev_iload_n dX11_safe_1 rfl ?_
  refine Ev_iload_n dX11_safe_2 rfl ?_
  refine Ev_iload_n dX11_safe_3 rfl ?_
  refine Ev_iload dX11_safe_4 rfl ?_
  refine Ev_iload dX11_safe_6 rfl ?_
  refine Ev_iconst (v := 0) dX11_safe_8 (by decide) ?_
  refine Ev_iconst (v := 1) dX11_safe_9 (by decide) ?_
  refine Ev_callS (bc := 0) (b := 0) dX11_safe_10 cs_X11_72 rfl (Nat.le_of_ble_eq_true rfl) (by omega) ?_
  refine c_X11_isWithin (fun _ => ?_) (fun q => absurd q (not_not_intro hv))
  refine Ev_callV (bc := 0) (b := 0) dX11_safe_13 cv_X11_151 rfl hO (Nat.le_of_ble_eq_true rfl) (by omega) ?_
  refine c_X11_followTold_none hO hA1 hfa hp7 hn9 hq hN hk hw hp ?_
  refine Ev_istore dX11_safe_16 rfl ?_
  refine Ev_iload dX11_safe_18 rfl ?_
  refine Ev_if_eq dX11_safe_20 (fun c => absurd c (by decide)) (fun _ => ?_)
  refine Ev_ldc2 dX11_safe_23 wl_X11_165 ?_
  refine Ev_lret dX11_safe_26 rfl ?_
  exact k

set_option maxHeartbeats 4000000 in
set_option maxRecDepth 100000 in
theorem c_X11_safe_cast {d : Nat} {S : aS} {Q : Option Value → aS → Prop} {lf : Int32} (hO : S[0]? = some (co lf)) {fa : Nat → Option Nat} (hA1 : S[1]? = some (rA 3 4 fa)) (hfa : ∀ k, k < 4 → fa k = some (2 + 2 * k)) {pl n q : Nat} {du lw fr : Int32} (hp7 : pl ≤ 7) (hn9 : n ≤ 9) (hq : q ≤ 8) (hN : S[10]? = some (nt (nI pl) (nI n) du lw fr (nI q))) {kk : Nat} (hk : kk < 4) {ln len : Int32} {f : Nat → Int32} (hS : S[2 + 2 * kk]? = some (.inr (5, [.ref (3 + 2 * kk), .int ln, .int len]))) (hc : S[3 + 2 * kk]? = some (iA 60 f)) {w i n9 v : Int32} (hw : 0 ≤ w.toInt ∧ w.toInt ≤ 2) (hv : 0 ≤ v.toInt ∧ v.toInt ≤ 1) (hp : ¬ pl = 0) (hn : ¬ ln = -1) (heq : ¬ ln = w) (k : Q (some (.long (-9223372036854775808))) (S.set 0 (co 2))) : Mth mX11_safe (d + 5) 0 [.ref 0, .int (nI kk), .int w, .int i, .int n9, .int v] S Q := by
  refine Mth_of (by decide) rfl ?_
  refine Ev_aload_n dX11_safe_0 rfl ?_
  refine Ev_iload_n dX11_safe_1 rfl ?_
  refine Ev_iload_n dX11_safe_2 rfl ?_
  refine Ev_iload_n dX11_safe_3 rfl ?_
  refine Ev_iload dX11_safe_4 rfl ?_
  refine Ev_iload dX11_safe_6 rfl ?_
  refine Ev_iconst (v := 0) dX11_safe_8 (by decide) ?_
  refine Ev_iconst (v := 1) dX11_safe_9 (by decide) ?_
  refine Ev_callS (bc := 0) (b := 0) dX11_safe_10 cs_X11_72 rfl (Nat.le_of_ble_eq_true rfl) (by omega) ?_
  refine c_X11_isWithin (fun _ => ?_) (fun q => absurd q (not_not_intro hv))
  refine Ev_callV (bc := 0) (b := 0) dX11_safe_13 cv_X11_151 rfl hO (Nat.le_of_ble_eq_true rfl) (by omega) ?_
  refine c_X11_followTold_cast hO hA1 hfa hp7 hn9 hq hN hk hS hc hw hp hn heq ?_
  refine Ev_istore dX11_safe_16 rfl ?_
  refine Ev_iload dX11_safe_18 rfl ?_
  refine Ev_if_eq dX11_safe_20 (fun c => absurd c (by decide)) (fun _ => ?_)
  refine Ev_ldc2 dX11_safe_23 wl_X11_165 ?_
  refine Ev_lret dX11_safe_26 rfl ?_
  exact k

set_option maxHeartbeats 4000000 in
set_option maxRecDepth 100000 in
theorem c_X11_safe_n {d : Nat} {S : aS} {Q : Option Value → aS → Prop} {lf : Int32} (hO : S[0]? = some (co lf)) {fa : Nat → Option Nat} (hA1 : S[1]? = some (rA 3 4 fa)) (hfa : ∀ k, k < 4 → fa k = some (2 + 2 * k)) {pl n q : Nat} {du lw fr : Int32} (hp7 : pl ≤ 7) (hn9 : n ≤ 9) (hq : q ≤ 8) (hN : S[10]? = some (nt (nI pl) (nI n) du lw fr (nI q))) {kk : Nat} (hk : kk < 4) {ln len : Int32} {f : Nat → Int32} (hS : S[2 + 2 * kk]? = some (.inr (5, [.ref (3 + 2 * kk), .int ln, .int len]))) (hc : S[3 + 2 * kk]? = some (iA 60 f)) {w i n9 v : Int32} (hw : 0 ≤ w.toInt ∧ w.toInt ≤ 2) (hv : 0 ≤ v.toInt ∧ v.toInt ≤ 1) (hp : ¬ pl = 0) (hn : ln = -1) (k : Q (some (.long (-9223372036854775808))) (S.set 0 (co 1))) : Mth mX11_safe (d + 5) 0 [.ref 0, .int (nI kk), .int w, .int i, .int n9, .int v] S Q := by
  refine Mth_of (by decide) rfl ?_
  refine Ev_aload_n dX11_safe_0 rfl ?_
  refine Ev_iload_n dX11_safe_1 rfl ?_
  refine Ev_iload_n dX11_safe_2 rfl ?_
  refine Ev_iload_n dX11_safe_3 rfl ?_
  refine Ev_iload dX11_safe_4 rfl ?_
  refine Ev_iload dX11_safe_6 rfl ?_
  refine Ev_iconst (v := 0) dX11_safe_8 (by decide) ?_
  refine Ev_iconst (v := 1) dX11_safe_9 (by decide) ?_
  refine Ev_callS (bc := 0) (b := 0) dX11_safe_10 cs_X11_72 rfl (Nat.le_of_ble_eq_true rfl) (by omega) ?_
  refine c_X11_isWithin (fun _ => ?_) (fun q => absurd q (not_not_intro hv))
  refine Ev_callV (bc := 0) (b := 0) dX11_safe_13 cv_X11_151 rfl hO (Nat.le_of_ble_eq_true rfl) (by omega) ?_
  refine c_X11_followTold_n hO hA1 hfa hp7 hn9 hq hN hk hS hc hw hp hn ?_
  refine Ev_istore dX11_safe_16 rfl ?_
  refine Ev_iload dX11_safe_18 rfl ?_
  refine Ev_if_eq dX11_safe_20 (fun c => absurd c (by decide)) (fun _ => ?_)
  refine Ev_ldc2 dX11_safe_23 wl_X11_165 ?_
  refine Ev_lret dX11_safe_26 rfl ?_
  exact k

set_option maxHeartbeats 4000000 in
set_option maxRecDepth 100000 in
theorem c_X11_safe_size {d : Nat} {S : aS} {Q : Option Value → aS → Prop} {lf : Int32} (hO : S[0]? = some (co lf)) {fa : Nat → Option Nat} (hA1 : S[1]? = some (rA 3 4 fa)) (hfa : ∀ k, k < 4 → fa k = some (2 + 2 * k)) {pl n q : Nat} {du lw fr : Int32} (hp7 : pl ≤ 7) (hn9 : n ≤ 9) (hq : q ≤ 8) (hN : S[10]? = some (nt (nI pl) (nI n) du lw fr (nI q))) {kk : Nat} (hk : kk < 4) {ln len : Int32} {f : Nat → Int32} (hS : S[2 + 2 * kk]? = some (.inr (5, [.ref (3 + 2 * kk), .int ln, .int len]))) (hc : S[3 + 2 * kk]? = some (iA 60 f)) {w i n9 v : Int32} (hw : 0 ≤ w.toInt ∧ w.toInt ≤ 2) (hv : 0 ≤ v.toInt ∧ v.toInt ≤ 1) (hp : ¬ pl = 0) (hn : ¬ ln = -1) (heq : ln = w) (hs4 : n9.toInt < 0) (k : Q (some (.long (-9223372036854775808))) (S.set 0 (co 4))) : Mth mX11_safe (d + 5) 0 [.ref 0, .int (nI kk), .int w, .int i, .int n9, .int v] S Q := by
  refine Mth_of (by decide) rfl ?_
  refine Ev_aload_n dX11_safe_0 rfl ?_
  refine Ev_iload_n dX11_safe_1 rfl ?_
  refine Ev_iload_n dX11_safe_2 rfl ?_
  refine Ev_iload_n dX11_safe_3 rfl ?_
  refine Ev_iload dX11_safe_4 rfl ?_
  refine Ev_iload dX11_safe_6 rfl ?_
  refine Ev_iconst (v := 0) dX11_safe_8 (by decide) ?_
  refine Ev_iconst (v := 1) dX11_safe_9 (by decide) ?_
  refine Ev_callS (bc := 0) (b := 0) dX11_safe_10 cs_X11_72 rfl (Nat.le_of_ble_eq_true rfl) (by omega) ?_
  refine c_X11_isWithin (fun _ => ?_) (fun q => absurd q (not_not_intro hv))
  refine Ev_callV (bc := 0) (b := 0) dX11_safe_13 cv_X11_151 rfl hO (Nat.le_of_ble_eq_true rfl) (by omega) ?_
  refine c_X11_followTold_size hO hA1 hfa hp7 hn9 hq hN hk hS hc hw hp hn heq hs4 ?_
  refine Ev_istore dX11_safe_16 rfl ?_
  refine Ev_iload dX11_safe_18 rfl ?_
  refine Ev_if_eq dX11_safe_20 (fun c => absurd c (by decide)) (fun _ => ?_)
  refine Ev_ldc2 dX11_safe_23 wl_X11_165 ?_
  refine Ev_lret dX11_safe_26 rfl ?_
  exact k

set_option maxHeartbeats 4000000 in
set_option maxRecDepth 100000 in
theorem c_X11_safe_ix {d : Nat} {S : aS} {Q : Option Value → aS → Prop} {lf : Int32} (hO : S[0]? = some (co lf)) {fa : Nat → Option Nat} (hA1 : S[1]? = some (rA 3 4 fa)) (hfa : ∀ k, k < 4 → fa k = some (2 + 2 * k)) {pl n q : Nat} {du lw fr : Int32} (hp7 : pl ≤ 7) (hn9 : n ≤ 9) (hq : q ≤ 8) (hN : S[10]? = some (nt (nI pl) (nI n) du lw fr (nI q))) {kk : Nat} (hk : kk < 4) {ln len : Int32} {f : Nat → Int32} (hS : S[2 + 2 * kk]? = some (.inr (5, [.ref (3 + 2 * kk), .int ln, .int len]))) (hc : S[3 + 2 * kk]? = some (iA 60 f)) {w i n9 v : Int32} (hw : 0 ≤ w.toInt ∧ w.toInt ≤ 2) (hv : 0 ≤ v.toInt ∧ v.toInt ≤ 1) (hp : ¬ pl = 0) (hl : 0 ≤ len.toInt ∧ len.toInt ≤ 60) (hn : ¬ ln = -1) (heq : ln = w) (hs4 : 0 ≤ n9.toInt) (hi : ¬ (0 ≤ i.toInt ∧ i.toInt + n9.toInt ≤ len.toInt)) (k : Q (some (.long (-9223372036854775808))) (S.set 0 (co 3))) : Mth mX11_safe (d + 5) 0 [.ref 0, .int (nI kk), .int w, .int i, .int n9, .int v] S Q := by
  refine Mth_of (by decide) rfl ?_
  refine Ev_aload_n dX11_safe_0 rfl ?_
  refine Ev_iload_n dX11_safe_1 rfl ?_
  refine Ev_iload_n dX11_safe_2 rfl ?_
  refine Ev_iload_n dX11_safe_3 rfl ?_
  refine Ev_iload dX11_safe_4 rfl ?_
  refine Ev_iload dX11_safe_6 rfl ?_
  refine Ev_iconst (v := 0) dX11_safe_8 (by decide) ?_
  refine Ev_iconst (v := 1) dX11_safe_9 (by decide) ?_
  refine Ev_callS (bc := 0) (b := 0) dX11_safe_10 cs_X11_72 rfl (Nat.le_of_ble_eq_true rfl) (by omega) ?_
  refine c_X11_isWithin (fun _ => ?_) (fun q => absurd q (not_not_intro hv))
  refine Ev_callV (bc := 0) (b := 0) dX11_safe_13 cv_X11_151 rfl hO (Nat.le_of_ble_eq_true rfl) (by omega) ?_
  refine c_X11_followTold_ix hO hA1 hfa hp7 hn9 hq hN hk hS hc hw hp hl hn heq hs4 hi ?_
  refine Ev_istore dX11_safe_16 rfl ?_
  refine Ev_iload dX11_safe_18 rfl ?_
  refine Ev_if_eq dX11_safe_20 (fun c => absurd c (by decide)) (fun _ => ?_)
  refine Ev_ldc2 dX11_safe_23 wl_X11_165 ?_
  refine Ev_lret dX11_safe_26 rfl ?_
  exact k

set_option maxHeartbeats 4000000 in
set_option maxRecDepth 100000 in
theorem c_X11_safe_big {d : Nat} {S : aS} {Q : Option Value → aS → Prop} {lf : Int32} (hO : S[0]? = some (co lf)) {fa : Nat → Option Nat} (hA1 : S[1]? = some (rA 3 4 fa)) (hfa : ∀ k, k < 4 → fa k = some (2 + 2 * k)) {pl n q : Nat} {du lw fr : Int32} (hp7 : pl ≤ 7) (hn9 : n ≤ 9) (hq : q ≤ 8) (hN : S[10]? = some (nt (nI pl) (nI n) du lw fr (nI q))) {kk : Nat} (hk : kk < 4) {ln len : Int32} {f : Nat → Int32} (hS : S[2 + 2 * kk]? = some (.inr (5, [.ref (3 + 2 * kk), .int ln, .int len]))) (hc : S[3 + 2 * kk]? = some (iA 60 f)) {w v : Int32} (hw : 0 ≤ w.toInt ∧ w.toInt ≤ 2) (hv : 0 ≤ v.toInt ∧ v.toInt ≤ 1) (hp : ¬ pl = 0) (hl : 0 ≤ len.toInt ∧ len.toInt ≤ 60) {ii m : Nat} (hiz : (ii : Int) + m ≤ len.toInt) (hn : ¬ ln = -1) (heq : ln = w) (hm : 12 < m) (k : Q (some (.long (-9223372036854775808))) (S.set 0 (co 0))) : Mth mX11_safe (d + 5) 0 [.ref 0, .int (nI kk), .int w, .int (nI ii), .int (nI m), .int v] S Q := by
  refine Mth_of (by decide) rfl ?_
  refine Ev_aload_n dX11_safe_0 rfl ?_
  refine Ev_iload_n dX11_safe_1 rfl ?_
  refine Ev_iload_n dX11_safe_2 rfl ?_
  refine Ev_iload_n dX11_safe_3 rfl ?_
  refine Ev_iload dX11_safe_4 rfl ?_
  refine Ev_iload dX11_safe_6 rfl ?_
  refine Ev_iconst (v := 0) dX11_safe_8 (by decide) ?_
  refine Ev_iconst (v := 1) dX11_safe_9 (by decide) ?_
  refine Ev_callS (bc := 0) (b := 0) dX11_safe_10 cs_X11_72 rfl (Nat.le_of_ble_eq_true rfl) (by omega) ?_
  refine c_X11_isWithin (fun _ => ?_) (fun q => absurd q (not_not_intro hv))
  refine Ev_callV (bc := 0) (b := 0) dX11_safe_13 cv_X11_151 rfl hO (Nat.le_of_ble_eq_true rfl) (by omega) ?_
  refine c_X11_followTold_big hO hA1 hfa hp7 hn9 hq hN hk hS hc hw hp hl hiz hn heq hm ?_
  refine Ev_istore dX11_safe_16 rfl ?_
  refine Ev_iload dX11_safe_18 rfl ?_
  refine Ev_if_eq dX11_safe_20 (fun c => absurd c (by decide)) (fun _ => ?_)
  refine Ev_ldc2 dX11_safe_23 wl_X11_165 ?_
  refine Ev_lret dX11_safe_26 rfl ?_
  exact k

set_option maxHeartbeats 4000000 in
set_option maxRecDepth 100000 in
theorem c_X11_safe_o {d : Nat} {S : aS} {Q : Option Value → aS → Prop} {lf : Int32} (hO : S[0]? = some (co lf)) {fa : Nat → Option Nat} (hA1 : S[1]? = some (rA 3 4 fa)) (hfa : ∀ k, k < 4 → fa k = some (2 + 2 * k)) {pl n q : Nat} {du lw fr : Int32} (hp7 : pl ≤ 7) (hn9 : n ≤ 9) (hq : q ≤ 8) (hN : S[10]? = some (nt (nI pl) (nI n) du lw fr (nI q))) {cs : Nat} {G : Nat → Nat → Nat} (hg : GD pl n G) {sa : Nat → Option Nat} {ad : Nat → Nat} (hA : S[11]? = some (rA 4 9 sa)) (hsa : ∀ j, j < n → sa j = some (ad j)) {fz : Int} (hC : CN S n G cs fz ad) {kk : Nat} (hk : kk < 4) {ln len : Int32} {f : Nat → Int32} (hS : S[2 + 2 * kk]? = some (.inr (5, [.ref (3 + 2 * kk), .int ln, .int len]))) (hc : S[3 + 2 * kk]? = some (iA 60 f)) {w : Int32} (hl : 0 ≤ len.toInt ∧ len.toInt ≤ 60) {ii m : Nat} (hiz : (ii : Int) + m ≤ len.toInt) (hn : ¬ ln = -1) (heq : ln = w) {x1 x2 x3 x4 x5 : Int32} {x6 : Int64} (hW : S[14]? = some (wkc x1 x2 x3 x4 x5 x6)) {v : Int32} (hv : 0 ≤ v.toInt ∧ v.toInt ≤ 1) (hw : 0 ≤ w.toInt ∧ w.toInt ≤ 2) (hp : ¬ pl = 0) (hlw : 0 ≤ lw.toInt ∧ lw.toInt ≤ 2) (hdu : 0 ≤ du.toInt ∧ du.toInt ≤ 99) (hm : m ≤ 12) (ku : ∀ x, x < m → ¬ inR n (f (ii + x)) → Q (some (.long (-9223372036854775808))) (S.set 0 (co 0))) (kf : ∀ x p c, x < m → (∀ y, y < m → inR n (f (ii + y))) → paN G cs (rc (fun y => f (ii + y))) x = some p → gt G cs ((rc (fun y => f (ii + y))) x) p = none → Q (some (.long (-9223372036854775808))) ((S.set 0 (co 0)).set 14 (WKC G n fz (rc (fun y => f (ii + y))) p c))) (ks : ∀ p, (∀ y, y < m → inR n (f (ii + y))) → paN G cs (rc (fun y => f (ii + y))) m = some p → Q (some (.long (lN ((if v = 0 then prodN (fun x => tn G fz ((rc (fun y => f (ii + y))) x)) m else 10 ^ m) / Nat.gcd (prodN (fun x => tn G fz ((rc (fun y => f (ii + y))) x)) m) (10 ^ m))))) ((S.set 0 (co 0)).set 14 (WKC G n fz (rc (fun y => f (ii + y))) p m)))  : Mth mX11_safe (d + 5) 0 [.ref 0, .int (nI kk), .int w, .int (nI ii), .int (nI m), .int v] S Q := by
  refine Mth_of (by decide) rfl ?_
  refine Ev_aload_n dX11_safe_0 rfl ?_
  refine Ev_iload_n dX11_safe_1 rfl ?_
  refine Ev_iload_n dX11_safe_2 rfl ?_
  refine Ev_iload_n dX11_safe_3 rfl ?_
  refine Ev_iload dX11_safe_4 rfl ?_
  refine Ev_iload dX11_safe_6 rfl ?_
  refine Ev_iconst (v := 0) dX11_safe_8 (by decide) ?_
  refine Ev_iconst (v := 1) dX11_safe_9 (by decide) ?_
  refine Ev_callS (bc := 0) (b := 0) dX11_safe_10 cs_X11_72 rfl (Nat.le_of_ble_eq_true rfl) (by omega) ?_
  refine c_X11_isWithin (fun _ => ?_) (fun q => absurd q (not_not_intro hv))
  refine Ev_callV (bc := 0) (b := 0) dX11_safe_13 cv_X11_151 rfl hO (Nat.le_of_ble_eq_true rfl) (by omega) ?_
  refine c_X11_followTold_o hO hA1 hfa hp7 hn9 hq hN hg hA hsa hC hk hS hc hl hiz hn heq hW hw hp hm (fun x hx hxn => ?_) (fun x p c hx hin h1 h2 => ?_) (fun p hin h1 => ?_)
  · skip
    refine Ev_istore dX11_safe_16 rfl ?_
    refine Ev_iload dX11_safe_18 rfl ?_
    refine Ev_if_eq dX11_safe_20 (fun c => absurd c (by decide)) (fun _ => ?_)
    refine Ev_ldc2 dX11_safe_23 wl_X11_165 ?_
    refine Ev_lret dX11_safe_26 rfl ?_
    exact ku x hx hxn
  · skip
    refine Ev_istore dX11_safe_16 rfl ?_
    refine Ev_iload dX11_safe_18 rfl ?_
    refine Ev_if_eq dX11_safe_20 (fun c => absurd c (fun z => m100n (x := x) (by omega) (by rw [z]; decide))) (fun _ => ?_)
    refine Ev_ldc2 dX11_safe_23 wl_X11_165 ?_
    refine Ev_lret dX11_safe_26 rfl ?_
    exact kf x p c hx hin h1 h2
  · skip
    refine Ev_istore dX11_safe_16 rfl ?_
    refine Ev_iload dX11_safe_18 rfl ?_
    refine Ev_if_eq dX11_safe_20 (fun _ => ?_) (fun c => absurd (by decide) c)
    refine Ev_aload_n dX11_safe_27 rfl ?_
    refine Ev_get dX11_safe_28 fg_X11_28_11 (gn (by decide) (gs hO)) rfl ?_
    refine Ev_get dX11_safe_31 fg_X11_167_10 (gs (gn (by decide) hW)) rfl ?_
    refine Ev_ldc2 dX11_safe_34 wl_X11_171 ?_
    refine Ev_aload_n dX11_safe_37 rfl ?_
    refine Ev_get dX11_safe_38 fg_X11_28_11 (gn (by decide) (gs hO)) rfl ?_
    refine Ev_get dX11_safe_41 fg_X11_173_10 (gs (gn (by decide) hW)) rfl ?_
    refine Ev_callS (bc := 0) (b := 0) dX11_safe_44 cs_X11_176 rfl (Nat.le_of_ble_eq_true rfl) (by omega) ?_
    refine c_X11_powerOf (c := 10) hm ?_
    refine Ev_iload dX11_safe_47 rfl ?_
    refine Ev_callS (bc := 0) (b := 0) dX11_safe_49 cs_X11_180 rfl (Nat.le_of_ble_eq_true rfl) (by omega) ?_
    have hpr : prodN (fun x => tn G fz ((rc (fun y => f (ii + y))) x)) m ≤ 10 ^ m := prodN_le m (fun j _ => tn_le _ _)
    have hten : 10 ^ m ≤ 10 ^ 12 := Nat.pow_le_pow_right (by decide) hm
    refine c_X11_least (Nat.lt_of_le_of_lt (Nat.le_trans hpr hten) (by decide)) (Nat.pow_pos (by decide)) (Nat.le_trans hten (by decide)) ?_
    refine Ev_lret dX11_safe_52 rfl ?_
    exact ks p hin h1

