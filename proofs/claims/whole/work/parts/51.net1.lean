/-! ===== a net's text ===== -/
/-- the code at p, of m codes -/
def cd (c : Nat → Int32) (m p : Nat) : Int32 := if p < m then c p else -9
theorem cd_in {c : Nat → Int32} {m p : Nat} (h : p < m) : cd c m p = c p := if_pos h
theorem cd_out {c : Nat → Int32} {m p : Nat} (h : ¬ p < m) : cd c m p = -9 := if_neg h
/-- the text goes on at p -/
def okc (c : Nat → Int32) (m p : Nat) : Prop :=
  if p = 0 then cd c m p = 110
  else if p = 1 then 50 ≤ (cd c m p).toInt ∧ (cd c m p).toInt ≤ 55
  else if (p - 2) % 7 = 0 then cd c m p = 59
  else if (p - 2) % 7 = 1 then cd c m p = 115 ∨ cd c m p = 109 ∨ cd c m p = 112
  else if (p - 2) % 7 = 2 then 48 ≤ (cd c m p).toInt ∧ (cd c m p).toInt ≤ (cd c m 1).toInt - 1
  else if (p - 2) % 7 = 3 then (48 ≤ (cd c m p).toInt ∧ (cd c m p).toInt ≤ (cd c m 1).toInt - 1) ∧ ¬ cd c m p = cd c m (p - 1)
  else if (p - 2) % 7 = 4 then 49 ≤ (cd c m p).toInt ∧ (cd c m p).toInt ≤ 57
  else 48 ≤ (cd c m p).toInt ∧ (cd c m p).toInt ≤ 57
theorem okc_a {c : Nat → Int32} {m : Nat} : okc c m 0 ↔ cd c m 0 = 110 := by
  unfold okc
  rw [if_pos rfl]
theorem okc_b {c : Nat → Int32} {m : Nat} : okc c m 1 ↔ 50 ≤ (cd c m 1).toInt ∧ (cd c m 1).toInt ≤ 55 := by
  unfold okc
  rw [if_neg (by decide), if_pos rfl]
theorem okc_0 {c : Nat → Int32} {m j : Nat} : okc c m (2 + 7 * j) ↔ cd c m (2 + 7 * j) = 59 := by
  unfold okc
  rw [if_neg (by omega), if_neg (by omega), if_pos (by omega)]
theorem okc_1 {c : Nat → Int32} {m j : Nat} : okc c m (2 + 7 * j + 1) ↔ cd c m (2 + 7 * j + 1) = 115 ∨ cd c m (2 + 7 * j + 1) = 109 ∨ cd c m (2 + 7 * j + 1) = 112 := by
  unfold okc
  rw [if_neg (by omega), if_neg (by omega), if_neg (by omega), if_pos (by omega)]
theorem okc_2 {c : Nat → Int32} {m j : Nat} : okc c m (2 + 7 * j + 2) ↔ 48 ≤ (cd c m (2 + 7 * j + 2)).toInt ∧ (cd c m (2 + 7 * j + 2)).toInt ≤ (cd c m 1).toInt - 1 := by
  unfold okc
  rw [if_neg (by omega), if_neg (by omega), if_neg (by omega), if_neg (by omega), if_pos (by omega)]
theorem okc_3 {c : Nat → Int32} {m j : Nat} : okc c m (2 + 7 * j + 3) ↔ (48 ≤ (cd c m (2 + 7 * j + 3)).toInt ∧ (cd c m (2 + 7 * j + 3)).toInt ≤ (cd c m 1).toInt - 1) ∧ ¬ cd c m (2 + 7 * j + 3) = cd c m (2 + 7 * j + 2) := by
  unfold okc
  rw [if_neg (by omega), if_neg (by omega), if_neg (by omega), if_neg (by omega), if_neg (by omega), if_pos (by omega), show 2 + 7 * j + 3 - 1 = 2 + 7 * j + 2 by omega]
theorem okc_4 {c : Nat → Int32} {m j : Nat} : okc c m (2 + 7 * j + 4) ↔ 49 ≤ (cd c m (2 + 7 * j + 4)).toInt ∧ (cd c m (2 + 7 * j + 4)).toInt ≤ 57 := by
  unfold okc
  rw [if_neg (by omega), if_neg (by omega), if_neg (by omega), if_neg (by omega), if_neg (by omega), if_neg (by omega), if_pos (by omega)]
theorem okc_5 {c : Nat → Int32} {m j : Nat} : okc c m (2 + 7 * j + 5) ↔ 48 ≤ (cd c m (2 + 7 * j + 5)).toInt ∧ (cd c m (2 + 7 * j + 5)).toInt ≤ 57 := by
  unfold okc
  rw [if_neg (by omega), if_neg (by omega), if_neg (by omega), if_neg (by omega), if_neg (by omega), if_neg (by omega), if_neg (by omega)]
theorem okc_6 {c : Nat → Int32} {m j : Nat} : okc c m (2 + 7 * j + 6) ↔ 48 ≤ (cd c m (2 + 7 * j + 6)).toInt ∧ (cd c m (2 + 7 * j + 6)).toInt ≤ 57 := by
  unfold okc
  rw [if_neg (by omega), if_neg (by omega), if_neg (by omega), if_neg (by omega), if_neg (by omega), if_neg (by omega), if_neg (by omega)]
theorem okc_lt {c : Nat → Int32} {m p : Nat} (h : okc c m p) : p < m := by
  refine Classical.byContradiction (fun hn => ?_)
  have h9 : cd c m p = -9 := cd_out hn
  have e9 := z32_m9
  unfold okc at h
  rw [h9] at h
  split at h
  · exact absurd h (by decide)
  · split at h
    · omega
    · split at h
      · exact absurd h (by decide)
      · split at h
        · rcases h with h | h | h <;> exact absurd h (by decide)
        · split at h
          · omega
          · split at h
            · have := h.1.1; omega
            · split at h <;> omega
def FFa (c : Nat → Int32) (m p : Nat) : Prop := (∀ y, y < p → okc c m y) ∧ ¬ okc c m p ∧ p ≤ m ∧ (p = m → ¬ (9 ≤ m ∧ (m - 2) % 7 = 0))
def WHa (c : Nat → Int32) (m : Nat) : Prop := (∀ y, y < m → okc c m y) ∧ 9 ≤ m ∧ (m - 2) % 7 = 0
theorem FFa_uni {c : Nat → Int32} {m p q : Nat} (h : FFa c m p) (h2 : FFa c m q) : p = q := by
  rcases Nat.lt_trichotomy p q with e | e | e
  · exact absurd (h2.1 p e) h.2.1
  · exact e
  · exact absurd (h.1 q e) h2.2.1
theorem FFa_WH {c : Nat → Int32} {m p : Nat} (h : FFa c m p) (h2 : WHa c m) : False := by
  by_cases e : p = m
  · exact h.2.2.2 e h2.2
  · exact h.2.1 (h2.1 p (by have := h.2.2.1; omega))
theorem dig {x : Int32} (h : 48 ≤ x.toInt ∧ x.toInt ≤ 57) : x - 48 = nI (x.toInt - 48).toNat := by
  have e := xsub (a := x) (b := 48) (x := x.toInt) (y := 48) rfl rfl (by omega)
  rw [xeq, e, nIt (by omega)]
  omega
/-- what a text says of its stretches -/
def tG (c : Nat → Int32) (m f j : Nat) : Nat := if f = 0 then (if cd c m (2 + 7 * j + 1) = 115 then 0 else if cd c m (2 + 7 * j + 1) = 109 then 1 else 2) else ((cd c m (2 + 7 * j + 1 + f)).toInt - 48).toNat
def tP (c : Nat → Int32) (m : Nat) : Nat := ((cd c m 1).toInt - 48).toNat
theorem tP_b {c : Nat → Int32} {m : Nat} (h : okc c m 1) : ((cd c m 1).toInt = 48 + tP c m) ∧ 2 ≤ tP c m ∧ tP c m ≤ 7 := by
  rw [okc_b] at h
  unfold tP
  omega
theorem tG_ok {c : Nat → Int32} {m n : Nat} (h : ∀ y, y < 2 + 7 * n → okc c m y) (hn : 1 ≤ n) (hn9 : n ≤ 9) : GD (tP c m) n (tG c m) := by
  have h1 := tP_b (h 1 (by omega))
  refine ⟨h1.2.2, hn9, fun j hj => ?_⟩
  have a2 := okc_2.mp (h (2 + 7 * j + 2) (by omega))
  have a3 := okc_3.mp (h (2 + 7 * j + 3) (by omega))
  have a4 := okc_4.mp (h (2 + 7 * j + 4) (by omega))
  have a5 := okc_5.mp (h (2 + 7 * j + 5) (by omega))
  have a6 := okc_6.mp (h (2 + 7 * j + 6) (by omega))
  have e1 : tG c m 1 j = ((cd c m (2 + 7 * j + 2)).toInt - 48).toNat := rfl
  have e2 : tG c m 2 j = ((cd c m (2 + 7 * j + 3)).toInt - 48).toNat := rfl
  have e3 : tG c m 3 j = ((cd c m (2 + 7 * j + 4)).toInt - 48).toNat := rfl
  have e4 : tG c m 4 j = ((cd c m (2 + 7 * j + 5)).toInt - 48).toNat := rfl
  have e5 : tG c m 5 j = ((cd c m (2 + 7 * j + 6)).toInt - 48).toNat := rfl
  have e0 : tG c m 0 j ≤ 2 := by
    show (if cd c m (2 + 7 * j + 1) = 115 then 0 else if cd c m (2 + 7 * j + 1) = 109 then 1 else 2) ≤ 2
    split
    · decide
    · split <;> decide
  have ne : ¬ (cd c m (2 + 7 * j + 3)).toInt = (cd c m (2 + 7 * j + 2)).toInt := fun z => a3.2 ((xeq _ _).mpr z)
  have a3 := a3.1
  rw [e1, e2, e3, e4, e5]
  have u2 := a2.1; have v2 := a2.2; have u3 := a3.1; have v3 := a3.2; have h11 := h1.1
  refine ⟨e0, ?_, ?_, ?_, ?_, ?_, ?_, ?_⟩
  · clear ne a4 a5 a6 u3 v3 a3; omega
  · clear ne a4 a5 a6 u2 v2 a2; omega
  · clear a4 a5 a6 v2 v3 a2 a3 h1 h11; omega
  · clear a2 a3 a5 a6 u2 v2 u3 v3 ne h1 h11; omega
  · clear a2 a3 a5 a6 u2 v2 u3 v3 ne h1 h11; omega
  · clear a2 a3 a4 a6 u2 v2 u3 v3 ne h1 h11; omega
  · clear a2 a3 a4 a5 u2 v2 u3 v3 ne h1 h11; omega

set_option maxHeartbeats 4000000 in
set_option maxRecDepth 100000 in
theorem c_X8_codeAt {d : Nat} {S : aS} {Q : Option Value → aS → Prop} {tx kk ii m : Nat} {ln len : Int32} {f : Nat → Int32} (hT : S[tx]? = some (.inr (8, [.ref (2 + 2 * kk), .int (nI ii), .int (nI m)]))) (hS : S[2 + 2 * kk]? = some (.inr (5, [.ref (3 + 2 * kk), .int ln, .int len]))) (hc : S[3 + 2 * kk]? = some (iA 60 f)) (hl : 0 ≤ len.toInt ∧ len.toInt ≤ 60) (hiz : (ii : Int) + m ≤ len.toInt) {p : Nat} (hp : p < 1000) (k : Q (some (.int (cd (fun y => f (ii + y)) m p))) S) : Mth mX8_codeAt (d + 2) 0 [.ref tx, .int (nI p)] S Q := by
  refine Mth_of (by decide) rfl ?_
  refine Ev_iload_n dX8_codeAt_0 rfl ?_
  refine Ev_if_lt dX8_codeAt_1 (fun c => absurd c (nI_pos (by omega))) (fun _ => ?_)
  refine Ev_iload_n dX8_codeAt_4 rfl ?_
  refine Ev_aload_n dX8_codeAt_5 rfl ?_
  refine Ev_get dX8_codeAt_6 fg_X8_19_8 hT rfl ?_
  refine Ev_icmp_ge dX8_codeAt_9 (fun c1 => ?_) (fun c1 => ?_)
  · skip
    have c1 : m ≤ p := (nle (a := m) (b := p) (by omega) (by omega)).mp c1
    refine Ev_bipush (v := (-9)) dX8_codeAt_28 (by decide) ?_
    refine Ev_iret dX8_codeAt_30 rfl rfl ?_
    rw [cd_out (by omega)] at k
    exact k
  · skip
    have c1 : ¬ (m ≤ p) := fun z => c1 ((nle (a := m) (b := p) (by omega) (by omega)).mpr z)
    refine Ev_aload_n dX8_codeAt_12 rfl ?_
    refine Ev_get dX8_codeAt_13 fg_X8_9_8 hT rfl ?_
    refine Ev_aload_n dX8_codeAt_16 rfl ?_
    refine Ev_get dX8_codeAt_17 fg_X8_15_8 hT rfl ?_
    refine Ev_iload_n dX8_codeAt_20 rfl ?_
    refine Ev_iadd dX8_codeAt_21 ?_
    refine Ev_topi (y := nI (ii + p)) (nI_add _ _) ?_
    refine Ev_callV (bc := 0) (b := 0) dX8_codeAt_22 cv_X8_55 rfl hS (Nat.le_of_ble_eq_true rfl) (by omega) ?_
    refine c_X5_read hS hc (ii := ii + p) (by omega) hl ?_
    refine Ev_goto dX8_codeAt_25 ?_
    refine Ev_iret dX8_codeAt_30 rfl rfl ?_
    rw [cd_in (by omega)] at k
    exact k

set_option maxHeartbeats 4000000 in
set_option maxRecDepth 100000 in
theorem c_X8_places {d : Nat} {S : aS} {Q : Option Value → aS → Prop} {tx kk ii m : Nat} {ln len : Int32} {f : Nat → Int32} (hT : S[tx]? = some (.inr (8, [.ref (2 + 2 * kk), .int (nI ii), .int (nI m)]))) (hS : S[2 + 2 * kk]? = some (.inr (5, [.ref (3 + 2 * kk), .int ln, .int len]))) (hc : S[3 + 2 * kk]? = some (iA 60 f)) (hl : 0 ≤ len.toInt ∧ len.toInt ≤ 60) (hiz : (ii : Int) + m ≤ len.toInt) (h1 : okc (fun y => f (ii + y)) m 1) (k : Q (some (.int (nI (tP (fun y => f (ii + y)) m)))) S) : Mth mX8_places (d + 3) 0 [.ref tx] S Q := by
  have hb1 := okc_b.mp h1
  refine Mth_of (by decide) rfl ?_
  refine Ev_aload_n dX8_places_0 rfl ?_
  refine Ev_iconst (v := 1) dX8_places_1 (by decide) ?_
  refine Ev_callV (bc := 0) (b := 0) dX8_places_2 cv_X8_26 rfl hT (Nat.le_of_ble_eq_true rfl) (by omega) ?_
  refine c_X8_codeAt hT hS hc hl hiz (p := 1) (by omega) ?_
  refine Ev_bipush (v := 48) dX8_places_5 (by decide) ?_
  refine Ev_isub dX8_places_7 ?_
  refine Ev_topi (y := nI (tP (fun y => f (ii + y)) m)) (dig (by omega)) ?_
  refine Ev_iret dX8_places_8 rfl rfl ?_
  exact k

set_option maxHeartbeats 4000000 in
set_option maxRecDepth 100000 in
theorem c_X8_digitAt {d : Nat} {S : aS} {Q : Option Value → aS → Prop} {tx kk ii m : Nat} {ln len : Int32} {f : Nat → Int32} (hT : S[tx]? = some (.inr (8, [.ref (2 + 2 * kk), .int (nI ii), .int (nI m)]))) (hS : S[2 + 2 * kk]? = some (.inr (5, [.ref (3 + 2 * kk), .int ln, .int len]))) (hc : S[3 + 2 * kk]? = some (iA 60 f)) (hl : 0 ≤ len.toInt ∧ len.toInt ≤ 60) (hiz : (ii : Int) + m ≤ len.toInt) {p : Nat} (hp : p < 1000) (hd : 48 ≤ (cd (fun y => f (ii + y)) m p).toInt ∧ (cd (fun y => f (ii + y)) m p).toInt ≤ 57) (k : Q (some (.int (nI (((cd (fun y => f (ii + y)) m p).toInt - 48).toNat)))) S) : Mth mX8_digitAt (d + 3) 0 [.ref tx, .int (nI p)] S Q := by
  refine Mth_of (by decide) rfl ?_
  refine Ev_aload_n dX8_digitAt_0 rfl ?_
  refine Ev_iload_n dX8_digitAt_1 rfl ?_
  refine Ev_callV (bc := 0) (b := 0) dX8_digitAt_2 cv_X8_26 rfl hT (Nat.le_of_ble_eq_true rfl) (by omega) ?_
  refine c_X8_codeAt hT hS hc hl hiz (p := p) (by omega) ?_
  refine Ev_bipush (v := 48) dX8_digitAt_5 (by decide) ?_
  refine Ev_isub dX8_digitAt_7 ?_
  refine Ev_topi (y := nI (((cd (fun y => f (ii + y)) m p).toInt - 48).toNat)) (dig hd) ?_
  refine Ev_iret dX8_digitAt_8 rfl rfl ?_
  exact k

set_option maxHeartbeats 4000000 in
set_option maxRecDepth 100000 in
theorem c_X8_isDigitAt {d : Nat} {S : aS} {Q : Option Value → aS → Prop} {tx kk ii m : Nat} {ln len : Int32} {f : Nat → Int32} (hT : S[tx]? = some (.inr (8, [.ref (2 + 2 * kk), .int (nI ii), .int (nI m)]))) (hS : S[2 + 2 * kk]? = some (.inr (5, [.ref (3 + 2 * kk), .int ln, .int len]))) (hc : S[3 + 2 * kk]? = some (iA 60 f)) (hl : 0 ≤ len.toInt ∧ len.toInt ≤ 60) (hiz : (ii : Int) + m ≤ len.toInt) {p lo hi : Nat} (hp : p < 1000) (hlo : lo ≤ 9) (hhi : hi ≤ 9) (kt : 48 + lo ≤ (cd (fun y => f (ii + y)) m p).toInt ∧ (cd (fun y => f (ii + y)) m p).toInt ≤ 48 + hi → Q (some (.int 1)) S) (kf : ¬ (48 + lo ≤ (cd (fun y => f (ii + y)) m p).toInt ∧ (cd (fun y => f (ii + y)) m p).toInt ≤ 48 + hi) → Q (some (.int 0)) S) : Mth mX8_isDigitAt (d + 3) 0 [.ref tx, .int (nI p), .int (nI lo), .int (nI hi)] S Q := by
  refine Mth_of (by decide) rfl ?_
  refine Ev_aload_n dX8_isDigitAt_0 rfl ?_
  refine Ev_iload_n dX8_isDigitAt_1 rfl ?_
  refine Ev_callV (bc := 0) (b := 0) dX8_isDigitAt_2 cv_X8_26 rfl hT (Nat.le_of_ble_eq_true rfl) (by omega) ?_
  refine c_X8_codeAt hT hS hc hl hiz (p := p) (by omega) ?_
  refine Ev_bipush (v := 48) dX8_isDigitAt_5 (by decide) ?_
  refine Ev_iload_n dX8_isDigitAt_7 rfl ?_
  refine Ev_iadd dX8_isDigitAt_8 ?_
  refine Ev_topi (y := nI (48 + lo)) (nI_add _ _) ?_
  refine Ev_bipush (v := 48) dX8_isDigitAt_9 (by decide) ?_
  refine Ev_iload_n dX8_isDigitAt_11 rfl ?_
  refine Ev_iadd dX8_isDigitAt_12 ?_
  refine Ev_topi (y := nI (48 + hi)) (nI_add _ _) ?_
  refine Ev_callS (bc := 0) (b := 0) dX8_isDigitAt_13 cs_X8_60 rfl (Nat.le_of_ble_eq_true rfl) (by omega) ?_
  refine c_X11_isWithin (fun z => ?_) (fun z => ?_)
  · skip
    rw [nIt (by omega), nIt (by omega)] at z
    refine Ev_iret dX8_isDigitAt_16 rfl (by decide) ?_
    exact kt (by omega)
  · skip
    rw [nIt (by omega), nIt (by omega)] at z
    refine Ev_iret dX8_isDigitAt_16 rfl (by decide) ?_
    exact kf (by omega)

set_option maxHeartbeats 4000000 in
set_option maxRecDepth 100000 in
theorem c_X8_isKindAt {d : Nat} {S : aS} {Q : Option Value → aS → Prop} {tx kk ii m : Nat} {ln len : Int32} {f : Nat → Int32} (hT : S[tx]? = some (.inr (8, [.ref (2 + 2 * kk), .int (nI ii), .int (nI m)]))) (hS : S[2 + 2 * kk]? = some (.inr (5, [.ref (3 + 2 * kk), .int ln, .int len]))) (hc : S[3 + 2 * kk]? = some (iA 60 f)) (hl : 0 ≤ len.toInt ∧ len.toInt ≤ 60) (hiz : (ii : Int) + m ≤ len.toInt) {p : Nat} (hp : p < 1000) (kt : cd (fun y => f (ii + y)) m p = 115 ∨ cd (fun y => f (ii + y)) m p = 109 ∨ cd (fun y => f (ii + y)) m p = 112 → Q (some (.int 1)) S) (kf : ¬ (cd (fun y => f (ii + y)) m p = 115 ∨ cd (fun y => f (ii + y)) m p = 109 ∨ cd (fun y => f (ii + y)) m p = 112) → Q (some (.int 0)) S) : Mth mX8_isKindAt (d + 3) 0 [.ref tx, .int (nI p)] S Q := by
  refine Mth_of (by decide) rfl ?_
  refine Ev_aload_n dX8_isKindAt_0 rfl ?_
  refine Ev_iload_n dX8_isKindAt_1 rfl ?_
  refine Ev_callV (bc := 0) (b := 0) dX8_isKindAt_2 cv_X8_26 rfl hT (Nat.le_of_ble_eq_true rfl) (by omega) ?_
  refine c_X8_codeAt hT hS hc hl hiz (p := p) (by omega) ?_
  refine Ev_istore_n dX8_isKindAt_5 rfl ?_
  refine Ev_iload_n dX8_isKindAt_6 rfl ?_
  refine Ev_bipush (v := 115) dX8_isKindAt_7 (by decide) ?_
  refine Ev_icmp_eq dX8_isKindAt_9 (fun c1 => ?_) (fun c1 => ?_)
  · skip
    refine Ev_iconst (v := 1) dX8_isKindAt_24 (by decide) ?_
    refine Ev_goto dX8_isKindAt_25 ?_
    refine Ev_iret dX8_isKindAt_29 rfl (by decide) ?_
    exact kt (Or.inl c1)
  · skip
    refine Ev_iload_n dX8_isKindAt_12 rfl ?_
    refine Ev_bipush (v := 109) dX8_isKindAt_13 (by decide) ?_
    refine Ev_icmp_eq dX8_isKindAt_15 (fun c2 => ?_) (fun c2 => ?_)
    · skip
      refine Ev_iconst (v := 1) dX8_isKindAt_24 (by decide) ?_
      refine Ev_goto dX8_isKindAt_25 ?_
      refine Ev_iret dX8_isKindAt_29 rfl (by decide) ?_
      exact kt (Or.inr (Or.inl c2))
    · skip
      refine Ev_iload_n dX8_isKindAt_18 rfl ?_
      refine Ev_bipush (v := 112) dX8_isKindAt_19 (by decide) ?_
      refine Ev_icmp_ne dX8_isKindAt_21 (fun c3 => ?_) (fun c3 => ?_)
      · skip
        refine Ev_iconst (v := 0) dX8_isKindAt_28 (by decide) ?_
        refine Ev_iret dX8_isKindAt_29 rfl (by decide) ?_
        exact kf (fun z => z.elim c1 (fun z => z.elim c2 c3))
      · skip
        refine Ev_iconst (v := 1) dX8_isKindAt_24 (by decide) ?_
        refine Ev_goto dX8_isKindAt_25 ?_
        refine Ev_iret dX8_isKindAt_29 rfl (by decide) ?_
        exact kt (Or.inr (Or.inr c3))

set_option maxHeartbeats 4000000 in
set_option maxRecDepth 100000 in
theorem c_go_a {d : Nat} {S : aS} {Q : Option Value → aS → Prop} {tx kk ii m : Nat} {ln len : Int32} {f : Nat → Int32} (hT : S[tx]? = some (.inr (8, [.ref (2 + 2 * kk), .int (nI ii), .int (nI m)]))) (hS : S[2 + 2 * kk]? = some (.inr (5, [.ref (3 + 2 * kk), .int ln, .int len]))) (hc : S[3 + 2 * kk]? = some (iA 60 f)) (hl : 0 ≤ len.toInt ∧ len.toInt ≤ 60) (hiz : (ii : Int) + m ≤ len.toInt) (kt : okc (fun y => f (ii + y)) m 0 → Q (some (.int 1)) S) (kf : ¬ okc (fun y => f (ii + y)) m 0 → Q (some (.int 0)) S) : Mth mX8_goesOnAt (d + 4) 0 [.ref tx, .int 0] S Q := by
  refine Mth_of (by decide) rfl ?_
  refine Ev_iload_n dX8_goesOnAt_0 rfl ?_
  refine Ev_if_ne dX8_goesOnAt_1 (fun c => absurd (by decide) c) (fun _ => ?_)
  refine Ev_aload_n dX8_goesOnAt_4 rfl ?_
  refine Ev_iload_n dX8_goesOnAt_5 rfl ?_
  refine Ev_callV (bc := 0) (b := 0) dX8_goesOnAt_6 cv_X8_26 rfl hT (Nat.le_of_ble_eq_true rfl) (by omega) ?_
  refine c_X8_codeAt hT hS hc hl hiz (p := 0) (by omega) ?_
  refine Ev_bipush (v := 110) dX8_goesOnAt_9 (by decide) ?_
  refine Ev_icmp_ne dX8_goesOnAt_11 (fun c1 => ?_) (fun c1 => ?_)
  · skip
    refine Ev_iconst (v := 0) dX8_goesOnAt_18 (by decide) ?_
    refine Ev_iret dX8_goesOnAt_19 rfl (by decide) ?_
    exact kf (fun z => c1 (okc_a.mp z))
  · skip
    refine Ev_iconst (v := 1) dX8_goesOnAt_14 (by decide) ?_
    refine Ev_goto dX8_goesOnAt_15 ?_
    refine Ev_iret dX8_goesOnAt_19 rfl (by decide) ?_
    exact kt (okc_a.mpr c1)

set_option maxHeartbeats 4000000 in
set_option maxRecDepth 100000 in
theorem c_go_b {d : Nat} {S : aS} {Q : Option Value → aS → Prop} {tx kk ii m : Nat} {ln len : Int32} {f : Nat → Int32} (hT : S[tx]? = some (.inr (8, [.ref (2 + 2 * kk), .int (nI ii), .int (nI m)]))) (hS : S[2 + 2 * kk]? = some (.inr (5, [.ref (3 + 2 * kk), .int ln, .int len]))) (hc : S[3 + 2 * kk]? = some (iA 60 f)) (hl : 0 ≤ len.toInt ∧ len.toInt ≤ 60) (hiz : (ii : Int) + m ≤ len.toInt) (kt : okc (fun y => f (ii + y)) m 1 → Q (some (.int 1)) S) (kf : ¬ okc (fun y => f (ii + y)) m 1 → Q (some (.int 0)) S) : Mth mX8_goesOnAt (d + 4) 0 [.ref tx, .int 1] S Q := by
  refine Mth_of (by decide) rfl ?_
  refine Ev_iload_n dX8_goesOnAt_0 rfl ?_
  refine Ev_if_ne dX8_goesOnAt_1 (fun _ => ?_) (fun c => absurd c (by decide))
  refine Ev_iload_n dX8_goesOnAt_20 rfl ?_
  refine Ev_iconst (v := 1) dX8_goesOnAt_21 (by decide) ?_
  refine Ev_icmp_ne dX8_goesOnAt_22 (fun c => absurd (by decide) c) (fun _ => ?_)
  refine Ev_aload_n dX8_goesOnAt_25 rfl ?_
  refine Ev_iload_n dX8_goesOnAt_26 rfl ?_
  refine Ev_iconst (v := 2) dX8_goesOnAt_27 (by decide) ?_
  refine Ev_bipush (v := 7) dX8_goesOnAt_28 (by decide) ?_
  refine Ev_callV (bc := 0) (b := 0) dX8_goesOnAt_30 cv_X8_30 rfl hT (Nat.le_of_ble_eq_true rfl) (by omega) ?_
  refine c_X8_isDigitAt hT hS hc hl hiz (p := 1) (lo := 2) (hi := 7) (by omega) (by omega) (by omega) (fun q1 => ?_) (fun q1 => ?_)
  · skip
    refine Ev_iret dX8_goesOnAt_33 rfl (by decide) ?_
    exact kt (okc_b.mpr (by omega))
  · skip
    refine Ev_iret dX8_goesOnAt_33 rfl (by decide) ?_
    exact kf (fun z => q1 (by have := okc_b.mp z; omega))

set_option maxHeartbeats 4000000 in
set_option maxRecDepth 100000 in
theorem c_go_0 {d : Nat} {S : aS} {Q : Option Value → aS → Prop} {tx kk ii m : Nat} {ln len : Int32} {f : Nat → Int32} (hT : S[tx]? = some (.inr (8, [.ref (2 + 2 * kk), .int (nI ii), .int (nI m)]))) (hS : S[2 + 2 * kk]? = some (.inr (5, [.ref (3 + 2 * kk), .int ln, .int len]))) (hc : S[3 + 2 * kk]? = some (iA 60 f)) (hl : 0 ≤ len.toInt ∧ len.toInt ≤ 60) (hiz : (ii : Int) + m ≤ len.toInt) {j : Nat} (hj : j ≤ 8) (h1 : okc (fun y => f (ii + y)) m 1) (kt : okc (fun y => f (ii + y)) m (2 + 7 * j) → Q (some (.int 1)) S) (kf : ¬ okc (fun y => f (ii + y)) m (2 + 7 * j) → Q (some (.int 0)) S) : Mth mX8_goesOnAt (d + 4) 0 [.ref tx, .int (nI (2 + 7 * j))] S Q := by
  have hb1 := tP_b h1
  refine Mth_of (by decide) rfl ?_
  refine Ev_iload_n dX8_goesOnAt_0 rfl ?_
  refine Ev_if_ne dX8_goesOnAt_1 (fun _ => ?_) (fun c => absurd c (fun z => absurd ((nIinj (b := 0) (by omega) (by omega)).mp z) (by omega)))
  refine Ev_iload_n dX8_goesOnAt_20 rfl ?_
  refine Ev_iconst (v := 1) dX8_goesOnAt_21 (by decide) ?_
  refine Ev_icmp_ne dX8_goesOnAt_22 (fun _ => ?_) (fun c => absurd c (fun z => absurd ((nIinj (b := 1) (by omega) (by omega)).mp z) (by omega)))
  refine Ev_iload_n dX8_goesOnAt_34 rfl ?_
  refine Ev_iconst (v := 2) dX8_goesOnAt_35 (by decide) ?_
  refine Ev_isub dX8_goesOnAt_36 ?_
  refine Ev_topi (y := nI (7 * j)) ((nsub (b := 2) (by omega)).trans (by rw [show 2 + 7 * j - 2 = 7 * j by omega])) ?_
  refine Ev_bipush (v := 7) dX8_goesOnAt_37 (by decide) ?_
  refine Ev_irem dX8_goesOnAt_39 (by decide) ?_
  refine Ev_topi (y := 0) ((pk_rem (a := 7 * j) (d := 7) (by omega) (by decide) (by decide)).trans (by rw [show (7 * j) % 7 = 0 by omega]; rfl)) ?_
  refine Ev_tableIn (off := 36) (tg := 76) 0 dX8_goesOnAt_40 (by decide) (by decide) rfl (by decide) ?_
  refine Ev_aload_n dX8_goesOnAt_76 rfl ?_
  refine Ev_iload_n dX8_goesOnAt_77 rfl ?_
  refine Ev_callV (bc := 0) (b := 0) dX8_goesOnAt_78 cv_X8_26 rfl hT (Nat.le_of_ble_eq_true rfl) (by omega) ?_
  refine c_X8_codeAt hT hS hc hl hiz (p := 2 + 7 * j) (by omega) ?_
  refine Ev_bipush (v := 59) dX8_goesOnAt_81 (by decide) ?_
  refine Ev_icmp_ne dX8_goesOnAt_83 (fun c1 => ?_) (fun c1 => ?_)
  · skip
    refine Ev_iconst (v := 0) dX8_goesOnAt_101 (by decide) ?_
    refine Ev_iret dX8_goesOnAt_102 rfl (by decide) ?_
    exact kf (fun z => c1 (okc_0.mp z))
  · skip
    refine Ev_iload_n dX8_goesOnAt_86 rfl ?_
    refine Ev_iconst (v := 2) dX8_goesOnAt_87 (by decide) ?_
    refine Ev_isub dX8_goesOnAt_88 ?_
    refine Ev_topi (y := nI (7 * j)) ((nsub (b := 2) (by omega)).trans (by rw [show 2 + 7 * j - 2 = 7 * j by omega])) ?_
    refine Ev_bipush (v := 7) dX8_goesOnAt_89 (by decide) ?_
    refine Ev_idiv dX8_goesOnAt_91 (by decide) ?_
    refine Ev_topi (y := nI j) ((pk_div (a := 7 * j) (d := 7) (by omega) (by decide) (by decide)).trans (by rw [show 7 * j / 7 = j by omega])) ?_
    refine Ev_bipush (v := 9) dX8_goesOnAt_92 (by decide) ?_
    refine Ev_icmp_ge dX8_goesOnAt_94 (fun c => absurd c (fun z => absurd ((nle (a := 9) (by omega) (by omega)).mp z) (by omega))) (fun _ => ?_)
    refine Ev_iconst (v := 1) dX8_goesOnAt_97 (by decide) ?_
    refine Ev_goto dX8_goesOnAt_98 ?_
    refine Ev_iret dX8_goesOnAt_102 rfl (by decide) ?_
    exact kt (okc_0.mpr c1)

set_option maxHeartbeats 4000000 in
set_option maxRecDepth 100000 in
theorem c_go_1 {d : Nat} {S : aS} {Q : Option Value → aS → Prop} {tx kk ii m : Nat} {ln len : Int32} {f : Nat → Int32} (hT : S[tx]? = some (.inr (8, [.ref (2 + 2 * kk), .int (nI ii), .int (nI m)]))) (hS : S[2 + 2 * kk]? = some (.inr (5, [.ref (3 + 2 * kk), .int ln, .int len]))) (hc : S[3 + 2 * kk]? = some (iA 60 f)) (hl : 0 ≤ len.toInt ∧ len.toInt ≤ 60) (hiz : (ii : Int) + m ≤ len.toInt) {j : Nat} (hj : j ≤ 8) (h1 : okc (fun y => f (ii + y)) m 1) (kt : okc (fun y => f (ii + y)) m (2 + 7 * j + 1) → Q (some (.int 1)) S) (kf : ¬ okc (fun y => f (ii + y)) m (2 + 7 * j + 1) → Q (some (.int 0)) S) : Mth mX8_goesOnAt (d + 4) 0 [.ref tx, .int (nI (2 + 7 * j + 1))] S Q := by
  have hb1 := tP_b h1
  refine Mth_of (by decide) rfl ?_
  refine Ev_iload_n dX8_goesOnAt_0 rfl ?_
  refine Ev_if_ne dX8_goesOnAt_1 (fun _ => ?_) (fun c => absurd c (fun z => absurd ((nIinj (b := 0) (by omega) (by omega)).mp z) (by omega)))
  refine Ev_iload_n dX8_goesOnAt_20 rfl ?_
  refine Ev_iconst (v := 1) dX8_goesOnAt_21 (by decide) ?_
  refine Ev_icmp_ne dX8_goesOnAt_22 (fun _ => ?_) (fun c => absurd c (fun z => absurd ((nIinj (b := 1) (by omega) (by omega)).mp z) (by omega)))
  refine Ev_iload_n dX8_goesOnAt_34 rfl ?_
  refine Ev_iconst (v := 2) dX8_goesOnAt_35 (by decide) ?_
  refine Ev_isub dX8_goesOnAt_36 ?_
  refine Ev_topi (y := nI (7 * j + 1)) ((nsub (b := 2) (by omega)).trans (by rw [show 2 + 7 * j + 1 - 2 = 7 * j + 1 by omega])) ?_
  refine Ev_bipush (v := 7) dX8_goesOnAt_37 (by decide) ?_
  refine Ev_irem dX8_goesOnAt_39 (by decide) ?_
  refine Ev_topi (y := 1) ((pk_rem (a := 7 * j + 1) (d := 7) (by omega) (by decide) (by decide)).trans (by rw [show (7 * j + 1) % 7 = 1 by omega]; rfl)) ?_
  refine Ev_tableIn (off := 63) (tg := 103) 1 dX8_goesOnAt_40 (by decide) (by decide) rfl (by decide) ?_
  refine Ev_aload_n dX8_goesOnAt_103 rfl ?_
  refine Ev_iload_n dX8_goesOnAt_104 rfl ?_
  refine Ev_callV (bc := 0) (b := 0) dX8_goesOnAt_105 cv_X8_34 rfl hT (Nat.le_of_ble_eq_true rfl) (by omega) ?_
  refine c_X8_isKindAt hT hS hc hl hiz (p := 2 + 7 * j + 1) (by omega) (fun q1 => ?_) (fun q1 => ?_)
  · skip
    refine Ev_iret dX8_goesOnAt_108 rfl (by decide) ?_
    exact kt (okc_1.mpr q1)
  · skip
    refine Ev_iret dX8_goesOnAt_108 rfl (by decide) ?_
    exact kf (fun z => q1 (okc_1.mp z))

set_option maxHeartbeats 4000000 in
set_option maxRecDepth 100000 in
theorem c_go_2 {d : Nat} {S : aS} {Q : Option Value → aS → Prop} {tx kk ii m : Nat} {ln len : Int32} {f : Nat → Int32} (hT : S[tx]? = some (.inr (8, [.ref (2 + 2 * kk), .int (nI ii), .int (nI m)]))) (hS : S[2 + 2 * kk]? = some (.inr (5, [.ref (3 + 2 * kk), .int ln, .int len]))) (hc : S[3 + 2 * kk]? = some (iA 60 f)) (hl : 0 ≤ len.toInt ∧ len.toInt ≤ 60) (hiz : (ii : Int) + m ≤ len.toInt) {j : Nat} (hj : j ≤ 8) (h1 : okc (fun y => f (ii + y)) m 1) (kt : okc (fun y => f (ii + y)) m (2 + 7 * j + 2) → Q (some (.int 1)) S) (kf : ¬ okc (fun y => f (ii + y)) m (2 + 7 * j + 2) → Q (some (.int 0)) S) : Mth mX8_goesOnAt (d + 4) 0 [.ref tx, .int (nI (2 + 7 * j + 2))] S Q := by
  have hb1 := tP_b h1
  refine Mth_of (by decide) rfl ?_
  refine Ev_iload_n dX8_goesOnAt_0 rfl ?_
  refine Ev_if_ne dX8_goesOnAt_1 (fun _ => ?_) (fun c => absurd c (fun z => absurd ((nIinj (b := 0) (by omega) (by omega)).mp z) (by omega)))
  refine Ev_iload_n dX8_goesOnAt_20 rfl ?_
  refine Ev_iconst (v := 1) dX8_goesOnAt_21 (by decide) ?_
  refine Ev_icmp_ne dX8_goesOnAt_22 (fun _ => ?_) (fun c => absurd c (fun z => absurd ((nIinj (b := 1) (by omega) (by omega)).mp z) (by omega)))
  refine Ev_iload_n dX8_goesOnAt_34 rfl ?_
  refine Ev_iconst (v := 2) dX8_goesOnAt_35 (by decide) ?_
  refine Ev_isub dX8_goesOnAt_36 ?_
  refine Ev_topi (y := nI (7 * j + 2)) ((nsub (b := 2) (by omega)).trans (by rw [show 2 + 7 * j + 2 - 2 = 7 * j + 2 by omega])) ?_
  refine Ev_bipush (v := 7) dX8_goesOnAt_37 (by decide) ?_
  refine Ev_irem dX8_goesOnAt_39 (by decide) ?_
  refine Ev_topi (y := 2) ((pk_rem (a := 7 * j + 2) (d := 7) (by omega) (by decide) (by decide)).trans (by rw [show (7 * j + 2) % 7 = 2 by omega]; rfl)) ?_
  refine Ev_tableIn (off := 69) (tg := 109) 2 dX8_goesOnAt_40 (by decide) (by decide) rfl (by decide) ?_
  refine Ev_aload_n dX8_goesOnAt_109 rfl ?_
  refine Ev_iload_n dX8_goesOnAt_110 rfl ?_
  refine Ev_iconst (v := 0) dX8_goesOnAt_111 (by decide) ?_
  refine Ev_aload_n dX8_goesOnAt_112 rfl ?_
  refine Ev_callV (bc := 0) (b := 0) dX8_goesOnAt_113 cv_X8_37 rfl hT (Nat.le_of_ble_eq_true rfl) (by omega) ?_
  refine c_X8_places hT hS hc hl hiz h1 ?_
  refine Ev_iconst (v := 1) dX8_goesOnAt_116 (by decide) ?_
  refine Ev_isub dX8_goesOnAt_117 ?_
  refine Ev_topi (y := nI (tP (fun y => f (ii + y)) m - 1)) (nsub (b := 1) (by omega)) ?_
  refine Ev_callV (bc := 0) (b := 0) dX8_goesOnAt_118 cv_X8_30 rfl hT (Nat.le_of_ble_eq_true rfl) (by omega) ?_
  refine c_X8_isDigitAt hT hS hc hl hiz (p := 2 + 7 * j + 2) (lo := 0) (hi := tP (fun y => f (ii + y)) m - 1) (by omega) (by omega) (by omega) (fun q1 => ?_) (fun q1 => ?_)
  · skip
    refine Ev_iret dX8_goesOnAt_121 rfl (by decide) ?_
    exact kt (okc_2.mpr (by omega))
  · skip
    refine Ev_iret dX8_goesOnAt_121 rfl (by decide) ?_
    exact kf (fun z => q1 (by have := okc_2.mp z; omega))

set_option maxHeartbeats 4000000 in
set_option maxRecDepth 100000 in
theorem c_go_3 {d : Nat} {S : aS} {Q : Option Value → aS → Prop} {tx kk ii m : Nat} {ln len : Int32} {f : Nat → Int32} (hT : S[tx]? = some (.inr (8, [.ref (2 + 2 * kk), .int (nI ii), .int (nI m)]))) (hS : S[2 + 2 * kk]? = some (.inr (5, [.ref (3 + 2 * kk), .int ln, .int len]))) (hc : S[3 + 2 * kk]? = some (iA 60 f)) (hl : 0 ≤ len.toInt ∧ len.toInt ≤ 60) (hiz : (ii : Int) + m ≤ len.toInt) {j : Nat} (hj : j ≤ 8) (h1 : okc (fun y => f (ii + y)) m 1) (kt : okc (fun y => f (ii + y)) m (2 + 7 * j + 3) → Q (some (.int 1)) S) (kf : ¬ okc (fun y => f (ii + y)) m (2 + 7 * j + 3) → Q (some (.int 0)) S) : Mth mX8_goesOnAt (d + 4) 0 [.ref tx, .int (nI (2 + 7 * j + 3))] S Q := by
  have hb1 := tP_b h1
  refine Mth_of (by decide) rfl ?_
  refine Ev_iload_n dX8_goesOnAt_0 rfl ?_
  refine Ev_if_ne dX8_goesOnAt_1 (fun _ => ?_) (fun c => absurd c (fun z => absurd ((nIinj (b := 0) (by omega) (by omega)).mp z) (by omega)))
  refine Ev_iload_n dX8_goesOnAt_20 rfl ?_
  refine Ev_iconst (v := 1) dX8_goesOnAt_21 (by decide) ?_
  refine Ev_icmp_ne dX8_goesOnAt_22 (fun _ => ?_) (fun c => absurd c (fun z => absurd ((nIinj (b := 1) (by omega) (by omega)).mp z) (by omega)))
  refine Ev_iload_n dX8_goesOnAt_34 rfl ?_
  refine Ev_iconst (v := 2) dX8_goesOnAt_35 (by decide) ?_
  refine Ev_isub dX8_goesOnAt_36 ?_
  refine Ev_topi (y := nI (7 * j + 3)) ((nsub (b := 2) (by omega)).trans (by rw [show 2 + 7 * j + 3 - 2 = 7 * j + 3 by omega])) ?_
  refine Ev_bipush (v := 7) dX8_goesOnAt_37 (by decide) ?_
  refine Ev_irem dX8_goesOnAt_39 (by decide) ?_
  refine Ev_topi (y := 3) ((pk_rem (a := 7 * j + 3) (d := 7) (by omega) (by decide) (by decide)).trans (by rw [show (7 * j + 3) % 7 = 3 by omega]; rfl)) ?_
  refine Ev_tableIn (off := 82) (tg := 122) 3 dX8_goesOnAt_40 (by decide) (by decide) rfl (by decide) ?_
  refine Ev_aload_n dX8_goesOnAt_122 rfl ?_
  refine Ev_iload_n dX8_goesOnAt_123 rfl ?_
  refine Ev_iconst (v := 0) dX8_goesOnAt_124 (by decide) ?_
  refine Ev_aload_n dX8_goesOnAt_125 rfl ?_
  refine Ev_callV (bc := 0) (b := 0) dX8_goesOnAt_126 cv_X8_37 rfl hT (Nat.le_of_ble_eq_true rfl) (by omega) ?_
  refine c_X8_places hT hS hc hl hiz h1 ?_
  refine Ev_iconst (v := 1) dX8_goesOnAt_129 (by decide) ?_
  refine Ev_isub dX8_goesOnAt_130 ?_
  refine Ev_topi (y := nI (tP (fun y => f (ii + y)) m - 1)) (nsub (b := 1) (by omega)) ?_
  refine Ev_callV (bc := 0) (b := 0) dX8_goesOnAt_131 cv_X8_30 rfl hT (Nat.le_of_ble_eq_true rfl) (by omega) ?_
  refine c_X8_isDigitAt hT hS hc hl hiz (p := 2 + 7 * j + 3) (lo := 0) (hi := tP (fun y => f (ii + y)) m - 1) (by omega) (by omega) (by omega) (fun q1 => ?_) (fun q1 => ?_)
  · skip
    refine Ev_if_eq dX8_goesOnAt_134 (fun c => absurd c (by decide)) (fun _ => ?_)
    refine Ev_aload_n dX8_goesOnAt_137 rfl ?_
    refine Ev_iload_n dX8_goesOnAt_138 rfl ?_
    refine Ev_callV (bc := 0) (b := 0) dX8_goesOnAt_139 cv_X8_26 rfl hT (Nat.le_of_ble_eq_true rfl) (by omega) ?_
    refine c_X8_codeAt hT hS hc hl hiz (p := 2 + 7 * j + 3) (by omega) ?_
    refine Ev_aload_n dX8_goesOnAt_142 rfl ?_
    refine Ev_iload_n dX8_goesOnAt_143 rfl ?_
    refine Ev_iconst (v := 1) dX8_goesOnAt_144 (by decide) ?_
    refine Ev_isub dX8_goesOnAt_145 ?_
    refine Ev_topi (y := nI (2 + 7 * j + 2)) ((nsub (b := 1) (by omega)).trans (by rw [show 2 + 7 * j + 3 - 1 = 2 + 7 * j + 2 by omega])) ?_
    refine Ev_callV (bc := 0) (b := 0) dX8_goesOnAt_146 cv_X8_26 rfl hT (Nat.le_of_ble_eq_true rfl) (by omega) ?_
    refine c_X8_codeAt hT hS hc hl hiz (p := 2 + 7 * j + 2) (by omega) ?_
    refine Ev_icmp_eq dX8_goesOnAt_149 (fun c2 => ?_) (fun c2 => ?_)
    · skip
      refine Ev_iconst (v := 0) dX8_goesOnAt_156 (by decide) ?_
      refine Ev_iret dX8_goesOnAt_157 rfl (by decide) ?_
      exact kf (fun z => (okc_3.mp z).2 c2)
    · skip
      refine Ev_iconst (v := 1) dX8_goesOnAt_152 (by decide) ?_
      refine Ev_goto dX8_goesOnAt_153 ?_
      refine Ev_iret dX8_goesOnAt_157 rfl (by decide) ?_
      exact kt (okc_3.mpr ⟨by omega, c2⟩)
  · skip
    refine Ev_if_eq dX8_goesOnAt_134 (fun _ => ?_) (fun c => absurd (by decide) c)
    refine Ev_iconst (v := 0) dX8_goesOnAt_156 (by decide) ?_
    refine Ev_iret dX8_goesOnAt_157 rfl (by decide) ?_
    exact kf (fun z => q1 (by have := (okc_3.mp z).1; omega))

set_option maxHeartbeats 4000000 in
set_option maxRecDepth 100000 in
theorem c_go_4 {d : Nat} {S : aS} {Q : Option Value → aS → Prop} {tx kk ii m : Nat} {ln len : Int32} {f : Nat → Int32} (hT : S[tx]? = some (.inr (8, [.ref (2 + 2 * kk), .int (nI ii), .int (nI m)]))) (hS : S[2 + 2 * kk]? = some (.inr (5, [.ref (3 + 2 * kk), .int ln, .int len]))) (hc : S[3 + 2 * kk]? = some (iA 60 f)) (hl : 0 ≤ len.toInt ∧ len.toInt ≤ 60) (hiz : (ii : Int) + m ≤ len.toInt) {j : Nat} (hj : j ≤ 8) (h1 : okc (fun y => f (ii + y)) m 1) (kt : okc (fun y => f (ii + y)) m (2 + 7 * j + 4) → Q (some (.int 1)) S) (kf : ¬ okc (fun y => f (ii + y)) m (2 + 7 * j + 4) → Q (some (.int 0)) S) : Mth mX8_goesOnAt (d + 4) 0 [.ref tx, .int (nI (2 + 7 * j + 4))] S Q := by
  have hb1 := tP_b h1
  refine Mth_of (by decide) rfl ?_
  refine Ev_iload_n dX8_goesOnAt_0 rfl ?_
  refine Ev_if_ne dX8_goesOnAt_1 (fun _ => ?_) (fun c => absurd c (fun z => absurd ((nIinj (b := 0) (by omega) (by omega)).mp z) (by omega)))
  refine Ev_iload_n dX8_goesOnAt_20 rfl ?_
  refine Ev_iconst (v := 1) dX8_goesOnAt_21 (by decide) ?_
  refine Ev_icmp_ne dX8_goesOnAt_22 (fun _ => ?_) (fun c => absurd c (fun z => absurd ((nIinj (b := 1) (by omega) (by omega)).mp z) (by omega)))
  refine Ev_iload_n dX8_goesOnAt_34 rfl ?_
  refine Ev_iconst (v := 2) dX8_goesOnAt_35 (by decide) ?_
  refine Ev_isub dX8_goesOnAt_36 ?_
  refine Ev_topi (y := nI (7 * j + 4)) ((nsub (b := 2) (by omega)).trans (by rw [show 2 + 7 * j + 4 - 2 = 7 * j + 4 by omega])) ?_
  refine Ev_bipush (v := 7) dX8_goesOnAt_37 (by decide) ?_
  refine Ev_irem dX8_goesOnAt_39 (by decide) ?_
  refine Ev_topi (y := 4) ((pk_rem (a := 7 * j + 4) (d := 7) (by omega) (by decide) (by decide)).trans (by rw [show (7 * j + 4) % 7 = 4 by omega]; rfl)) ?_
  refine Ev_tableIn (off := 118) (tg := 158) 4 dX8_goesOnAt_40 (by decide) (by decide) rfl (by decide) ?_
  refine Ev_aload_n dX8_goesOnAt_158 rfl ?_
  refine Ev_iload_n dX8_goesOnAt_159 rfl ?_
  refine Ev_iconst (v := 1) dX8_goesOnAt_160 (by decide) ?_
  refine Ev_bipush (v := 9) dX8_goesOnAt_161 (by decide) ?_
  refine Ev_callV (bc := 0) (b := 0) dX8_goesOnAt_163 cv_X8_30 rfl hT (Nat.le_of_ble_eq_true rfl) (by omega) ?_
  refine c_X8_isDigitAt hT hS hc hl hiz (p := 2 + 7 * j + 4) (lo := 1) (hi := 9) (by omega) (by omega) (by omega) (fun q1 => ?_) (fun q1 => ?_)
  · skip
    refine Ev_iret dX8_goesOnAt_166 rfl (by decide) ?_
    exact kt (okc_4.mpr (by omega))
  · skip
    refine Ev_iret dX8_goesOnAt_166 rfl (by decide) ?_
    exact kf (fun z => q1 (by have := okc_4.mp z; omega))

set_option maxHeartbeats 4000000 in
set_option maxRecDepth 100000 in
theorem c_go_5 {d : Nat} {S : aS} {Q : Option Value → aS → Prop} {tx kk ii m : Nat} {ln len : Int32} {f : Nat → Int32} (hT : S[tx]? = some (.inr (8, [.ref (2 + 2 * kk), .int (nI ii), .int (nI m)]))) (hS : S[2 + 2 * kk]? = some (.inr (5, [.ref (3 + 2 * kk), .int ln, .int len]))) (hc : S[3 + 2 * kk]? = some (iA 60 f)) (hl : 0 ≤ len.toInt ∧ len.toInt ≤ 60) (hiz : (ii : Int) + m ≤ len.toInt) {j : Nat} (hj : j ≤ 8) (h1 : okc (fun y => f (ii + y)) m 1) (kt : okc (fun y => f (ii + y)) m (2 + 7 * j + 5) → Q (some (.int 1)) S) (kf : ¬ okc (fun y => f (ii + y)) m (2 + 7 * j + 5) → Q (some (.int 0)) S) : Mth mX8_goesOnAt (d + 4) 0 [.ref tx, .int (nI (2 + 7 * j + 5))] S Q := by
  have hb1 := tP_b h1
  refine Mth_of (by decide) rfl ?_
  refine Ev_iload_n dX8_goesOnAt_0 rfl ?_
  refine Ev_if_ne dX8_goesOnAt_1 (fun _ => ?_) (fun c => absurd c (fun z => absurd ((nIinj (b := 0) (by omega) (by omega)).mp z) (by omega)))
  refine Ev_iload_n dX8_goesOnAt_20 rfl ?_
  refine Ev_iconst (v := 1) dX8_goesOnAt_21 (by decide) ?_
  refine Ev_icmp_ne dX8_goesOnAt_22 (fun _ => ?_) (fun c => absurd c (fun z => absurd ((nIinj (b := 1) (by omega) (by omega)).mp z) (by omega)))
  refine Ev_iload_n dX8_goesOnAt_34 rfl ?_
  refine Ev_iconst (v := 2) dX8_goesOnAt_35 (by decide) ?_
  refine Ev_isub dX8_goesOnAt_36 ?_
  refine Ev_topi (y := nI (7 * j + 5)) ((nsub (b := 2) (by omega)).trans (by rw [show 2 + 7 * j + 5 - 2 = 7 * j + 5 by omega])) ?_
  refine Ev_bipush (v := 7) dX8_goesOnAt_37 (by decide) ?_
  refine Ev_irem dX8_goesOnAt_39 (by decide) ?_
  refine Ev_topi (y := 5) ((pk_rem (a := 7 * j + 5) (d := 7) (by omega) (by decide) (by decide)).trans (by rw [show (7 * j + 5) % 7 = 5 by omega]; rfl)) ?_
  refine Ev_tableOut (tg := 167) dX8_goesOnAt_40 (by decide) (by decide) ?_
  refine Ev_aload_n dX8_goesOnAt_167 rfl ?_
  refine Ev_iload_n dX8_goesOnAt_168 rfl ?_
  refine Ev_iconst (v := 0) dX8_goesOnAt_169 (by decide) ?_
  refine Ev_bipush (v := 9) dX8_goesOnAt_170 (by decide) ?_
  refine Ev_callV (bc := 0) (b := 0) dX8_goesOnAt_172 cv_X8_30 rfl hT (Nat.le_of_ble_eq_true rfl) (by omega) ?_
  refine c_X8_isDigitAt hT hS hc hl hiz (p := 2 + 7 * j + 5) (lo := 0) (hi := 9) (by omega) (by omega) (by omega) (fun q1 => ?_) (fun q1 => ?_)
  · skip
    refine Ev_iret dX8_goesOnAt_175 rfl (by decide) ?_
    exact kt (okc_5.mpr (by omega))
  · skip
    refine Ev_iret dX8_goesOnAt_175 rfl (by decide) ?_
    exact kf (fun z => q1 (by have := okc_5.mp z; omega))

set_option maxHeartbeats 4000000 in
set_option maxRecDepth 100000 in
theorem c_go_6 {d : Nat} {S : aS} {Q : Option Value → aS → Prop} {tx kk ii m : Nat} {ln len : Int32} {f : Nat → Int32} (hT : S[tx]? = some (.inr (8, [.ref (2 + 2 * kk), .int (nI ii), .int (nI m)]))) (hS : S[2 + 2 * kk]? = some (.inr (5, [.ref (3 + 2 * kk), .int ln, .int len]))) (hc : S[3 + 2 * kk]? = some (iA 60 f)) (hl : 0 ≤ len.toInt ∧ len.toInt ≤ 60) (hiz : (ii : Int) + m ≤ len.toInt) {j : Nat} (hj : j ≤ 8) (h1 : okc (fun y => f (ii + y)) m 1) (kt : okc (fun y => f (ii + y)) m (2 + 7 * j + 6) → Q (some (.int 1)) S) (kf : ¬ okc (fun y => f (ii + y)) m (2 + 7 * j + 6) → Q (some (.int 0)) S) : Mth mX8_goesOnAt (d + 4) 0 [.ref tx, .int (nI (2 + 7 * j + 6))] S Q := by
  have hb1 := tP_b h1
  refine Mth_of (by decide) rfl ?_
  refine Ev_iload_n dX8_goesOnAt_0 rfl ?_
  refine Ev_if_ne dX8_goesOnAt_1 (fun _ => ?_) (fun c => absurd c (fun z => absurd ((nIinj (b := 0) (by omega) (by omega)).mp z) (by omega)))
  refine Ev_iload_n dX8_goesOnAt_20 rfl ?_
  refine Ev_iconst (v := 1) dX8_goesOnAt_21 (by decide) ?_
  refine Ev_icmp_ne dX8_goesOnAt_22 (fun _ => ?_) (fun c => absurd c (fun z => absurd ((nIinj (b := 1) (by omega) (by omega)).mp z) (by omega)))
  refine Ev_iload_n dX8_goesOnAt_34 rfl ?_
  refine Ev_iconst (v := 2) dX8_goesOnAt_35 (by decide) ?_
  refine Ev_isub dX8_goesOnAt_36 ?_
  refine Ev_topi (y := nI (7 * j + 6)) ((nsub (b := 2) (by omega)).trans (by rw [show 2 + 7 * j + 6 - 2 = 7 * j + 6 by omega])) ?_
  refine Ev_bipush (v := 7) dX8_goesOnAt_37 (by decide) ?_
  refine Ev_irem dX8_goesOnAt_39 (by decide) ?_
  refine Ev_topi (y := 6) ((pk_rem (a := 7 * j + 6) (d := 7) (by omega) (by decide) (by decide)).trans (by rw [show (7 * j + 6) % 7 = 6 by omega]; rfl)) ?_
  refine Ev_tableOut (tg := 167) dX8_goesOnAt_40 (by decide) (by decide) ?_
  refine Ev_aload_n dX8_goesOnAt_167 rfl ?_
  refine Ev_iload_n dX8_goesOnAt_168 rfl ?_
  refine Ev_iconst (v := 0) dX8_goesOnAt_169 (by decide) ?_
  refine Ev_bipush (v := 9) dX8_goesOnAt_170 (by decide) ?_
  refine Ev_callV (bc := 0) (b := 0) dX8_goesOnAt_172 cv_X8_30 rfl hT (Nat.le_of_ble_eq_true rfl) (by omega) ?_
  refine c_X8_isDigitAt hT hS hc hl hiz (p := 2 + 7 * j + 6) (lo := 0) (hi := 9) (by omega) (by omega) (by omega) (fun q1 => ?_) (fun q1 => ?_)
  · skip
    refine Ev_iret dX8_goesOnAt_175 rfl (by decide) ?_
    exact kt (okc_6.mpr (by omega))
  · skip
    refine Ev_iret dX8_goesOnAt_175 rfl (by decide) ?_
    exact kf (fun z => q1 (by have := okc_6.mp z; omega))

theorem c_X8_goesOn {d : Nat} {S : aS} {Q : Option Value → aS → Prop} {tx kk ii m : Nat} {ln len : Int32} {f : Nat → Int32} (hT : S[tx]? = some (.inr (8, [.ref (2 + 2 * kk), .int (nI ii), .int (nI m)]))) (hS : S[2 + 2 * kk]? = some (.inr (5, [.ref (3 + 2 * kk), .int ln, .int len]))) (hc : S[3 + 2 * kk]? = some (iA 60 f)) (hl : 0 ≤ len.toInt ∧ len.toInt ≤ 60) (hiz : (ii : Int) + m ≤ len.toInt) {p : Nat} (hp : p < 60) (h1 : 2 ≤ p → okc (fun y => f (ii + y)) m 1) (kt : okc (fun y => f (ii + y)) m p → Q (some (.int 1)) S) (kf : ¬ okc (fun y => f (ii + y)) m p → Q (some (.int 0)) S) : Mth mX8_goesOnAt (d + 4) 0 [.ref tx, .int (nI p)] S Q := by
  by_cases e0 : p = 0
  · subst e0; exact c_go_a hT hS hc hl hiz kt kf
  by_cases e1 : p = 1
  · subst e1; exact c_go_b hT hS hc hl hiz kt kf
  have h19 := h1 (by omega)
  clear h1
  obtain ⟨j, t, hj, ht, rfl⟩ : ∃ j t, j ≤ 8 ∧ t < 7 ∧ p = 2 + 7 * j + t := ⟨(p - 2) / 7, (p - 2) % 7, by omega, by omega, by omega⟩
  rcases (show t = 0 ∨ t = 1 ∨ t = 2 ∨ t = 3 ∨ t = 4 ∨ t = 5 ∨ t = 6 by omega) with rfl | rfl | rfl | rfl | rfl | rfl | rfl
  · exact c_go_0 hT hS hc hl hiz hj h19 kt kf
  · exact c_go_1 hT hS hc hl hiz hj h19 kt kf
  · exact c_go_2 hT hS hc hl hiz hj h19 kt kf
  · exact c_go_3 hT hS hc hl hiz hj h19 kt kf
  · exact c_go_4 hT hS hc hl hiz hj h19 kt kf
  · exact c_go_5 hT hS hc hl hiz hj h19 kt kf
  · exact c_go_6 hT hS hc hl hiz hj h19 kt kf

set_option maxHeartbeats 4000000 in
set_option maxRecDepth 100000 in
theorem l_X8_ff {d : Nat} {S : aS} {Q : Option Value → aS → Prop} {tx kk ii m : Nat} {ln len : Int32} {f : Nat → Int32} (hT : S[tx]? = some (.inr (8, [.ref (2 + 2 * kk), .int (nI ii), .int (nI m)]))) (hS : S[2 + 2 * kk]? = some (.inr (5, [.ref (3 + 2 * kk), .int ln, .int len]))) (hc : S[3 + 2 * kk]? = some (iA 60 f)) (hl : 0 ≤ len.toInt ∧ len.toInt ≤ 60) (hiz : (ii : Int) + m ≤ len.toInt) (kf : ∀ p, FFa (fun y => f (ii + y)) m p → Q (some (.int (nI p))) S) (ks : WHa (fun y => f (ii + y)) m → Q (some (.int (-9))) S)  : ∀ (t i : Nat) (hin : ∀ y, y < i → okc (fun y => f (ii + y)) m y), i + t = m → Ev none mX8_firstFault (d + 5) 0 2 [some (.ref tx), some (.int (nI i))] [] S Q := by
  intro t
  induction t with
  | zero =>
    intro i hin hi
    have hi : i = m := by omega
    rw [hi] at hin
    refine Ev_iload_n dX8_firstFault_2 rfl ?_
    refine Ev_aload_n dX8_firstFault_3 rfl ?_
    refine Ev_get dX8_firstFault_4 fg_X8_19_8 hT rfl ?_
    refine Ev_icmp_ge dX8_firstFault_7 (fun _ => ?_) (fun c => absurd ((nle (by omega) (by omega)).mpr (by omega)) c)
    refine Ev_aload_n dX8_firstFault_26 rfl ?_
    refine Ev_get dX8_firstFault_27 fg_X8_19_8 hT rfl ?_
    refine Ev_bipush (v := 9) dX8_firstFault_30 (by decide) ?_
    refine Ev_icmp_lt dX8_firstFault_32 (fun c1 => ?_) (fun c1 => ?_)
    · skip
      have c1 : m < 9 := (nlt (a := m) (b := 9) (by omega) (by omega)).mp c1
      refine Ev_iconst (v := 0) dX8_firstFault_51 (by decide) ?_
      refine Ev_istore_n dX8_firstFault_52 rfl ?_
      refine Ev_iload_n dX8_firstFault_53 rfl ?_
      refine Ev_if_eq dX8_firstFault_54 (fun _ => ?_) (fun c => absurd (by decide) c)
      refine Ev_aload_n dX8_firstFault_62 rfl ?_
      refine Ev_get dX8_firstFault_63 fg_X8_19_8 hT rfl ?_
      refine Ev_iret dX8_firstFault_66 rfl rfl ?_
      exact kf m ⟨hin, fun z => absurd (okc_lt z) (by omega), Nat.le_refl _, fun _ => by omega⟩
    · skip
      have c1 : ¬ (m < 9) := fun z => c1 ((nlt (a := m) (b := 9) (by omega) (by omega)).mpr z)
      refine Ev_aload_n dX8_firstFault_35 rfl ?_
      refine Ev_get dX8_firstFault_36 fg_X8_19_8 hT rfl ?_
      refine Ev_iconst (v := 2) dX8_firstFault_39 (by decide) ?_
      refine Ev_isub dX8_firstFault_40 ?_
      refine Ev_topi (y := nI (m - 2)) (nsub (b := 2) (by omega)) ?_
      refine Ev_bipush (v := 7) dX8_firstFault_41 (by decide) ?_
      refine Ev_irem dX8_firstFault_43 (by decide) ?_
      refine Ev_topi (y := nI ((m - 2) % 7)) (pk_rem (d := 7) (by omega) (by decide) (by decide)) ?_
      refine Ev_if_ne dX8_firstFault_44 (fun c2 => ?_) (fun c2 => ?_)
      · skip
        have c2 : ¬ (((m - 2) % 7) = 0) := fun z => c2 ((nIinj (a := (m - 2) % 7) (b := 0) (by omega) (by omega)).mpr z)
        refine Ev_iconst (v := 0) dX8_firstFault_51 (by decide) ?_
        refine Ev_istore_n dX8_firstFault_52 rfl ?_
        refine Ev_iload_n dX8_firstFault_53 rfl ?_
        refine Ev_if_eq dX8_firstFault_54 (fun _ => ?_) (fun c => absurd (by decide) c)
        refine Ev_aload_n dX8_firstFault_62 rfl ?_
        refine Ev_get dX8_firstFault_63 fg_X8_19_8 hT rfl ?_
        refine Ev_iret dX8_firstFault_66 rfl rfl ?_
        exact kf m ⟨hin, fun z => absurd (okc_lt z) (by omega), Nat.le_refl _, fun _ => by omega⟩
      · skip
        have c2 : ((m - 2) % 7) = 0 := (nIinj (a := (m - 2) % 7) (b := 0) (by omega) (by omega)).mp c2
        refine Ev_iconst (v := 1) dX8_firstFault_47 (by decide) ?_
        refine Ev_goto dX8_firstFault_48 ?_
        refine Ev_istore_n dX8_firstFault_52 rfl ?_
        refine Ev_iload_n dX8_firstFault_53 rfl ?_
        refine Ev_if_eq dX8_firstFault_54 (fun c => absurd c (by decide)) (fun _ => ?_)
        refine Ev_bipush (v := (-9)) dX8_firstFault_57 (by decide) ?_
        refine Ev_goto dX8_firstFault_59 ?_
        refine Ev_iret dX8_firstFault_66 rfl rfl ?_
        exact ks ⟨hin, by omega, by omega⟩
  | succ t ih =>
    intro i hin hi
    refine Ev_iload_n dX8_firstFault_2 rfl ?_
    refine Ev_aload_n dX8_firstFault_3 rfl ?_
    refine Ev_get dX8_firstFault_4 fg_X8_19_8 hT rfl ?_
    refine Ev_icmp_ge dX8_firstFault_7 (fun c => absurd c (fun z => absurd ((nle (by omega) (by omega)).mp z) (by omega))) (fun _ => ?_)
    refine Ev_aload_n dX8_firstFault_10 rfl ?_
    refine Ev_iload_n dX8_firstFault_11 rfl ?_
    refine Ev_callV (bc := 0) (b := 0) dX8_firstFault_12 cv_X8_22 rfl hT (Nat.le_of_ble_eq_true rfl) (by omega) ?_
    refine c_X8_goesOn hT hS hc hl hiz (p := i) (by omega) (fun _ => hin 1 (by omega)) (fun g9 => ?_) (fun g9 => ?_)
    · skip
      refine Ev_if_ne dX8_firstFault_15 (fun _ => ?_) (fun c => absurd c (by decide))
      refine Ev_iinc (v := nI (i + 1)) dX8_firstFault_20 rfl (nI_1 _) rfl ?_
      refine Ev_goto dX8_firstFault_23 ?_
      exact ih (i + 1) (fun y hy => by by_cases e : y = i; (subst e; exact g9); exact hin y (by omega)) (by omega)
    · skip
      refine Ev_if_ne dX8_firstFault_15 (fun c => absurd (by decide) c) (fun _ => ?_)
      refine Ev_iload_n dX8_firstFault_18 rfl ?_
      refine Ev_iret dX8_firstFault_19 rfl rfl ?_
      exact kf i ⟨hin, g9, by omega, fun z => by omega⟩

set_option maxHeartbeats 4000000 in
set_option maxRecDepth 100000 in
theorem c_X8_firstFault {d : Nat} {S : aS} {Q : Option Value → aS → Prop} {tx kk ii m : Nat} {ln len : Int32} {f : Nat → Int32} (hT : S[tx]? = some (.inr (8, [.ref (2 + 2 * kk), .int (nI ii), .int (nI m)]))) (hS : S[2 + 2 * kk]? = some (.inr (5, [.ref (3 + 2 * kk), .int ln, .int len]))) (hc : S[3 + 2 * kk]? = some (iA 60 f)) (hl : 0 ≤ len.toInt ∧ len.toInt ≤ 60) (hiz : (ii : Int) + m ≤ len.toInt) (kf : ∀ p, FFa (fun y => f (ii + y)) m p → Q (some (.int (nI p))) S) (ks : WHa (fun y => f (ii + y)) m → Q (some (.int (-9))) S)  : Mth mX8_firstFault (d + 5) 0 [.ref tx] S Q := by
  refine Mth_of (by decide) rfl ?_
  refine Ev_iconst (v := 0) dX8_firstFault_0 (by decide) ?_
  refine Ev_istore_n dX8_firstFault_1 rfl ?_
  exact l_X8_ff hT hS hc hl hiz kf ks m 0 (fun y hy => absurd hy (Nat.not_lt_zero y)) (by omega)

