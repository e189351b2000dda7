/-! ===== net, of the reference ===== -/
set_option maxHeartbeats 4000000 in
set_option maxRecDepth 100000 in
theorem c_X12_net_unk {d : Nat} {S : aS} {Q : Option Value → aS → Prop} {flt du lw fr ra rp rs ea dp bm rd tr : Int32} {bi : Int64} {pl n cs : Nat} {G : Nat → Nat → Nat} (hg : GD pl n G) (hcs : cs < 512) (hM : S[31]? = some (mo flt (nI pl) (nI n) du lw fr (nI cs) ra rp rs ea dp bm bi rd tr)) (hG : MN S n G) {x : Int32} (hk : ¬ (0 ≤ x.toInt ∧ x.toInt ≤ 3)) {w i n9 : Int32} (k : Q (some (.int (-1))) (S.set 31 (mo 0 (nI pl) (nI n) du lw fr (nI cs) ra rp rs ea dp bm bi rd tr))) : Mth mX12_net (d + 5) 0 [.ref 31, .int x, .int w, .int i, .int n9] S Q := by
  refine Mth_of (by decide) rfl ?_
  refine Ev_iload_n dX12_net_0 rfl ?_
  refine Ev_callS (bc := 0) (b := 0) dX12_net_1 cs_X12_133 rfl (Nat.le_of_ble_eq_true rfl) (by omega) ?_
  refine c_X12_noSheet (fun _ => ?_) (fun q => absurd q hk)
  refine Ev_if_eq dX12_net_4 (fun c => absurd c (by decide)) (fun _ => ?_)
  refine Ev_aload_n dX12_net_7 rfl ?_
  refine Ev_iconst (v := (-1)) dX12_net_8 (by decide) ?_
  refine Ev_callV (bc := 0) (b := 0) dX12_net_9 cv_X12_137 rfl hM (Nat.le_of_ble_eq_true rfl) (by omega) ?_
  refine c_X12_refused hM ?_
  refine Ev_iret dX12_net_12 rfl rfl ?_
  exact k

set_option maxHeartbeats 4000000 in
set_option maxRecDepth 100000 in
theorem c_X12_net_lane {d : Nat} {S : aS} {Q : Option Value → aS → Prop} {flt du lw fr ra rp rs ea dp bm rd tr : Int32} {bi : Int64} {pl n cs : Nat} {G : Nat → Nat → Nat} (hg : GD pl n G) (hcs : cs < 512) (hM : S[31]? = some (mo flt (nI pl) (nI n) du lw fr (nI cs) ra rp rs ea dp bm bi rd tr)) (hG : MN S n G) {kk : Nat} (hk : kk < 4) {w i n9 : Int32} (hw : ¬ (0 ≤ w.toInt ∧ w.toInt ≤ 2)) (k : Q (some (.int (-2))) (S.set 31 (mo 0 (nI pl) (nI n) du lw fr (nI cs) ra rp rs ea dp bm bi rd tr))) : Mth mX12_net (d + 5) 0 [.ref 31, .int (nI kk), .int w, .int i, .int n9] S Q := by
  refine Mth_of (by decide) rfl ?_
  refine Ev_iload_n dX12_net_0 rfl ?_
  refine Ev_callS (bc := 0) (b := 0) dX12_net_1 cs_X12_133 rfl (Nat.le_of_ble_eq_true rfl) (by omega) ?_
  refine c_X12_noSheet (fun q => absurd q (not_not_intro (by rw [nIt (by omega)]; omega))) (fun _ => ?_)
  refine Ev_if_eq dX12_net_4 (fun _ => ?_) (fun c => absurd (by decide) c)
  refine Ev_iload_n dX12_net_13 rfl ?_
  refine Ev_i2l dX12_net_14 ?_
  refine Ev_lconst (v := 0) dX12_net_15 (by decide) ?_
  refine Ev_ldc2 dX12_net_16 wl_X12_140 ?_
  refine Ev_callS (bc := 0) (b := 0) dX12_net_19 cs_X12_97 rfl (Nat.le_of_ble_eq_true rfl) (by omega) ?_
  refine c_X12_in (x := _) (y := 0) (z := 2) (x64 _) rfl rfl (fun q => absurd q hw) (fun _ => ?_)
  refine Ev_if_ne dX12_net_22 (fun c => absurd (by decide) c) (fun _ => ?_)
  refine Ev_aload_n dX12_net_25 rfl ?_
  refine Ev_bipush (v := (-2)) dX12_net_26 (by decide) ?_
  refine Ev_callV (bc := 0) (b := 0) dX12_net_28 cv_X12_137 rfl hM (Nat.le_of_ble_eq_true rfl) (by omega) ?_
  refine c_X12_refused hM ?_
  refine Ev_iret dX12_net_31 rfl rfl ?_
  exact k

set_option maxHeartbeats 4000000 in
set_option maxRecDepth 100000 in
theorem c_X12_net_cast {d : Nat} {S : aS} {Q : Option Value → aS → Prop} {flt du lw fr ra rp rs ea dp bm rd tr : Int32} {bi : Int64} {pl n cs : Nat} {G : Nat → Nat → Nat} (hg : GD pl n G) (hcs : cs < 512) (hM : S[31]? = some (mo flt (nI pl) (nI n) du lw fr (nI cs) ra rp rs ea dp bm bi rd tr)) (hG : MN S n G) {fs fl fc : Nat → Int32} (hs : S[52]? = some (iA 4 fs)) (hl : S[53]? = some (iA 4 fl)) (hc : S[54]? = some (iA 240 fc)) {kk : Nat} (hk : kk < 4) {z : Int} (hz : fs kk = iZ z) (hzr : -1 ≤ z ∧ z ≤ 60) {w i n9 : Int32} (hw : 0 ≤ w.toInt ∧ w.toInt ≤ 2) (hn : 0 ≤ z) (hne : ¬ fl kk = w) (k : Q (some (.int (-12))) (S.set 31 (mo 2 (nI pl) (nI n) du lw fr (nI cs) ra rp rs ea dp bm bi rd tr))) : Mth mX12_net (d + 5) 0 [.ref 31, .int (nI kk), .int w, .int i, .int n9] S Q := by
  have hn9 := hg.2.1
  have hp7 := hg.1
  refine Mth_of (by decide) rfl ?_
  refine Ev_iload_n dX12_net_0 rfl ?_
  refine Ev_callS (bc := 0) (b := 0) dX12_net_1 cs_X12_133 rfl (Nat.le_of_ble_eq_true rfl) (by omega) ?_
  refine c_X12_noSheet (fun q => absurd q (not_not_intro (by rw [nIt (by omega)]; omega))) (fun _ => ?_)
  refine Ev_if_eq dX12_net_4 (fun _ => ?_) (fun c => absurd (by decide) c)
  refine Ev_iload_n dX12_net_13 rfl ?_
  refine Ev_i2l dX12_net_14 ?_
  refine Ev_lconst (v := 0) dX12_net_15 (by decide) ?_
  refine Ev_ldc2 dX12_net_16 wl_X12_140 ?_
  refine Ev_callS (bc := 0) (b := 0) dX12_net_19 cs_X12_97 rfl (Nat.le_of_ble_eq_true rfl) (by omega) ?_
  refine c_X12_in (x := _) (y := 0) (z := 2) (x64 _) rfl rfl (fun _ => ?_) (fun q => absurd hw q)
  refine Ev_if_ne dX12_net_22 (fun _ => ?_) (fun c => absurd c (by decide))
  refine Ev_aload_n dX12_net_32 rfl ?_
  refine Ev_iload_n dX12_net_33 rfl ?_
  refine Ev_iload_n dX12_net_34 rfl ?_
  refine Ev_iload_n dX12_net_35 rfl ?_
  refine Ev_iload dX12_net_36 rfl ?_
  refine Ev_i2l dX12_net_38 ?_
  refine Ev_callV (bc := 0) (b := 0) dX12_net_39 cv_X12_142 rfl hM (Nat.le_of_ble_eq_true rfl) (by omega) ?_
  refine c_X12_barred_cast (y := n9.toInt) hM hs hl hc hk hz hzr (x64 _) (by have := xr32 n9; omega) hn hne ?_
  refine Ev_istore dX12_net_42 rfl ?_
  refine Ev_iload dX12_net_44 rfl ?_
  refine Ev_if_ge dX12_net_46 (fun c => absurd c (by decide)) (fun _ => ?_)
  refine Ev_iload dX12_net_49 rfl ?_
  refine Ev_iret dX12_net_51 rfl rfl ?_
  exact k

set_option maxHeartbeats 4000000 in
set_option maxRecDepth 100000 in
theorem c_X12_net_n {d : Nat} {S : aS} {Q : Option Value → aS → Prop} {flt du lw fr ra rp rs ea dp bm rd tr : Int32} {bi : Int64} {pl n cs : Nat} {G : Nat → Nat → Nat} (hg : GD pl n G) (hcs : cs < 512) (hM : S[31]? = some (mo flt (nI pl) (nI n) du lw fr (nI cs) ra rp rs ea dp bm bi rd tr)) (hG : MN S n G) {fs fl fc : Nat → Int32} (hs : S[52]? = some (iA 4 fs)) (hl : S[53]? = some (iA 4 fl)) (hc : S[54]? = some (iA 240 fc)) {kk : Nat} (hk : kk < 4) {z : Int} (hz : fs kk = iZ z) (hzr : -1 ≤ z ∧ z ≤ 60) {w i n9 : Int32} (hw : 0 ≤ w.toInt ∧ w.toInt ≤ 2) (hn : z < 0) (k : Q (some (.int (-11))) (S.set 31 (mo 1 (nI pl) (nI n) du lw fr (nI cs) ra rp rs ea dp bm bi rd tr))) : Mth mX12_net (d + 5) 0 [.ref 31, .int (nI kk), .int w, .int i, .int n9] S Q := by
  have hn9 := hg.2.1
  have hp7 := hg.1
  refine Mth_of (by decide) rfl ?_
  refine Ev_iload_n dX12_net_0 rfl ?_
  refine Ev_callS (bc := 0) (b := 0) dX12_net_1 cs_X12_133 rfl (Nat.le_of_ble_eq_true rfl) (by omega) ?_
  refine c_X12_noSheet (fun q => absurd q (not_not_intro (by rw [nIt (by omega)]; omega))) (fun _ => ?_)
  refine Ev_if_eq dX12_net_4 (fun _ => ?_) (fun c => absurd (by decide) c)
  refine Ev_iload_n dX12_net_13 rfl ?_
  refine Ev_i2l dX12_net_14 ?_
  refine Ev_lconst (v := 0) dX12_net_15 (by decide) ?_
  refine Ev_ldc2 dX12_net_16 wl_X12_140 ?_
  refine Ev_callS (bc := 0) (b := 0) dX12_net_19 cs_X12_97 rfl (Nat.le_of_ble_eq_true rfl) (by omega) ?_
  refine c_X12_in (x := _) (y := 0) (z := 2) (x64 _) rfl rfl (fun _ => ?_) (fun q => absurd hw q)
  refine Ev_if_ne dX12_net_22 (fun _ => ?_) (fun c => absurd c (by decide))
  refine Ev_aload_n dX12_net_32 rfl ?_
  refine Ev_iload_n dX12_net_33 rfl ?_
  refine Ev_iload_n dX12_net_34 rfl ?_
  refine Ev_iload_n dX12_net_35 rfl ?_
  refine Ev_iload dX12_net_36 rfl ?_
  refine Ev_i2l dX12_net_38 ?_
  refine Ev_callV (bc := 0) (b := 0) dX12_net_39 cv_X12_142 rfl hM (Nat.le_of_ble_eq_true rfl) (by omega) ?_
  refine c_X12_barred_n (y := n9.toInt) hM hs hl hc hk hz hzr (x64 _) (by have := xr32 n9; omega) hn ?_
  refine Ev_istore dX12_net_42 rfl ?_
  refine Ev_iload dX12_net_44 rfl ?_
  refine Ev_if_ge dX12_net_46 (fun c => absurd c (by decide)) (fun _ => ?_)
  refine Ev_iload dX12_net_49 rfl ?_
  refine Ev_iret dX12_net_51 rfl rfl ?_
  exact k

set_option maxHeartbeats 4000000 in
set_option maxRecDepth 100000 in
theorem c_X12_net_size {d : Nat} {S : aS} {Q : Option Value → aS → Prop} {flt du lw fr ra rp rs ea dp bm rd tr : Int32} {bi : Int64} {pl n cs : Nat} {G : Nat → Nat → Nat} (hg : GD pl n G) (hcs : cs < 512) (hM : S[31]? = some (mo flt (nI pl) (nI n) du lw fr (nI cs) ra rp rs ea dp bm bi rd tr)) (hG : MN S n G) {fs fl fc : Nat → Int32} (hs : S[52]? = some (iA 4 fs)) (hl : S[53]? = some (iA 4 fl)) (hc : S[54]? = some (iA 240 fc)) {kk : Nat} (hk : kk < 4) {z : Int} (hz : fs kk = iZ z) (hzr : -1 ≤ z ∧ z ≤ 60) {w i n9 : Int32} (hw : 0 ≤ w.toInt ∧ w.toInt ≤ 2) (hn : 0 ≤ z) (heq : fl kk = w) (hs4 : n9.toInt < 0) (k : Q (some (.int (-14))) (S.set 31 (mo 4 (nI pl) (nI n) du lw fr (nI cs) ra rp rs ea dp bm bi rd tr))) : Mth mX12_net (d + 5) 0 [.ref 31, .int (nI kk), .int w, .int i, .int n9] S Q := by
  have hn9 := hg.2.1
  have hp7 := hg.1
  refine Mth_of (by decide) rfl ?_
  refine Ev_iload_n dX12_net_0 rfl ?_
  refine Ev_callS (bc := 0) (b := 0) dX12_net_1 cs_X12_133 rfl (Nat.le_of_ble_eq_true rfl) (by omega) ?_
  refine c_X12_noSheet (fun q => absurd q (not_not_intro (by rw [nIt (by omega)]; omega))) (fun _ => ?_)
  refine Ev_if_eq dX12_net_4 (fun _ => ?_) (fun c => absurd (by decide) c)
  refine Ev_iload_n dX12_net_13 rfl ?_
  refine Ev_i2l dX12_net_14 ?_
  refine Ev_lconst (v := 0) dX12_net_15 (by decide) ?_
  refine Ev_ldc2 dX12_net_16 wl_X12_140 ?_
  refine Ev_callS (bc := 0) (b := 0) dX12_net_19 cs_X12_97 rfl (Nat.le_of_ble_eq_true rfl) (by omega) ?_
  refine c_X12_in (x := _) (y := 0) (z := 2) (x64 _) rfl rfl (fun _ => ?_) (fun q => absurd hw q)
  refine Ev_if_ne dX12_net_22 (fun _ => ?_) (fun c => absurd c (by decide))
  refine Ev_aload_n dX12_net_32 rfl ?_
  refine Ev_iload_n dX12_net_33 rfl ?_
  refine Ev_iload_n dX12_net_34 rfl ?_
  refine Ev_iload_n dX12_net_35 rfl ?_
  refine Ev_iload dX12_net_36 rfl ?_
  refine Ev_i2l dX12_net_38 ?_
  refine Ev_callV (bc := 0) (b := 0) dX12_net_39 cv_X12_142 rfl hM (Nat.le_of_ble_eq_true rfl) (by omega) ?_
  refine c_X12_barred_size (y := n9.toInt) hM hs hl hc hk hz hzr (x64 _) (by have := xr32 n9; omega) hn heq hs4 ?_
  refine Ev_istore dX12_net_42 rfl ?_
  refine Ev_iload dX12_net_44 rfl ?_
  refine Ev_if_ge dX12_net_46 (fun c => absurd c (by decide)) (fun _ => ?_)
  refine Ev_iload dX12_net_49 rfl ?_
  refine Ev_iret dX12_net_51 rfl rfl ?_
  exact k

set_option maxHeartbeats 4000000 in
set_option maxRecDepth 100000 in
theorem c_X12_net_ix {d : Nat} {S : aS} {Q : Option Value → aS → Prop} {flt du lw fr ra rp rs ea dp bm rd tr : Int32} {bi : Int64} {pl n cs : Nat} {G : Nat → Nat → Nat} (hg : GD pl n G) (hcs : cs < 512) (hM : S[31]? = some (mo flt (nI pl) (nI n) du lw fr (nI cs) ra rp rs ea dp bm bi rd tr)) (hG : MN S n G) {fs fl fc : Nat → Int32} (hs : S[52]? = some (iA 4 fs)) (hl : S[53]? = some (iA 4 fl)) (hc : S[54]? = some (iA 240 fc)) {kk : Nat} (hk : kk < 4) {z : Int} (hz : fs kk = iZ z) (hzr : -1 ≤ z ∧ z ≤ 60) {w i n9 : Int32} (hw : 0 ≤ w.toInt ∧ w.toInt ≤ 2) (hn : 0 ≤ z) (heq : fl kk = w) (hs4 : 0 ≤ n9.toInt) (hi : ¬ (0 ≤ i.toInt ∧ i.toInt + n9.toInt ≤ z)) (k : Q (some (.int (-13))) (S.set 31 (mo 3 (nI pl) (nI n) du lw fr (nI cs) ra rp rs ea dp bm bi rd tr))) : Mth mX12_net (d + 5) 0 [.ref 31, .int (nI kk), .int w, .int i, .int n9] S Q := by
  have hn9 := hg.2.1
  have hp7 := hg.1
  refine Mth_of (by decide) rfl ?_
  refine Ev_iload_n dX12_net_0 rfl ?_
  refine Ev_callS (bc := 0) (b := 0) dX12_net_1 cs_X12_133 rfl (Nat.le_of_ble_eq_true rfl) (by omega) ?_
  refine c_X12_noSheet (fun q => absurd q (not_not_intro (by rw [nIt (by omega)]; omega))) (fun _ => ?_)
  refine Ev_if_eq dX12_net_4 (fun _ => ?_) (fun c => absurd (by decide) c)
  refine Ev_iload_n dX12_net_13 rfl ?_
  refine Ev_i2l dX12_net_14 ?_
  refine Ev_lconst (v := 0) dX12_net_15 (by decide) ?_
  refine Ev_ldc2 dX12_net_16 wl_X12_140 ?_
  refine Ev_callS (bc := 0) (b := 0) dX12_net_19 cs_X12_97 rfl (Nat.le_of_ble_eq_true rfl) (by omega) ?_
  refine c_X12_in (x := _) (y := 0) (z := 2) (x64 _) rfl rfl (fun _ => ?_) (fun q => absurd hw q)
  refine Ev_if_ne dX12_net_22 (fun _ => ?_) (fun c => absurd c (by decide))
  refine Ev_aload_n dX12_net_32 rfl ?_
  refine Ev_iload_n dX12_net_33 rfl ?_
  refine Ev_iload_n dX12_net_34 rfl ?_
  refine Ev_iload_n dX12_net_35 rfl ?_
  refine Ev_iload dX12_net_36 rfl ?_
  refine Ev_i2l dX12_net_38 ?_
  refine Ev_callV (bc := 0) (b := 0) dX12_net_39 cv_X12_142 rfl hM (Nat.le_of_ble_eq_true rfl) (by omega) ?_
  refine c_X12_barred_ix (y := n9.toInt) hM hs hl hc hk hz hzr (x64 _) (by have := xr32 n9; omega) hn heq hs4 hi ?_
  refine Ev_istore dX12_net_42 rfl ?_
  refine Ev_iload dX12_net_44 rfl ?_
  refine Ev_if_ge dX12_net_46 (fun c => absurd c (by decide)) (fun _ => ?_)
  refine Ev_iload dX12_net_49 rfl ?_
  refine Ev_iret dX12_net_51 rfl rfl ?_
  exact k

def FrV (S S2 : aS) : Prop := ∀ a, ¬ (30 < a ∧ a < 44) → S2[a]? = S[a]?
theorem FrV.st {a : Nat} {S0 S : aS} {c : aE} (h : FrV S0 S) (ha : 30 < a ∧ a < 44) : FrV S0 (S.set a c) := by
  intro b h1
  rw [List.getElem?_set_ne (by omega)]
  exact h b h1
theorem FrV.of {S0 S : aS} (h : FrN S0 S) : FrV S0 S := fun b h1 => h b (by omega) (by omega)
theorem FrV.at {a : Nat} {S0 S : aS} {c : aE} (h : FrV S0 S) (h0 : S0[a]? = some c) (h1 : ¬ (30 < a ∧ a < 44)) : S[a]? = some c := (h a h1).trans h0
theorem upd_cp {h : Nat → Int32} {c : Nat → Int32} {m f i : Nat} (hh : ∀ x, x < i → h x = nI (tG c m f x)) : ∀ x, x < i + 1 → upd h i (nI (tG c m f i)) x = nI (tG c m f x) := by
  intro x hx
  by_cases e : x = i
  · subst e; rw [upd_s]
  · rw [upd_n _ _ e]; exact hh x (by omega)
theorem AR.set {S : aS} {c : Nat → Int32} {m j a : Nat} {e : aE} (h : AR S c m j) (ha : a < 38) : AR (S.set a e) c m j := by
  intro f hf
  obtain ⟨g, h1, h2⟩ := h f hf
  exact ⟨g, gn (by omega) h1, h2⟩
/-- the first i stretches' numbers are copied -/
def CP (S : aS) (c : Nat → Int32) (m i : Nat) : Prop := ∀ f, f < 6 → ∃ h : Nat → Int32, S[32 + f]? = some (iA 9 h) ∧ ∀ x, x < i → h x = nI (tG c m f x)
theorem CP.mn {S : aS} {c : Nat → Int32} {m n : Nat} (h : CP S c m n) : MN S n (tG c m) := h
theorem CP.st {S : aS} {c : Nat → Int32} {m i : Nat} {e : aE} (h : CP S c m i) : CP (S.set 31 e) c m i := by
  intro f hf
  obtain ⟨g, h1, h2⟩ := h f hf
  exact ⟨g, gn (by omega) h1, h2⟩

set_option maxHeartbeats 4000000 in
set_option maxRecDepth 100000 in
theorem l_cp {d : Nat} {S0 : aS} {Q : Option Value → aS → Prop} {flt du lw fr cl ea dp bm rd tr rp rs ra : Int32} {bi : Int64} {n m : Nat} {c : Nat → Int32} {x1 x2 x3 x4 x5 : Int32} (hn9 : n ≤ 9) (k : ∀ S, FrV S0 S → S[31]? = some (mo flt (nI (tP c m)) (nI n) du lw fr cl ra rp rs ea dp bm bi rd tr) → AR S c m n → CP S c m n → Ev none mX12_net (d + 5) 0 197 [some (.ref 31), some (.int x1), some (.int x2), some (.int x3), some (.int x4), some (.int x5), none] [] S Q) : ∀ (t i : Nat) (S : aS), i + t = n → FrV S0 S → S[31]? = some (mo flt (nI (tP c m)) (nI n) du lw fr cl ra rp rs ea dp bm bi rd tr) → AR S c m n → CP S c m i → Ev none mX12_net (d + 5) 0 98 [some (.ref 31), some (.int x1), some (.int x2), some (.int x3), some (.int x4), some (.int x5), some (.int (nI i))] [] S Q := by
  intro t
  induction t with
  | zero =>
    intro i S hi hF h31 hA hcp
    have hi9 : i = n := by omega
    have hcp0 := hcp
    obtain ⟨h0, a0, b0⟩ := hcp0 0 (by decide)
    obtain ⟨g0, p0, q0⟩ := hA 0 (by decide)
    obtain ⟨h1, a1, b1⟩ := hcp0 1 (by decide)
    obtain ⟨g1, p1, q1⟩ := hA 1 (by decide)
    obtain ⟨h2, a2, b2⟩ := hcp0 2 (by decide)
    obtain ⟨g2, p2, q2⟩ := hA 2 (by decide)
    obtain ⟨h3, a3, b3⟩ := hcp0 3 (by decide)
    obtain ⟨g3, p3, q3⟩ := hA 3 (by decide)
    obtain ⟨h4, a4, b4⟩ := hcp0 4 (by decide)
    obtain ⟨g4, p4, q4⟩ := hA 4 (by decide)
    obtain ⟨h5, a5, b5⟩ := hcp0 5 (by decide)
    obtain ⟨g5, p5, q5⟩ := hA 5 (by decide)
    refine Ev_iload dX12_net_98 rfl ?_
    refine Ev_aload_n dX12_net_100 rfl ?_
    refine Ev_get dX12_net_101 fg_X12_101_12 h31 rfl ?_
    refine Ev_icmp_ge dX12_net_104 (fun _ => ?_) (fun c => absurd ((nle (by omega) (by omega)).mpr (by omega)) c)
    refine Ev_loc (la2 := [some (.ref 31), some (.int x1), some (.int x2), some (.int x3), some (.int x4), some (.int x5), none]) ⟨rfl, ⟨rfl, ⟨rfl, ⟨rfl, ⟨rfl, ⟨rfl, trivial⟩⟩⟩⟩⟩⟩ ?_
    rw [hi9] at hcp
    exact k S hF h31 hA hcp
  | succ t ih =>
    intro i S hi hF h31 hA hcp
    obtain ⟨h0, a0, b0⟩ := hcp 0 (by decide)
    obtain ⟨g0, p0, q0⟩ := hA 0 (by decide)
    obtain ⟨h1, a1, b1⟩ := hcp 1 (by decide)
    obtain ⟨g1, p1, q1⟩ := hA 1 (by decide)
    obtain ⟨h2, a2, b2⟩ := hcp 2 (by decide)
    obtain ⟨g2, p2, q2⟩ := hA 2 (by decide)
    obtain ⟨h3, a3, b3⟩ := hcp 3 (by decide)
    obtain ⟨g3, p3, q3⟩ := hA 3 (by decide)
    obtain ⟨h4, a4, b4⟩ := hcp 4 (by decide)
    obtain ⟨g4, p4, q4⟩ := hA 4 (by decide)
    obtain ⟨h5, a5, b5⟩ := hcp 5 (by decide)
    obtain ⟨g5, p5, q5⟩ := hA 5 (by decide)
    refine Ev_iload dX12_net_98 rfl ?_
    refine Ev_aload_n dX12_net_100 rfl ?_
    refine Ev_get dX12_net_101 fg_X12_101_12 h31 rfl ?_
    refine Ev_icmp_ge dX12_net_104 (fun c => absurd c (fun z => absurd ((nle (by omega) (by omega)).mp z) (by omega))) (fun _ => ?_)
    refine Ev_aload_n dX12_net_107 rfl ?_
    refine Ev_get dX12_net_108 fg_X12_7_12 h31 rfl ?_
    refine Ev_iload dX12_net_111 rfl ?_
    refine Ev_aload_n dX12_net_113 rfl ?_
    refine Ev_get dX12_net_114 fg_X12_28_12 h31 rfl ?_
    refine Ev_iload dX12_net_117 rfl ?_
    refine Ev_ialoadN (j := i) dX12_net_119 p0 (by omega) (by decide) ?_
    refine Ev_topi (y := nI (tG c m 0 i)) (q0 _ (by omega)) ?_
    refine Ev_iastoreN (j := i) dX12_net_120 a0 (by omega) (by decide) ?_
    refine Ev_aload_n dX12_net_121 rfl ?_
    refine Ev_get dX12_net_122 fg_X12_13_12 (gn (by decide) h31) rfl ?_
    refine Ev_iload dX12_net_125 rfl ?_
    refine Ev_aload_n dX12_net_127 rfl ?_
    refine Ev_get dX12_net_128 fg_X12_31_12 (gn (by decide) h31) rfl ?_
    refine Ev_iload dX12_net_131 rfl ?_
    refine Ev_ialoadN (j := i) dX12_net_133 (gn (by decide) p1) (by omega) (by decide) ?_
    refine Ev_topi (y := nI (tG c m 1 i)) (q1 _ (by omega)) ?_
    refine Ev_iastoreN (j := i) dX12_net_134 (gn (by decide) a1) (by omega) (by decide) ?_
    refine Ev_aload_n dX12_net_135 rfl ?_
    refine Ev_get dX12_net_136 fg_X12_16_12 (gn (by decide) (gn (by decide) h31)) rfl ?_
    refine Ev_iload dX12_net_139 rfl ?_
    refine Ev_aload_n dX12_net_141 rfl ?_
    refine Ev_get dX12_net_142 fg_X12_34_12 (gn (by decide) (gn (by decide) h31)) rfl ?_
    refine Ev_iload dX12_net_145 rfl ?_
    refine Ev_ialoadN (j := i) dX12_net_147 (gn (by decide) (gn (by decide) p2)) (by omega) (by decide) ?_
    refine Ev_topi (y := nI (tG c m 2 i)) (q2 _ (by omega)) ?_
    refine Ev_iastoreN (j := i) dX12_net_148 (gn (by decide) (gn (by decide) a2)) (by omega) (by decide) ?_
    refine Ev_aload_n dX12_net_149 rfl ?_
    refine Ev_get dX12_net_150 fg_X12_19_12 (gn (by decide) (gn (by decide) (gn (by decide) h31))) rfl ?_
    refine Ev_iload dX12_net_153 rfl ?_
    refine Ev_aload_n dX12_net_155 rfl ?_
    refine Ev_get dX12_net_156 fg_X12_37_12 (gn (by decide) (gn (by decide) (gn (by decide) h31))) rfl ?_
    refine Ev_iload dX12_net_159 rfl ?_
    refine Ev_ialoadN (j := i) dX12_net_161 (gn (by decide) (gn (by decide) (gn (by decide) p3))) (by omega) (by decide) ?_
    refine Ev_topi (y := nI (tG c m 3 i)) (q3 _ (by omega)) ?_
    refine Ev_iastoreN (j := i) dX12_net_162 (gn (by decide) (gn (by decide) (gn (by decide) a3))) (by omega) (by decide) ?_
    refine Ev_aload_n dX12_net_163 rfl ?_
    refine Ev_get dX12_net_164 fg_X12_22_12 (gn (by decide) (gn (by decide) (gn (by decide) (gn (by decide) h31)))) rfl ?_
    refine Ev_iload dX12_net_167 rfl ?_
    refine Ev_aload_n dX12_net_169 rfl ?_
    refine Ev_get dX12_net_170 fg_X12_40_12 (gn (by decide) (gn (by decide) (gn (by decide) (gn (by decide) h31)))) rfl ?_
    refine Ev_iload dX12_net_173 rfl ?_
    refine Ev_ialoadN (j := i) dX12_net_175 (gn (by decide) (gn (by decide) (gn (by decide) (gn (by decide) p4)))) (by omega) (by decide) ?_
    refine Ev_topi (y := nI (tG c m 4 i)) (q4 _ (by omega)) ?_
    refine Ev_iastoreN (j := i) dX12_net_176 (gn (by decide) (gn (by decide) (gn (by decide) (gn (by decide) a4)))) (by omega) (by decide) ?_
    refine Ev_aload_n dX12_net_177 rfl ?_
    refine Ev_get dX12_net_178 fg_X12_25_12 (gn (by decide) (gn (by decide) (gn (by decide) (gn (by decide) (gn (by decide) h31))))) rfl ?_
    refine Ev_iload dX12_net_181 rfl ?_
    refine Ev_aload_n dX12_net_183 rfl ?_
    refine Ev_get dX12_net_184 fg_X12_43_12 (gn (by decide) (gn (by decide) (gn (by decide) (gn (by decide) (gn (by decide) h31))))) rfl ?_
    refine Ev_iload dX12_net_187 rfl ?_
    refine Ev_ialoadN (j := i) dX12_net_189 (gn (by decide) (gn (by decide) (gn (by decide) (gn (by decide) (gn (by decide) p5))))) (by omega) (by decide) ?_
    refine Ev_topi (y := nI (tG c m 5 i)) (q5 _ (by omega)) ?_
    refine Ev_iastoreN (j := i) dX12_net_190 (gn (by decide) (gn (by decide) (gn (by decide) (gn (by decide) (gn (by decide) a5))))) (by omega) (by decide) ?_
    refine Ev_iinc (v := nI (i + 1)) dX12_net_191 rfl (nI_1 _) rfl ?_
    refine Ev_goto dX12_net_194 ?_
    refine ih (i + 1) _ (by omega) ?_ ?_ (six ?_ ?_ ?_ ?_ ?_ ?_) (six ?_ ?_ ?_ ?_ ?_ ?_)
    · exact (FrV.st (FrV.st (FrV.st (FrV.st (FrV.st (FrV.st hF (by decide)) (by decide)) (by decide)) (by decide)) (by decide)) (by decide))
    · exact (gn (by decide) (gn (by decide) (gn (by decide) (gn (by decide) (gn (by decide) (gn (by decide) h31))))))
    · exact ⟨_, (gn (by decide) (gn (by decide) (gn (by decide) (gn (by decide) (gn (by decide) (gn (by decide) p0)))))), q0⟩
    · exact ⟨_, (gn (by decide) (gn (by decide) (gn (by decide) (gn (by decide) (gn (by decide) (gn (by decide) p1)))))), q1⟩
    · exact ⟨_, (gn (by decide) (gn (by decide) (gn (by decide) (gn (by decide) (gn (by decide) (gn (by decide) p2)))))), q2⟩
    · exact ⟨_, (gn (by decide) (gn (by decide) (gn (by decide) (gn (by decide) (gn (by decide) (gn (by decide) p3)))))), q3⟩
    · exact ⟨_, (gn (by decide) (gn (by decide) (gn (by decide) (gn (by decide) (gn (by decide) (gn (by decide) p4)))))), q4⟩
    · exact ⟨_, (gn (by decide) (gn (by decide) (gn (by decide) (gn (by decide) (gn (by decide) (gn (by decide) p5)))))), q5⟩
    · exact ⟨_, (gn (by decide) (gn (by decide) (gn (by decide) (gn (by decide) (gn (by decide) (gs a0)))))), upd_cp b0⟩
    · exact ⟨_, (gn (by decide) (gn (by decide) (gn (by decide) (gn (by decide) (gs (gn (by decide) a1)))))), upd_cp b1⟩
    · exact ⟨_, (gn (by decide) (gn (by decide) (gn (by decide) (gs (gn (by decide) (gn (by decide) a2)))))), upd_cp b2⟩
    · exact ⟨_, (gn (by decide) (gn (by decide) (gs (gn (by decide) (gn (by decide) (gn (by decide) a3)))))), upd_cp b3⟩
    · exact ⟨_, (gn (by decide) (gs (gn (by decide) (gn (by decide) (gn (by decide) (gn (by decide) a4)))))), upd_cp b4⟩
    · exact ⟨_, (gs (gn (by decide) (gn (by decide) (gn (by decide) (gn (by decide) (gn (by decide) a5)))))), upd_cp b5⟩

set_option maxHeartbeats 4000000 in
set_option maxRecDepth 100000 in
theorem c_X12_net_o {d : Nat} {S : aS} {Q : Option Value → aS → Prop} {flt du lw fr ra rp rs ea dp bm rd tr : Int32} {bi : Int64} {pl n cs : Nat} {G : Nat → Nat → Nat} (hg : GD pl n G) (hcs : cs < 512) (hM : S[31]? = some (mo flt (nI pl) (nI n) du lw fr (nI cs) ra rp rs ea dp bm bi rd tr)) (hG : MN S n G) {fs fl fc : Nat → Int32} (hs : S[52]? = some (iA 4 fs)) (hl : S[53]? = some (iA 4 fl)) (hc : S[54]? = some (iA 240 fc)) {kk : Nat} (hk : kk < 4) {z : Int} (hz : fs kk = iZ z) (hzr : -1 ≤ z ∧ z ≤ 60) {ii m : Nat} {w : Int32} (hw : 0 ≤ w.toInt ∧ w.toInt ≤ 2) (hn : 0 ≤ z) (heq : fl kk = w) (hiz : (ii : Int) + m ≤ z) (hA0 : AR S (fun y => fc (60 * kk + ii + y)) m 0) (kf : ∀ (p : Nat) (S2 : aS) (rp rs : Int32), FFa (fun y => fc (60 * kk + ii + y)) m p → FrN S S2 → S2[31]? = some (mo 0 (nI pl) (nI n) du lw fr (nI cs) (nI p) rp rs ea dp bm bi rd tr) → AR S2 (fun y => fc (60 * kk + ii + y)) m 0 → Q (some (.int (-100 - nI p))) S2) (ks : ∀ (S2 : aS) (ra rp rs : Int32), WHa (fun y => fc (60 * kk + ii + y)) m → FrV S S2 → S2[31]? = some (mo 0 (nI (tP (fun y => fc (60 * kk + ii + y)) m)) (nI ((m - 2) / 7)) 45 0 (-9) 0 ra rp rs ea dp bm bi 0 tr) → AR S2 (fun y => fc (60 * kk + ii + y)) m ((m - 2) / 7) → MN S2 ((m - 2) / 7) (tG (fun y => fc (60 * kk + ii + y)) m) → Q (some (.int (nI ((m - 2) / 7)))) S2)  : Mth mX12_net (d + 5) 0 [.ref 31, .int (nI kk), .int w, .int (nI ii), .int (nI m)] S Q := by
  have hn9 := hg.2.1
  have hp7 := hg.1
  refine Mth_of (by decide) rfl ?_
  refine Ev_iload_n dX12_net_0 rfl ?_
  refine Ev_callS (bc := 0) (b := 0) dX12_net_1 cs_X12_133 rfl (Nat.le_of_ble_eq_true rfl) (by omega) ?_
  refine c_X12_noSheet (fun q => absurd q (not_not_intro (by rw [nIt (by omega)]; omega))) (fun _ => ?_)
  refine Ev_if_eq dX12_net_4 (fun _ => ?_) (fun c => absurd (by decide) c)
  refine Ev_iload_n dX12_net_13 rfl ?_
  refine Ev_i2l dX12_net_14 ?_
  refine Ev_lconst (v := 0) dX12_net_15 (by decide) ?_
  refine Ev_ldc2 dX12_net_16 wl_X12_140 ?_
  refine Ev_callS (bc := 0) (b := 0) dX12_net_19 cs_X12_97 rfl (Nat.le_of_ble_eq_true rfl) (by omega) ?_
  refine c_X12_in (x := _) (y := 0) (z := 2) (x64 _) rfl rfl (fun _ => ?_) (fun q => absurd hw q)
  refine Ev_if_ne dX12_net_22 (fun _ => ?_) (fun c => absurd c (by decide))
  refine Ev_aload_n dX12_net_32 rfl ?_
  refine Ev_iload_n dX12_net_33 rfl ?_
  refine Ev_iload_n dX12_net_34 rfl ?_
  refine Ev_iload_n dX12_net_35 rfl ?_
  refine Ev_iload dX12_net_36 rfl ?_
  refine Ev_i2l dX12_net_38 ?_
  refine Ev_topl (y := lN m) (nl (by omega)) ?_
  refine Ev_callV (bc := 0) (b := 0) dX12_net_39 cv_X12_142 rfl hM (Nat.le_of_ble_eq_true rfl) (by omega) ?_
  refine c_X12_barred_o (y := (m : Int)) hM hs hl hc hk hz hzr (lN_toInt (by omega)) (by omega) hn heq (by omega) (by rw [nIt (by omega)]; omega) ?_
  refine Ev_istore dX12_net_42 rfl ?_
  refine Ev_iload dX12_net_44 rfl ?_
  refine Ev_if_ge dX12_net_46 (fun _ => ?_) (fun c => absurd (by decide) c)
  refine Ev_aload_n dX12_net_52 rfl ?_
  refine Ev_bipush (v := 60) dX12_net_53 (by decide) ?_
  refine Ev_iload_n dX12_net_55 rfl ?_
  refine Ev_imul dX12_net_56 ?_
  refine Ev_topi (y := nI (60 * kk)) (nmul _ _) ?_
  refine Ev_iload_n dX12_net_57 rfl ?_
  refine Ev_iadd dX12_net_58 ?_
  refine Ev_topi (y := nI ((60 * kk) + ii)) (nI_add _ _) ?_
  refine Ev_iload dX12_net_59 rfl ?_
  refine Ev_callV (bc := 0) (b := 0) dX12_net_61 cv_X12_146 rfl hM (Nat.le_of_ble_eq_true rfl) (by omega) ?_
  refine c_X12_readsNet (o := 60 * kk + ii) hM hc (by omega) (by omega) hA0 (fun p S2 rp2 rs2 hFF hF2 g31 gA => ?_) (fun S2 ra2 hW hF2 g31 gA => ?_)
  · skip
    refine Ev_if_ne dX12_net_64 (fun c => absurd (by decide) c) (fun _ => ?_)
    refine Ev_aload_n dX12_net_67 rfl ?_
    refine Ev_bipush (v := (-100)) dX12_net_68 (by decide) ?_
    refine Ev_aload_n dX12_net_70 rfl ?_
    refine Ev_get dX12_net_71 fg_X12_104_12 g31 rfl ?_
    refine Ev_isub dX12_net_74 ?_
    refine Ev_callV (bc := 0) (b := 0) dX12_net_75 cv_X12_137 rfl g31 (Nat.le_of_ble_eq_true rfl) (by omega) ?_
    refine c_X12_refused g31 ?_
    refine Ev_iret dX12_net_78 rfl rfl ?_
    exact kf p _ _ _ hFF (FrN.st hF2 (by decide)) (gs g31) (AR.set gA (by decide))
  · skip
    have gC : CP S2 (fun y => fc (60 * kk + ii + y)) m 0 := by
      intro f hf
      obtain ⟨h, h1, -⟩ := hG f hf
      exact ⟨h, hF2.at h1 (by omega), fun x hx => absurd hx (Nat.not_lt_zero x)⟩
    refine Ev_if_ne dX12_net_64 (fun _ => ?_) (fun c => absurd c (by decide))
    refine Ev_aload_n dX12_net_79 rfl ?_
    refine Ev_aload_n dX12_net_80 rfl ?_
    refine Ev_get dX12_net_81 fg_X12_114_12 g31 rfl ?_
    refine Ev_put dX12_net_84 fr_X12_94_12 g31 rfl rfl rfl ?_
    refine Ev_aload_n dX12_net_87 rfl ?_
    refine Ev_aload_n dX12_net_88 rfl ?_
    refine Ev_get dX12_net_89 fg_X12_111_12 (gs g31) rfl ?_
    refine Ev_put dX12_net_92 fr_X12_101_12 (gs g31) rfl rfl rfl ?_
    refine Ev_st gss ?_
    refine Ev_iconst (v := 0) dX12_net_95 (by decide) ?_
    refine Ev_istore dX12_net_96 rfl ?_
    refine l_cp (n := ((m - 2) / 7)) (c := (fun y => fc (60 * kk + ii + y))) (m := m) (S0 := S) (by omega) (fun S9 k1 k2 k3 k4 => ?_) ((m - 2) / 7) 0 _ (by omega) (FrV.st (FrV.of hF2) (by decide)) (gs g31) (AR.set gA (by decide)) (CP.st gC)
    refine Ev_aload_n dX12_net_197 rfl ?_
    refine Ev_bipush (v := 45) dX12_net_198 (by decide) ?_
    refine Ev_put dX12_net_200 fr_X12_149_12 k2 rfl rfl rfl ?_
    refine Ev_aload_n dX12_net_203 rfl ?_
    refine Ev_iconst (v := 0) dX12_net_204 (by decide) ?_
    refine Ev_put dX12_net_205 fr_X12_152_12 (gs k2) rfl rfl rfl ?_
    refine Ev_st gss ?_
    refine Ev_aload_n dX12_net_208 rfl ?_
    refine Ev_bipush (v := (-9)) dX12_net_209 (by decide) ?_
    refine Ev_put dX12_net_211 fr_X12_155_12 (gs k2) rfl rfl rfl ?_
    refine Ev_st gss ?_
    refine Ev_aload_n dX12_net_214 rfl ?_
    refine Ev_iconst (v := 0) dX12_net_215 (by decide) ?_
    refine Ev_put dX12_net_216 fr_X12_158_12 (gs k2) rfl rfl rfl ?_
    refine Ev_st gss ?_
    refine Ev_aload_n dX12_net_219 rfl ?_
    refine Ev_iconst (v := 0) dX12_net_220 (by decide) ?_
    refine Ev_put dX12_net_221 fr_X12_161_12 (gs k2) rfl rfl rfl ?_
    refine Ev_st gss ?_
    refine Ev_aload_n dX12_net_224 rfl ?_
    refine Ev_aload_n dX12_net_225 rfl ?_
    refine Ev_get dX12_net_226 fg_X12_101_12 (gs k2) rfl ?_
    refine Ev_callV (bc := 0) (b := 0) dX12_net_229 cv_X12_137 rfl (gs k2) (Nat.le_of_ble_eq_true rfl) (by omega) ?_
    refine c_X12_refused (gs k2) ?_
    refine Ev_st gss ?_
    refine Ev_iret dX12_net_232 rfl rfl ?_
    exact ks _ _ _ _ hW (FrV.st k1 (by decide)) (gs k2) (AR.set k3 (by decide)) (CP.st k4)

