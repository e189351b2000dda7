/-! ===== plain facts: stores, numbers ===== -/
theorem gs {S : aS} {a : Nat} {c0 c : aE} (h : S[a]? = some c0) : (S.set a c)[a]? = some c := List.getElem?_set_self (List.getElem?_eq_some_iff.mp h).1
theorem gn {S : aS} {a b : Nat} {c x : aE} (hn : a ≠ b) (h : S[b]? = some c) : (S.set a x)[b]? = some c := by rw [List.getElem?_set_ne hn]; exact h
theorem ga {S T : aS} {b : Nat} {c : aE} (h : S[b]? = some c) : (S ++ T)[b]? = some c := by rw [List.getElem?_append_left (List.getElem?_eq_some_iff.mp h).1]; exact h
theorem gl {S : aS} {c : aE} : (S ++ [c])[S.length]? = some c := by rw [List.getElem?_append_right (Nat.le_refl _), Nat.sub_self]; rfl
theorem gss {S : aS} {a : Nat} {c x : aE} : (S.set a c).set a x = S.set a x := List.set_set ..
theorem gc {S : aS} {a b : Nat} {c x : aE} (h : a ≠ b) : (S.set a c).set b x = (S.set b x).set a c := List.set_comm c x h
theorem gid {S : aS} {a : Nat} {c : aE} (h : S[a]? = some c) : S.set a c = S := by
  apply List.ext_getElem?
  intro i
  by_cases hi : a = i
  · subst hi; rw [gs h, h]
  · rw [List.getElem?_set_ne hi]
abbrev iA (n : Nat) (f : Nat → Int32) : aE := .inl (0, n, .inl f)
abbrev lA (n : Nat) (f : Nat → Int64) : aE := .inl (1, n, .inr (.inl f))
abbrev zA (n : Nat) (f : Nat → Int32) : aE := .inl (2, n, .inl f)
abbrev rA (t n : Nat) (f : Nat → Option Nat) : aE := .inl (t, n, .inr (.inr (.inr (.inr f))))
theorem xlt (a b : Int32) : a < b ↔ a.toInt < b.toInt := Int32.lt_iff_toInt_lt
theorem xle (a b : Int32) : a ≤ b ↔ a.toInt ≤ b.toInt := Int32.le_iff_toInt_le
theorem xeq (a b : Int32) : a = b ↔ a.toInt = b.toInt := Int32.toInt_inj.symm
theorem ylt (a b : Int64) : a < b ↔ a.toInt < b.toInt := Int64.lt_iff_toInt_lt
theorem yle (a b : Int64) : a ≤ b ↔ a.toInt ≤ b.toInt := Int64.le_iff_toInt_le
theorem yeq (a b : Int64) : a = b ↔ a.toInt = b.toInt := Int64.toInt_inj.symm
theorem xr32 (a : Int32) : -2147483648 ≤ a.toInt ∧ a.toInt ≤ 2147483647 := ⟨Int32.le_toInt a, by have := Int32.toInt_lt a; omega⟩
theorem yr64 (a : Int64) : -9223372036854775808 ≤ a.toInt ∧ a.toInt ≤ 9223372036854775807 := ⟨Int64.le_toInt a, by have := Int64.toInt_lt a; omega⟩
theorem nIt {n : Nat} (h : n < 2147483648) : (nI n).toInt = (n : Int) := nI_toInt h
theorem xadd {a b : Int32} {x y : Int} (ha : a.toInt = x) (hb : b.toInt = y) (h : -2147483648 ≤ x + y ∧ x + y ≤ 2147483647) : (a + b).toInt = x + y := by
  rw [Int32.toInt_add, ha, hb]
  exact Int.bmod_eq_of_le (by omega) (by omega)
theorem xsub {a b : Int32} {x y : Int} (ha : a.toInt = x) (hb : b.toInt = y) (h : -2147483648 ≤ x - y ∧ x - y ≤ 2147483647) : (a - b).toInt = x - y := by
  rw [Int32.toInt_sub, ha, hb]
  exact Int.bmod_eq_of_le (by omega) (by omega)
theorem xmul {a b : Int32} {x y : Int} (ha : a.toInt = x) (hb : b.toInt = y) (h : -2147483648 ≤ x * y ∧ x * y ≤ 2147483647) : (a * b).toInt = x * y := by
  rw [Int32.toInt_mul, ha, hb]
  exact Int.bmod_eq_of_le (by omega) (by omega)
theorem yadd {a b : Int64} {x y : Int} (ha : a.toInt = x) (hb : b.toInt = y) (h : -9223372036854775808 ≤ x + y ∧ x + y ≤ 9223372036854775807) : (a + b).toInt = x + y := by
  rw [Int64.toInt_add, ha, hb]
  exact Int.bmod_eq_of_le (by omega) (by omega)
theorem ysub {a b : Int64} {x y : Int} (ha : a.toInt = x) (hb : b.toInt = y) (h : -9223372036854775808 ≤ x - y ∧ x - y ≤ 9223372036854775807) : (a - b).toInt = x - y := by
  rw [Int64.toInt_sub, ha, hb]
  exact Int.bmod_eq_of_le (by omega) (by omega)
theorem ymul {a b : Int64} {x y : Int} (ha : a.toInt = x) (hb : b.toInt = y) (h : -9223372036854775808 ≤ x * y ∧ x * y ≤ 9223372036854775807) : (a * b).toInt = x * y := by
  rw [Int64.toInt_mul, ha, hb]
  exact Int.bmod_eq_of_le (by omega) (by omega)
theorem x64 (a : Int32) : a.toInt64.toInt = a.toInt := Int32.toInt_toInt64 a
/-- an index in range, by its number -/
theorem vin {i : Int32} {n : Nat} (h0 : 0 ≤ i.toInt) (h1 : i.toInt < n) : vp_in i n := vp_in_iff.mpr ⟨h0, h1⟩
theorem vinN {j n : Nat} (h : j < n) (hn : n < 2147483648) : vp_in (nI j) n := vp_in_nI h hn
theorem ncl {j : Nat} (h : j < 2147483648) : (nI j).toNatClampNeg = j := nI_clamp h
theorem toN {i : Int32} (h0 : 0 ≤ i.toInt) : i = nI i.toInt.toNat ∧ i.toNatClampNeg = i.toInt.toNat := by
  have hb := xr32 i
  refine ⟨?_, rfl⟩
  rw [xeq, nIt (by omega)]
  omega
theorem lg_lt {x y : Int64} : lg_cmp x y < 0 ↔ x.toInt < y.toInt := by
  unfold lg_cmp
  split
  · rename_i h; rw [gt_iff_lt, ylt] at h; constructor
    · intro q; exact absurd q (by decide)
    · intro q; omega
  · rename_i h
    split
    · rename_i h2; constructor
      · intro q; exact absurd q (by decide)
      · intro q; rw [h2] at q; omega
    · rename_i h2; rw [yeq] at h2; rw [gt_iff_lt, ylt] at h; constructor
      · intro _; omega
      · intro _; decide
theorem lg_eq {x y : Int64} : lg_cmp x y = 0 ↔ x.toInt = y.toInt := by
  unfold lg_cmp
  split
  · rename_i h; rw [gt_iff_lt, ylt] at h; constructor
    · intro q; exact absurd q (by decide)
    · intro q; omega
  · rename_i h
    split
    · rename_i h2; constructor
      · intro _; rw [h2]
      · intro _; rfl
    · rename_i h2; rw [yeq] at h2; constructor
      · intro q; exact absurd q (by decide)
      · intro q; exact absurd q h2
theorem lg_le {x y : Int64} : lg_cmp x y ≤ 0 ↔ x.toInt ≤ y.toInt := by
  have a := @lg_lt x y
  have b := @lg_eq x y
  have c : lg_cmp x y ≤ 0 ↔ lg_cmp x y < 0 ∨ lg_cmp x y = 0 := by
    rw [xle, xlt, xeq]
    have : (0 : Int32).toInt = 0 := rfl
    omega
  rw [c, a, b]; omega
theorem lg_ge {x y : Int64} : 0 ≤ lg_cmp x y ↔ y.toInt ≤ x.toInt := by
  have a := @lg_lt x y
  have c : 0 ≤ lg_cmp x y ↔ ¬ lg_cmp x y < 0 := by rw [xle, xlt]; have : (0 : Int32).toInt = 0 := rfl; omega
  rw [c, a]; omega
theorem lg_gt {x y : Int64} : 0 < lg_cmp x y ↔ y.toInt < x.toInt := by
  have a := @lg_le x y
  have c : 0 < lg_cmp x y ↔ ¬ lg_cmp x y ≤ 0 := by rw [xle, xlt]; have : (0 : Int32).toInt = 0 := rfl; omega
  rw [c, a]; omega
theorem sw_ne {x k : Int32} {a : Int} (hk : k.toInt = a) (h : ¬ x = k) : ¬ x.toInt = a := fun q => h ((xeq _ _).mpr (q.trans hk.symm))
theorem sw_out3 {x : Int32} (h0 : ¬ x = 0) (h1 : ¬ x = 1) (h2 : ¬ x = 2) : x.toInt < 0 ∨ 2 < x.toInt := by
  have a0 := sw_ne (a := 0) rfl h0; have a1 := sw_ne (a := 1) rfl h1; have a2 := sw_ne (a := 2) rfl h2
  omega
theorem sw_out5 {x : Int32} (h0 : ¬ x = 0) (h1 : ¬ x = 1) (h2 : ¬ x = 2) (h3 : ¬ x = 3) (h4 : ¬ x = 4) : x.toInt < 0 ∨ 4 < x.toInt := by
  have a0 := sw_ne (a := 0) rfl h0; have a1 := sw_ne (a := 1) rfl h1; have a2 := sw_ne (a := 2) rfl h2; have a3 := sw_ne (a := 3) rfl h3; have a4 := sw_ne (a := 4) rfl h4
  omega
theorem sw_out8 {x : Int32} (h0 : ¬ x = 0) (h1 : ¬ x = 1) (h2 : ¬ x = 2) (h3 : ¬ x = 3) (h4 : ¬ x = 4) (h5 : ¬ x = 5) (h6 : ¬ x = 6) (h7 : ¬ x = 7) : x.toInt < 0 ∨ 7 < x.toInt := by
  have a0 := sw_ne (a := 0) rfl h0; have a1 := sw_ne (a := 1) rfl h1; have a2 := sw_ne (a := 2) rfl h2; have a3 := sw_ne (a := 3) rfl h3; have a4 := sw_ne (a := 4) rfl h4; have a5 := sw_ne (a := 5) rfl h5; have a6 := sw_ne (a := 6) rfl h6; have a7 := sw_ne (a := 7) rfl h7
  omega
theorem sw_look2 {x k1 k2 : Int32} {a1 a2 o1 o2 dd : Int} (h1 : ¬ x = k1) (h2 : ¬ x = k2) (e1 : k1.toInt = a1) (e2 : k2.toInt = a2) : Op.lookupswitch.offset [(a1, o1), (a2, o2)] dd x.toInt = dd := by
  rw [lv_osw h1 e1, lv_osw h2 e2]
  rfl
theorem s_lo : ∀ n, n < 32 → ((nI n &&& 31).toBitVec.smod 32).toNat = n := by decide +kernel
theorem shlN {n : Nat} (j : Nat) (hj : j < 32) (h : n * 2 ^ j < 2 ^ 32) : nI n <<< (nI j &&& 31) = nI (n * 2 ^ j) := pk_shlN _ j (s_lo j hj) h
theorem shrN {n : Nat} (h : n < 2 ^ 31) (j : Nat) (hj : j < 32) : nI n >>> (nI j &&& 31) = nI (n / 2 ^ j) := pk_shrN h _ j (s_lo j hj)
theorem orN (a b : Nat) : nI a ||| nI b = nI (a ||| b) := by
  apply Int32.toBitVec_inj.1
  show BitVec.ofNat 32 a ||| BitVec.ofNat 32 b = BitVec.ofNat 32 (a ||| b)
  apply BitVec.eq_of_getLsbD_eq
  intro i hi
  simp [hi]
theorem andN (a b : Nat) : nI a &&& nI b = nI (a &&& b) := by
  apply Int32.toBitVec_inj.1
  show BitVec.ofNat 32 a &&& BitVec.ofNat 32 b = BitVec.ofNat 32 (a &&& b)
  apply BitVec.eq_of_getLsbD_eq
  intro i hi
  simp [hi]
theorem nIinj {a b : Nat} (ha : a < 2147483648) (hb : b < 2147483648) : nI a = nI b ↔ a = b := nI_eq ha hb
theorem isInN {cs j : Nat} (hc : cs < 2147483648) (hj : j < 31) : (nI cs >>> (nI j &&& 31)) &&& 1 = 1 ↔ cs.testBit j = true := by
  rw [shrN hc j (by omega), show (1 : Int32) = nI 1 from rfl, andN, nIinj, Nat.testBit_eq_decide_div_mod_eq, Nat.and_one_is_mod, decide_eq_true_eq]
  · exact Nat.lt_of_le_of_lt Nat.and_le_right (by decide)
  · decide
theorem z32_0 : (0 : Int32).toInt = 0 := rfl
theorem z32_1 : (1 : Int32).toInt = 1 := rfl
theorem z32_2 : (2 : Int32).toInt = 2 := rfl
theorem z32_3 : (3 : Int32).toInt = 3 := rfl
theorem z32_4 : (4 : Int32).toInt = 4 := rfl
theorem z32_5 : (5 : Int32).toInt = 5 := rfl
theorem z32_6 : (6 : Int32).toInt = 6 := rfl
theorem z32_7 : (7 : Int32).toInt = 7 := rfl
theorem z32_8 : (8 : Int32).toInt = 8 := rfl
theorem z32_9 : (9 : Int32).toInt = 9 := rfl
theorem z32_10 : (10 : Int32).toInt = 10 := rfl
theorem z32_12 : (12 : Int32).toInt = 12 := rfl
theorem z32_31 : (31 : Int32).toInt = 31 := rfl
theorem z32_45 : (45 : Int32).toInt = 45 := rfl
theorem z32_48 : (48 : Int32).toInt = 48 := rfl
theorem z32_57 : (57 : Int32).toInt = 57 := rfl
theorem z32_59 : (59 : Int32).toInt = 59 := rfl
theorem z32_60 : (60 : Int32).toInt = 60 := rfl
theorem z32_99 : (99 : Int32).toInt = 99 := rfl
theorem z32_100 : (100 : Int32).toInt = 100 := rfl
theorem z32_109 : (109 : Int32).toInt = 109 := rfl
theorem z32_110 : (110 : Int32).toInt = 110 := rfl
theorem z32_112 : (112 : Int32).toInt = 112 := rfl
theorem z32_115 : (115 : Int32).toInt = 115 := rfl
theorem z32_200 : (200 : Int32).toInt = 200 := rfl
theorem z32_240 : (240 : Int32).toInt = 240 := rfl
theorem z32_99999 : (99999 : Int32).toInt = 99999 := rfl
theorem z32_100000 : (100000 : Int32).toInt = 100000 := rfl
theorem z32_1000000 : (1000000 : Int32).toInt = 1000000 := rfl
theorem z32_m1 : (-1 : Int32).toInt = -1 := rfl
theorem z32_m2 : (-2 : Int32).toInt = -2 := rfl
theorem z32_m3 : (-3 : Int32).toInt = -3 := rfl
theorem z32_m4 : (-4 : Int32).toInt = -4 := rfl
theorem z32_m9 : (-9 : Int32).toInt = -9 := rfl
theorem z32_m10 : (-10 : Int32).toInt = -10 := rfl
theorem z32_m100 : (-100 : Int32).toInt = -100 := rfl
theorem z64_0 : (0 : Int64).toInt = 0 := rfl
theorem z64_1 : (1 : Int64).toInt = 1 := rfl
theorem z64_2 : (2 : Int64).toInt = 2 := rfl
theorem z64_3 : (3 : Int64).toInt = 3 := rfl
theorem z64_4 : (4 : Int64).toInt = 4 := rfl
theorem z64_5 : (5 : Int64).toInt = 5 := rfl
theorem z64_10 : (10 : Int64).toInt = 10 := rfl
theorem z64_99 : (99 : Int64).toInt = 99 := rfl
theorem z64_200 : (200 : Int64).toInt = 200 := rfl
theorem z64_2520 : (2520 : Int64).toInt = 2520 := rfl
theorem z64_m1 : (-1 : Int64).toInt = -1 := rfl
theorem Ev_st {X : Option (Nat × (Nat → Int32))} {mi : MI} {d b pc : Nat} {la : aL} {st : List Value} {S S2 : aS} {Q : Option Value → aS → Prop} (h : S = S2) (k : Ev X mi d b pc la st S2 Q) : Ev X mi d b pc la st S Q := h ▸ k
theorem Ev_ialoadN {X : Option (Nat × (Nat → Int32))} {mi : MI} {d b pc pc2 : Nat} {la : aL} {st : List Value} {S : aS} {Q : Option Value → aS → Prop} {a n j : Nat} {f : Nat → Int32} (hd : nx mi.2.1 pc (.iaload) 1 pc2) (ho : S[a]? = some (.inl (0, n, .inl f))) (hj : j < n) (hn : n < 2147483648) (k : Ev X mi d b pc2 la (.int (f j) :: st) S Q) : Ev X mi d b pc la (.int (nI j) :: .ref a :: st) S Q := by
  refine Ev_iaload hd ho (vinN hj hn) ?_
  rw [ncl (by omega)]
  exact k
theorem Ev_zaloadN {X : Option (Nat × (Nat → Int32))} {mi : MI} {d b pc pc2 : Nat} {la : aL} {st : List Value} {S : aS} {Q : Option Value → aS → Prop} {a n j : Nat} {f : Nat → Int32} (hd : nx mi.2.1 pc (.baload) 1 pc2) (ho : S[a]? = some (.inl (2, n, .inl f))) (hj : j < n) (hn : n < 2147483648) (k : Ev X mi d b pc2 la (.int (f j) :: st) S Q) : Ev X mi d b pc la (.int (nI j) :: .ref a :: st) S Q := by
  refine Ev_zaload hd ho (vinN hj hn) ?_
  rw [ncl (by omega)]
  exact k
theorem Ev_laloadN {X : Option (Nat × (Nat → Int32))} {mi : MI} {d b pc pc2 : Nat} {la : aL} {st : List Value} {S : aS} {Q : Option Value → aS → Prop} {a n j : Nat} {f : Nat → Int64} (hd : nx mi.2.1 pc (.laload) 1 pc2) (ho : S[a]? = some (.inl (1, n, .inr (.inl f)))) (hj : j < n) (hn : n < 2147483648) (k : Ev X mi d b pc2 la (.long (f j) :: st) S Q) : Ev X mi d b pc la (.int (nI j) :: .ref a :: st) S Q := by
  refine Ev_laload hd ho (vinN hj hn) ?_
  rw [ncl (by omega)]
  exact k
theorem Ev_iastoreN {X : Option (Nat × (Nat → Int32))} {mi : MI} {d b pc pc2 : Nat} {la : aL} {st : List Value} {S : aS} {Q : Option Value → aS → Prop} {a n j : Nat} {f : Nat → Int32} {x : Int32} (hd : nx mi.2.1 pc .iastore 1 pc2) (ho : S[a]? = some (.inl (0, n, .inl f))) (hj : j < n) (hn : n < 2147483648) (k : Ev X mi d b pc2 la st (S.set a (.inl (0, n, .inl (upd f j x)))) Q) : Ev X mi d b pc la (.int x :: .int (nI j) :: .ref a :: st) S Q := by
  refine Ev_iastore hd ho (vinN hj hn) ?_
  rw [ncl (by omega)]
  exact k
theorem Ev_zastoreN {X : Option (Nat × (Nat → Int32))} {mi : MI} {d b pc pc2 : Nat} {la : aL} {st : List Value} {S : aS} {Q : Option Value → aS → Prop} {a n j : Nat} {f : Nat → Int32} {x : Int32} (hd : nx mi.2.1 pc .bastore 1 pc2) (ho : S[a]? = some (.inl (2, n, .inl f))) (hj : j < n) (hn : n < 2147483648) (hx : vp_nar .boolean x = x) (k : Ev X mi d b pc2 la st (S.set a (.inl (2, n, .inl (upd f j x)))) Q) : Ev X mi d b pc la (.int x :: .int (nI j) :: .ref a :: st) S Q := by
  refine Ev_zastore hd ho (vinN hj hn) ?_
  rw [ncl (by omega), hx]
  exact k
theorem Ev_lastoreN {X : Option (Nat × (Nat → Int32))} {mi : MI} {d b pc pc2 : Nat} {la : aL} {st : List Value} {S : aS} {Q : Option Value → aS → Prop} {a n j : Nat} {f : Nat → Int64} {x : Int64} (hd : nx mi.2.1 pc .lastore 1 pc2) (ho : S[a]? = some (.inl (1, n, .inr (.inl f)))) (hj : j < n) (hn : n < 2147483648) (k : Ev X mi d b pc2 la st (S.set a (.inl (1, n, .inr (.inl (vp_updL f j x))))) Q) : Ev X mi d b pc la (.long x :: .int (nI j) :: .ref a :: st) S Q := by
  refine Ev_lastore hd ho (vinN hj hn) ?_
  rw [ncl (by omega)]
  exact k
theorem Ev_aaloadN {X : Option (Nat × (Nat → Int32))} {mi : MI} {d b pc pc2 : Nat} {la : aL} {st : List Value} {S : aS} {Q : Option Value → aS → Prop} {a n j : Nat} {t : Nat} {f : Nat → Option Nat} (hd : nx mi.2.1 pc .aaload 1 pc2) (ho : S[a]? = some (.inl (t, n, .inr (.inr (.inr (.inr f)))))) (ht : t = 3 ∨ t = 4 ∨ t = 5) (hj : j < n) (hn : n < 2147483648) (r : Option Nat) (hr : f j = r) (k : Ev X mi d b pc2 la (va_rf r :: st) S Q) : Ev X mi d b pc la (.int (nI j) :: .ref a :: st) S Q := by
  refine Ev_aaload hd ho ht (vinN hj hn) ?_
  rw [ncl (by omega), hr]
  exact k
theorem Ev_aastoreN {X : Option (Nat × (Nat → Int32))} {mi : MI} {d b pc pc2 : Nat} {la : aL} {st : List Value} {S : aS} {Q : Option Value → aS → Prop} {a n j : Nat} {t ci v : Nat} {vs : List Value} {f : Nat → Option Nat} (hd : nx mi.2.1 pc .aastore 1 pc2) (ho : S[a]? = some (.inl (t, n, .inr (.inr (.inr (.inr f)))))) (hv : S[v]? = some (.inr (ci, vs))) (has : AS t ci) (hj : j < n) (hn : n < 2147483648) (k : Ev X mi d b pc2 la st (S.set a (.inl (t, n, .inr (.inr (.inr (.inr (va_up f j (some v)))))))) Q) : Ev X mi d b pc la (.ref v :: .int (nI j) :: .ref a :: st) S Q := by
  refine Ev_aastore hd ho hv has (vinN hj hn) ?_
  rw [ncl (by omega)]
  exact k
/-- fewer locals are known -/
def alp : aL → aL → Prop
  | [], [] => True
  | none :: a, _ :: b => alp a b
  | some v :: a, y :: b => y = some v ∧ alp a b
  | _, _ => False
theorem alp_ok : ∀ (a b : aL), alp a b → a.length = b.length ∧ ∀ (i : Nat) (v : Value), a[i]? = some (some v) → b[i]? = some (some v)
  | [], [], _ => ⟨rfl, fun i v h => h⟩
  | none :: a, y :: b, h => by
    obtain ⟨h1, h2⟩ := alp_ok a b h
    refine ⟨by simp [h1], fun i v hv => ?_⟩
    cases i with
    | zero => simp at hv
    | succ i => simpa using h2 i v (by simpa using hv)
  | some w :: a, y :: b, h => by
    obtain ⟨h0, h⟩ := h
    obtain ⟨h1, h2⟩ := alp_ok a b h
    refine ⟨by simp [h1], fun i v hv => ?_⟩
    cases i with
    | zero => rw [h0]; exact hv
    | succ i => simpa using h2 i v (by simpa using hv)
  | [], _ :: _, h => h.elim
  | none :: _, [], h => h.elim
  | some _ :: _, [], h => h.elim
theorem Ev_loc {X : Option (Nat × (Nat → Int32))} {mi : MI} {d b pc : Nat} {la la2 : aL} {st : List Value} {S : aS} {Q : Option Value → aS → Prop} (h : alp la2 la) (k : Ev X mi d b pc la2 st S Q) : Ev X mi d b pc la st S Q := by
  obtain ⟨h1, h2⟩ := alp_ok _ _ h
  intro p l e R s m args below meth c D cA A L ws H locs cells slots Qf ls st' hC hX hW hl hs hc hq hK
  obtain ⟨l0, lc, l1, l2⟩ := hl
  exact k p l e R s m args below meth c D cA A L ws H locs cells slots Qf ls st' hC hX hW ⟨h1.trans l0, lc, l1, fun i v hv => l2 i v (h2 i v hv)⟩ hs hc hq hK
