/-! ===== the state of both sides, in common words ===== -/
/-- pl places, n stretches, q readings, cs closed ones; G the net's numbers; z, la, ce the sheets (size or -1, lane, cells); ro, rb the readings -/
def cA (S : aS) : Prop := ∃ fa : Nat → Option Nat, S[1]? = some (rA 3 4 fa) ∧ ∀ k, k < 4 → fa k = some (2 + 2 * k)
def cS (S : aS) (z : Nat → Int) (la : Nat → Nat) (ce : Nat → Nat → Int32) : Prop := ∀ k, k < 4 → -1 ≤ z k ∧ z k ≤ 60 ∧ la k ≤ 2 ∧ ∃ (ln len : Int32) (f : Nat → Int32), S[2 + 2 * k]? = some (.inr (5, [.ref (3 + 2 * k), .int ln, .int len])) ∧ S[3 + 2 * k]? = some (iA 60 f) ∧ (z k < 0 → ln = -1) ∧ (0 ≤ z k → ln = nI (la k) ∧ len.toInt = z k) ∧ ∀ i : Nat, (i : Int) < z k → f i = ce k i
def cT (S : aS) (n : Nat) (ad : Nat → Nat) : Prop := ∃ sa : Nat → Option Nat, S[11]? = some (rA 4 9 sa) ∧ ∀ j, j < n → sa j = some (ad j)
def cR (S : aS) (q : Nat) (ro : Nat → Nat) (rb : Nat → Bool) : Prop := ∃ fo fw : Nat → Int32, S[12]? = some (iA 8 fo) ∧ S[13]? = some (zA 8 fw) ∧ ∀ x, x < q → fo x = nI (ro x) ∧ fw x = bz (rb x)
abbrev wkc (p s m g o : Int32) (t : Int64) : aE := .inr (10, [.int p, .int s, .int m, .int g, .int o, .long t])
def cX (S : aS) : Prop := (∀ k, k < 7 → ∃ (p s m g o : Int32) (t : Int64), S[if k = 0 then 14 else 16 + k]? = some (wkc p s m g o t)) ∧ (∃ (x1 x2 x3 x4 x5 x6 x7 x8 x9 : Int32) (v : Value), S[15]? = some (.inr (4, [.ref 16, .ref 23, .ref 24, .int x1, .int x2, .int x3, v, .int x4, .int x5, .int x6, .int x7, .int x8, .int x9]))) ∧ (∃ fa : Nat → Option Nat, S[16]? = some (rA 5 6 fa) ∧ ∀ k, k < 6 → fa k = some (17 + k)) ∧ (∃ f : Nat → Int32, S[23]? = some (iA 5 f)) ∧ (∃ f : Nat → Int32, S[24]? = some (iA 5 f)) ∧ S[25]? = some (.inr (3, [.ref 26])) ∧ (∃ f : Nat → Int32, S[26]? = some (iA 7 f)) ∧ S[27]? = some (.inr (0, [.ref 28, .ref 29])) ∧ (∃ f : Nat → Int64, S[28]? = some (lA 7 f)) ∧ ∃ f : Nat → Int64, S[29]? = some (lA 7 f)
theorem cA.off {S : aS} {a : Nat} {c : aE} (h : cA S) (ha : a ≠ 1) : cA (S.set a c) := by
  obtain ⟨fa, h1, h2⟩ := h
  exact ⟨fa, gn ha h1, h2⟩
theorem cS.off {S : aS} {z : Nat → Int} {la : Nat → Nat} {ce : Nat → Nat → Int32} {a : Nat} {c : aE} (h : cS S z la ce) (ha : a < 2 ∨ 9 < a) : cS (S.set a c) z la ce := by
  intro k hk
  obtain ⟨h1, h2, h3, ln, len, f, h4, h5, h6⟩ := h k hk
  exact ⟨h1, h2, h3, ln, len, f, gn (by omega) h4, gn (by omega) h5, h6⟩
theorem cT.off {S : aS} {n : Nat} {ad : Nat → Nat} {a : Nat} {c : aE} (h : cT S n ad) (ha : a ≠ 11) : cT (S.set a c) n ad := by
  obtain ⟨fa, h1, h2⟩ := h
  exact ⟨fa, gn ha h1, h2⟩
theorem cR.off {S : aS} {q : Nat} {ro : Nat → Nat} {rb : Nat → Bool} {a : Nat} {c : aE} (h : cR S q ro rb) (ha : a ≠ 12 ∧ a ≠ 13) : cR (S.set a c) q ro rb := by
  obtain ⟨fo, fw, h1, h2, h3⟩ := h
  exact ⟨fo, fw, gn ha.1 h1, gn ha.2 h2, h3⟩
theorem cX.off {S : aS} {a : Nat} {c : aE} (h : cX S) (ha : a < 14 ∨ 29 < a) : cX (S.set a c) := by
  obtain ⟨h1, ⟨x1, x2, x3, x4, x5, x6, x7, x8, x9, v, h2⟩, ⟨f3, h3, h3b⟩, ⟨f4, h4⟩, ⟨f5, h5⟩, h6, ⟨f7, h7⟩, h8, ⟨f9, h9⟩, f10, h10⟩ := h
  refine ⟨fun k hk => ?_, ⟨x1, x2, x3, x4, x5, x6, x7, x8, x9, v, gn (by omega) h2⟩, ⟨f3, gn (by omega) h3, h3b⟩, ⟨f4, gn (by omega) h4⟩, ⟨f5, gn (by omega) h5⟩, gn (by omega) h6, ⟨f7, gn (by omega) h7⟩, gn (by omega) h8, ⟨f9, gn (by omega) h9⟩, f10, gn (by omega) h10⟩
  obtain ⟨p, s, m, g, o, t, h⟩ := h1 k hk
  exact ⟨p, s, m, g, o, t, gn (by split <;> omega) h⟩
theorem CN.offA {S : aS} {n a cs : Nat} {G : Nat → Nat → Nat} {fz : Int} {ad : Nat → Nat} {c : aE} (h : CN S n G cs fz ad) (ha : ∀ j, j < n → ad j ≠ a) : CN (S.set a c) n G cs fz ad := fun j hj => ⟨gn (fun z => ha j hj z.symm) (h j hj).1, (h j hj).2⟩
/-- the component -/
def CA (S : aS) (flt tr du lw fr : Int32) (pl n q cs : Nat) (G : Nat → Nat → Nat) (ad : Nat → Nat) (z : Nat → Int) (la : Nat → Nat) (ce : Nat → Nat → Int32) (ro : Nat → Nat) (rb : Nat → Bool) : Prop :=
  S[0]? = some (co flt) ∧ cA S ∧ cS S z la ce ∧ S[10]? = some (nt (nI pl) (nI n) du lw fr (nI q)) ∧ cT S n ad ∧ cR S q ro rb ∧ CN S n G cs fr.toInt ad ∧ cX S ∧ S[30]? = some (.inr (9, [.int tr]))
theorem CA.off {S : aS} {flt tr du lw fr : Int32} {pl n q cs : Nat} {G : Nat → Nat → Nat} {ad : Nat → Nat} {z : Nat → Int} {la : Nat → Nat} {ce : Nat → Nat → Int32} {ro : Nat → Nat} {rb : Nat → Bool} (h : CA S flt tr du lw fr pl n q cs G ad z la ce ro rb) {a : Nat} {c : aE} (ha : 30 < a ∧ a < 56) : CA (S.set a c) flt tr du lw fr pl n q cs G ad z la ce ro rb := by
  obtain ⟨h1, h2, h3, h4, h5, h6, h7, h8, h9⟩ := h
  exact ⟨gn (by omega) h1, h2.off (by omega), h3.off (by omega), gn (by omega) h4, h5.off (by omega), h6.off (by omega), h7.off (by omega), h8.off (by omega), gn (by omega) h9⟩
/-- the reference's scratch rows -/
def mX (S : aS) : Prop := (∀ k, k < 6 → ∃ f : Nat → Int32, S[38 + k]? = some (iA 9 f)) ∧ (∃ f : Nat → Int32, S[44]? = some (iA 12 f)) ∧ (∃ f : Nat → Int32, S[45]? = some (iA 7 f)) ∧ (∃ f : Nat → Int32, S[46]? = some (iA 6 f)) ∧ (∃ f : Nat → Int32, S[47]? = some (iA 5 f)) ∧ (∃ f : Nat → Int64, S[50]? = some (lA 7 f)) ∧ (∃ f : Nat → Int64, S[51]? = some (lA 7 f)) ∧ ∃ f : Nat → Int32, S[55]? = some (iA 60 f)
def mR (S : aS) (q : Nat) (ro : Nat → Nat) (rb : Nat → Bool) : Prop := ∃ fo fw : Nat → Int32, S[48]? = some (iA 8 fo) ∧ S[49]? = some (zA 8 fw) ∧ ∀ x, x < q → fo x = nI (ro x) ∧ fw x = bz (rb x)
def mS (S : aS) (z : Nat → Int) (la : Nat → Nat) (ce : Nat → Nat → Int32) : Prop := ∃ fs fl fc : Nat → Int32, S[52]? = some (iA 4 fs) ∧ S[53]? = some (iA 4 fl) ∧ S[54]? = some (iA 240 fc) ∧ ∀ k, k < 4 → fs k = iZ (z k) ∧ -1 ≤ z k ∧ z k ≤ 60 ∧ la k ≤ 2 ∧ (0 ≤ z k → fl k = nI (la k)) ∧ ∀ i : Nat, (i : Int) < z k → fc (60 * k + i) = ce k i
def mM (S : aS) (flt tr du lw fr : Int32) (pl n q cs : Nat) : Prop := ∃ (ra rp rs ea dp bm : Int32) (bi : Int64), S[31]? = some (mo flt (nI pl) (nI n) du lw fr (nI cs) ra rp rs ea dp bm bi (nI q) tr)
theorem mX.off {S : aS} {a : Nat} {c : aE} (h : mX S) (ha : a < 38 ∨ 55 < a ∨ a = 48 ∨ a = 49 ∨ a = 52 ∨ a = 53 ∨ a = 54) : mX (S.set a c) := by
  obtain ⟨h1, ⟨f2, h2⟩, ⟨f3, h3⟩, ⟨f4, h4⟩, ⟨f5, h5⟩, ⟨f6, h6⟩, ⟨f7, h7⟩, f8, h8⟩ := h
  refine ⟨fun k hk => ?_, ⟨f2, gn (by omega) h2⟩, ⟨f3, gn (by omega) h3⟩, ⟨f4, gn (by omega) h4⟩, ⟨f5, gn (by omega) h5⟩, ⟨f6, gn (by omega) h6⟩, ⟨f7, gn (by omega) h7⟩, f8, gn (by omega) h8⟩
  obtain ⟨f, h⟩ := h1 k hk
  exact ⟨f, gn (by omega) h⟩
theorem mR.off {S : aS} {q : Nat} {ro : Nat → Nat} {rb : Nat → Bool} {a : Nat} {c : aE} (h : mR S q ro rb) (ha : a ≠ 48 ∧ a ≠ 49) : mR (S.set a c) q ro rb := by
  obtain ⟨fo, fw, h1, h2, h3⟩ := h
  exact ⟨fo, fw, gn ha.1 h1, gn ha.2 h2, h3⟩
theorem mS.off {S : aS} {z : Nat → Int} {la : Nat → Nat} {ce : Nat → Nat → Int32} {a : Nat} {c : aE} (h : mS S z la ce) (ha : a < 52 ∨ 54 < a) : mS (S.set a c) z la ce := by
  obtain ⟨fs, fl, fc, h1, h2, h3, h4⟩ := h
  exact ⟨fs, fl, fc, gn (by omega) h1, gn (by omega) h2, gn (by omega) h3, h4⟩
theorem mM.off {S : aS} {flt tr du lw fr : Int32} {pl n q cs : Nat} {a : Nat} {c : aE} (h : mM S flt tr du lw fr pl n q cs) (ha : a ≠ 31) : mM (S.set a c) flt tr du lw fr pl n q cs := by
  obtain ⟨ra, rp, rs, ea, dp, bm, bi, h1⟩ := h
  exact ⟨ra, rp, rs, ea, dp, bm, bi, gn ha h1⟩
theorem mM.st {S : aS} {c0 : aE} {flt tr du lw fr ra rp rs ea dp bm : Int32} {bi : Int64} {pl n q cs : Nat} (h : S[31]? = some c0) : mM (S.set 31 (mo flt (nI pl) (nI n) du lw fr (nI cs) ra rp rs ea dp bm bi (nI q) tr)) flt tr du lw fr pl n q cs := ⟨ra, rp, rs, ea, dp, bm, bi, gs h⟩
/-- the reference -/
def RA (S : aS) (flt tr du lw fr : Int32) (pl n q cs : Nat) (G : Nat → Nat → Nat) (z : Nat → Int) (la : Nat → Nat) (ce : Nat → Nat → Int32) (ro : Nat → Nat) (rb : Nat → Bool) : Prop :=
  mM S flt tr du lw fr pl n q cs ∧ MN S n G ∧ mR S q ro rb ∧ mS S z la ce ∧ mX S
theorem RA.off {S : aS} {flt tr du lw fr : Int32} {pl n q cs : Nat} {G : Nat → Nat → Nat} {z : Nat → Int} {la : Nat → Nat} {ce : Nat → Nat → Int32} {ro : Nat → Nat} {rb : Nat → Bool} (h : RA S flt tr du lw fr pl n q cs G z la ce ro rb) {a : Nat} {c : aE} (ha : a < 31 ∨ 55 < a) : RA (S.set a c) flt tr du lw fr pl n q cs G z la ce ro rb := by
  obtain ⟨h1, h2, h3, h4, h5⟩ := h
  exact ⟨h1.off (by omega), h2.off (by omega), h3.off (by omega), h4.off (by omega), h5.off (by omega)⟩
/-- what both keep of their common words -/
def OKs (du lw fC fR : Int32) (pl n q cs : Nat) (G : Nat → Nat → Nat) (ro : Nat → Nat) : Prop := GD pl n G ∧ (n = 0 ↔ pl = 0) ∧ q ≤ 8 ∧ cs < 512 ∧ (0 ≤ du.toInt ∧ du.toInt ≤ 99) ∧ (0 ≤ lw.toInt ∧ lw.toInt ≤ 2) ∧ (n ≠ 0 → fC = fR) ∧ (∀ x, x < q → ro x < n) ∧ n ≤ 8
def ST (S : aS) : Prop := ∃ (flt tr du lw fC fR : Int32) (pl n q cs : Nat) (G : Nat → Nat → Nat) (ad : Nat → Nat) (z : Nat → Int) (la : Nat → Nat) (ce : Nat → Nat → Int32) (ro : Nat → Nat) (rb : Nat → Bool), OKs du lw fC fR pl n q cs G ro ∧ CA S flt tr du lw fC pl n q cs G ad z la ce ro rb ∧ RA S flt tr du lw fR pl n q cs G z la ce ro rb
/-- the law's own loop: behind a call, with t rounds left -/
abbrev XL (L : Nat) (xs : Nat → Int32) : Option (Nat × (Nat → Int32)) := some (L, xs)
abbrev LawAt (L : Nat) (xs : Nat → Int32) (d b pc : Nat) (i : Nat) (st : List Value) (S : aS) (Q : Option Value → aS → Prop) : Prop := Ev (XL L xs) mL_law (d + 20) b pc [some (.retAddr 0), some (.ref 0), some (.ref 31), some (.int (nI i))] st S Q
