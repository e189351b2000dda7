/-! ===== the net's numbers, as both sides hold them ===== -/
/-- G 0 .. G 5: kind, one place, the other, long, sights, danger of a stretch -/
def GD (pl n : Nat) (G : Nat → Nat → Nat) : Prop := pl ≤ 7 ∧ n ≤ 9 ∧ ∀ j, j < n → G 0 j ≤ 2 ∧ G 1 j < pl ∧ G 2 j < pl ∧ G 1 j ≠ G 2 j ∧ 1 ≤ G 3 j ∧ G 3 j ≤ 9 ∧ G 4 j ≤ 9 ∧ G 5 j ≤ 9
def MN (S : aS) (n : Nat) (G : Nat → Nat → Nat) : Prop := ∀ f, f < 6 → ∃ h : Nat → Int32, S[32 + f]? = some (iA 9 h) ∧ ∀ j, j < n → h j = nI (G f j)
theorem MN.off {S : aS} {n a : Nat} {G : Nat → Nat → Nat} {c : aE} (h : MN S n G) (ha : a < 32 ∨ 37 < a) : MN (S.set a c) n G := by
  intro f hf
  obtain ⟨g, h1, h2⟩ := h f hf
  exact ⟨g, gn (by omega) h1, h2⟩
def sh (G : Nat → Nat → Nat) (fz : Int) (j : Nat) : Bool := decide ((G 1 j : Int) ≤ fz ∧ (G 2 j : Int) ≤ fz)
def tk0 (G : Nat → Nat → Nat) (j : Nat) : Nat := if G 0 j = 2 then 2 * (G 3 j + 1) else if 0 < G 0 j then G 3 j + 1 else G 3 j
def tk (G : Nat → Nat → Nat) (fz : Int) (j : Nat) : Nat := if sh G fz j then tk0 G j + 1 else tk0 G j
def tn (G : Nat → Nat → Nat) (fz : Int) (j : Nat) : Nat := if sh G fz j then 10 else 10 - G 5 j
def gt (G : Nat → Nat → Nat) (cs j p : Nat) : Option Nat := if cs.testBit j then none else if G 1 j = p then some (G 2 j) else if G 2 j = p then some (G 1 j) else none
def oi (r : Option Nat) : Int32 := match r with
  | none => -9
  | some q => nI q
def sumN (f : Nat → Nat) : Nat → Nat
  | 0 => 0
  | m + 1 => sumN f m + f m
def prodN (f : Nat → Nat) : Nat → Nat
  | 0 => 1
  | m + 1 => prodN f m * f m
def goN (r : Nat → Nat) : Nat → Nat
  | 0 => 0
  | m + 1 => goN r m ||| 2 ^ r m
def sgN (G : Nat → Nat → Nat) (n g : Nat) : Nat := sumN (fun k => if g.testBit k then G 4 k else 0) n
def cst (lw late : Int) : Int := if late ≤ 0 then 0 else if lw = 0 then late else if lw = 2 then late * late else if 5 < late then 3 * (late - 5) else 0
theorem tk_le {G : Nat → Nat → Nat} {pl n : Nat} (h : GD pl n G) (fz : Int) {j : Nat} (hj : j < n) : tk G fz j ≤ 21 ∧ 1 ≤ tk G fz j := by
  have := h.2.2 j hj
  unfold tk tk0
  split <;> split <;> (try split) <;> omega
theorem tn_le {G : Nat → Nat → Nat} (fz : Int) (j : Nat) : tn G fz j ≤ 10 := by
  unfold tn
  split <;> omega
theorem sumN_le {f : Nat → Nat} {b : Nat} : ∀ (m : Nat), (∀ j, j < m → f j ≤ b) → sumN f m ≤ m * b
  | 0, _ => by simp [sumN]
  | m + 1, h => by
    have h1 := sumN_le m (fun j hj => h j (by omega))
    have h2 := h m (by omega)
    simp only [sumN]
    rw [Nat.add_mul, Nat.one_mul]
    omega
theorem prodN_le {f : Nat → Nat} : ∀ (m : Nat), (∀ j, j < m → f j ≤ 10) → prodN f m ≤ 10 ^ m
  | 0, _ => by simp [prodN]
  | m + 1, h => by
    have h1 := prodN_le m (fun j hj => h j (by omega))
    have h2 := h m (by omega)
    simp only [prodN, Nat.pow_succ]
    exact Nat.mul_le_mul h1 h2
theorem or_lt {a b k : Nat} (ha : a < 2 ^ k) (hb : b < 2 ^ k) : a ||| b < 2 ^ k := Nat.or_lt_two_pow ha hb
theorem goN_lt {r : Nat → Nat} {n : Nat} : ∀ (m : Nat), (∀ j, j < m → r j < n) → goN r m < 2 ^ n
  | 0, _ => Nat.two_pow_pos n
  | m + 1, h => by
    have h1 := goN_lt m (fun j hj => h j (by omega))
    exact or_lt h1 (Nat.pow_lt_pow_right (by decide) (h m (by omega)))
theorem oneShl {j : Nat} (h : j < 31) : (1 : Int32) <<< (nI j &&& 31) = nI (2 ^ j) := by
  have : 1 * 2 ^ j < 2 ^ 32 := by rw [Nat.one_mul]; exact Nat.pow_lt_pow_right (by decide) (by omega)
  have h2 := shlN (n := 1) j (by omega) this
  rw [Nat.one_mul] at h2
  exact h2
theorem p9 {n : Nat} (h : n ≤ 9) : 2 ^ n ≤ 512 := Nat.pow_le_pow_right (by decide) h
theorem nsub {a b : Nat} (h : b ≤ a) : nI a - nI b = nI (a - b) := pk_sub h
theorem nmul (a b : Nat) : nI a * nI b = nI (a * b) := pk_mul a b
theorem lmulN (a b : Nat) : lN a * lN b = lN (a * b) := lN_mul a b
theorem nle {a b : Nat} (ha : a < 2147483648) (hb : b < 2147483648) : nI a ≤ nI b ↔ a ≤ b := nI_leI ha hb
theorem nlt {a b : Nat} (ha : a < 2147483648) (hb : b < 2147483648) : nI a < nI b ↔ a < b := nI_ltI ha hb
theorem nl {n : Nat} (h : n < 2147483648) : (nI n).toInt64 = lN n := nI_l h
def iZ (z : Int) : Int32 := Int32.ofInt z
theorem iZt {z : Int} (h : -2147483648 ≤ z ∧ z ≤ 2147483647) : (iZ z).toInt = z := Int32.toInt_ofInt_of_le (by omega) (by omega)
theorem toZ {x : Int32} {z : Int} (h : x.toInt = z) : x = iZ z := by
  have := xr32 x
  rw [xeq, h, iZt (by omega)]
def jy (lw du sg mi : Int) : Int := sg - cst lw (mi - du)
theorem cst_le {lw late : Int} (h : late ≤ 1000) : 0 ≤ cst lw late ∧ cst lw late ≤ 1000000 := by
  unfold cst
  split
  · omega
  · split
    · omega
    · split
      · have h1 : late * late ≤ 1000 * 1000 := Int.mul_le_mul h h (by omega) (by omega)
        have h2 : 0 ≤ late * late := Int.mul_nonneg (by omega) (by omega)
        omega
      · split <;> omega
theorem clrN : ∀ cs, cs < 512 → ∀ j, j < 9 → nI cs &&& (nI (2 ^ j) ^^^ (-1)) = nI (cs &&& (511 ^^^ 2 ^ j)) := by decide +kernel
def setb (cs j : Nat) (b : Bool) : Nat := if b then cs ||| 2 ^ j else cs &&& (511 ^^^ 2 ^ j)
theorem setb_lt {cs j : Nat} {b : Bool} (h : cs < 512) (hj : j < 9) : setb cs j b < 512 := by
  unfold setb
  split
  · exact or_lt (k := 9) h (Nat.pow_lt_pow_right (by decide) hj)
  · exact Nat.lt_of_le_of_lt Nat.and_le_left h
theorem setb_bit : ∀ cs, cs < 512 → ∀ j, j < 9 → ∀ i, i < 9 → ∀ b : Bool, (setb cs j b).testBit i = if i = j then b else cs.testBit i := by decide +kernel
theorem sq_le {z : Int} (h0 : 0 ≤ z) (h1 : z ≤ 1000) : -2147483648 ≤ z * z ∧ z * z ≤ 2147483647 := by
  have h2 : z * z ≤ 1000 * 1000 := Int.mul_le_mul h1 h1 h0 (by omega)
  have h3 : 0 ≤ z * z := Int.mul_nonneg h0 h0
  omega
