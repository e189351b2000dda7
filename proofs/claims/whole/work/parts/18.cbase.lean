/-! ===== the component's cells ===== -/
abbrev co (lf : Int32) : aE := .inr (11, [.ref 1, .ref 10, .ref 14, .ref 15, .ref 25, .ref 27, .ref 30, .int lf])
abbrev nt (pl n du lw fr rd : Int32) : aE := .inr (2, [.ref 11, .ref 12, .ref 13, .int pl, .int n, .int du, .int lw, .int fr, .int rd])
def kc (x : Nat) : Nat := if x = 0 then 7 else if x = 1 then 1 else 6
theorem kc3 (x : Nat) : kc x = 7 ∨ kc x = 1 ∨ kc x = 6 := by
  unfold kc
  split
  · exact Or.inl rfl
  · split
    · exact Or.inr (Or.inl rfl)
    · exact Or.inr (Or.inr rfl)
abbrev bz (b : Bool) : Int32 := if b then 1 else 0
abbrev stc (G : Nat → Nat → Nat) (cs : Nat) (fz : Int) (j : Nat) : aE := .inr (kc (G 0 j), [.int (nI j), .int (nI (G 1 j)), .int (nI (G 2 j)), .int (nI (G 3 j)), .int (nI (G 4 j)), .int (nI (G 5 j)), .int (nI (tk G fz j)), .int (nI (tn G fz j)), .int (bz (cs.testBit j))])
/-- the stretches' objects, at their places -/
def CN (S : aS) (n : Nat) (G : Nat → Nat → Nat) (cs : Nat) (fz : Int) (ad : Nat → Nat) : Prop := ∀ j, j < n → S[ad j]? = some (stc G cs fz j) ∧ 56 ≤ ad j ∧ ∀ i, i < n → ad i = ad j → i = j
theorem CN.off {S : aS} {n a cs : Nat} {G : Nat → Nat → Nat} {fz : Int} {ad : Nat → Nat} {c : aE} (h : CN S n G cs fz ad) (ha : a < 56) : CN (S.set a c) n G cs fz ad := fun j hj => ⟨gn (by have := (h j hj).2.1; omega) (h j hj).1, (h j hj).2⟩
theorem CN.app {S T : aS} {n cs : Nat} {G : Nat → Nat → Nat} {fz : Int} {ad : Nat → Nat} (h : CN S n G cs fz ad) : CN (S ++ T) n G cs fz ad := fun j hj => ⟨ga (h j hj).1, (h j hj).2⟩
theorem gl2 {S : aS} {c : aE} {l : Nat} (h : S.length = l) : (S ++ [c])[l]? = some c := by rw [← h]; exact gl
theorem ln1 {S : aS} {c : aE} {l : Nat} (h : S.length = l) : (S ++ [c]).length = l + 1 := by simp [h]
theorem lnS {S : aS} {a l : Nat} {c : aE} (h : S.length = l) : (S.set a c).length = l := by simp [h]
theorem Ev_ref {X : Option (Nat × (Nat → Int32))} {mi : MI} {d b pc : Nat} {la : aL} {st : List Value} {S T : aS} {Q : Option Value → aS → Prop} {j : Nat} (h : T.length = j) (k : Ev X mi d b pc la (.ref j :: st) S Q) : Ev X mi d b pc la (.ref T.length :: st) S Q := by rw [h]; exact k

theorem fg3_X10_31 {ci : Nat} (h : ci = 7 ∨ ci = 1 ∨ ci = 6) : FG RX10 31 ci 0 := by
  rcases h with rfl | rfl | rfl
  · exact fg_X10_31_7
  · exact fg_X10_31_1
  · exact fg_X10_31_6
theorem fg3_X10_40 {ci : Nat} (h : ci = 7 ∨ ci = 1 ∨ ci = 6) : FG RX10 40 ci 6 := by
  rcases h with rfl | rfl | rfl
  · exact fg_X10_40_7
  · exact fg_X10_40_1
  · exact fg_X10_40_6
theorem fg3_X10_41 {ci : Nat} (h : ci = 7 ∨ ci = 1 ∨ ci = 6) : FG RX10 41 ci 4 := by
  rcases h with rfl | rfl | rfl
  · exact fg_X10_41_7
  · exact fg_X10_41_1
  · exact fg_X10_41_6
theorem fg3_X10_42 {ci : Nat} (h : ci = 7 ∨ ci = 1 ∨ ci = 6) : FG RX10 42 ci 7 := by
  rcases h with rfl | rfl | rfl
  · exact fg_X10_42_7
  · exact fg_X10_42_1
  · exact fg_X10_42_6
theorem fg3_X11_108 {ci : Nat} (h : ci = 7 ∨ ci = 1 ∨ ci = 6) : FG RX11 108 ci 1 := by
  rcases h with rfl | rfl | rfl
  · exact fg_X11_108_7
  · exact fg_X11_108_1
  · exact fg_X11_108_6
theorem fg3_X11_111 {ci : Nat} (h : ci = 7 ∨ ci = 1 ∨ ci = 6) : FG RX11 111 ci 2 := by
  rcases h with rfl | rfl | rfl
  · exact fg_X11_111_7
  · exact fg_X11_111_1
  · exact fg_X11_111_6
theorem fg3_X11_114 {ci : Nat} (h : ci = 7 ∨ ci = 1 ∨ ci = 6) : FG RX11 114 ci 3 := by
  rcases h with rfl | rfl | rfl
  · exact fg_X11_114_7
  · exact fg_X11_114_1
  · exact fg_X11_114_6
theorem fg3_X11_117 {ci : Nat} (h : ci = 7 ∨ ci = 1 ∨ ci = 6) : FG RX11 117 ci 4 := by
  rcases h with rfl | rfl | rfl
  · exact fg_X11_117_7
  · exact fg_X11_117_1
  · exact fg_X11_117_6
theorem fg3_X11_120 {ci : Nat} (h : ci = 7 ∨ ci = 1 ∨ ci = 6) : FG RX11 120 ci 5 := by
  rcases h with rfl | rfl | rfl
  · exact fg_X11_120_7
  · exact fg_X11_120_1
  · exact fg_X11_120_6
theorem fg3_X11_123 {ci : Nat} (h : ci = 7 ∨ ci = 1 ∨ ci = 6) : FG RX11 123 ci 6 := by
  rcases h with rfl | rfl | rfl
  · exact fg_X11_123_7
  · exact fg_X11_123_1
  · exact fg_X11_123_6
theorem fg3_X11_126 {ci : Nat} (h : ci = 7 ∨ ci = 1 ∨ ci = 6) : FG RX11 126 ci 8 := by
  rcases h with rfl | rfl | rfl
  · exact fg_X11_126_7
  · exact fg_X11_126_1
  · exact fg_X11_126_6
theorem fg3_X1_7 {ci : Nat} (h : ci = 7 ∨ ci = 1 ∨ ci = 6) : FG RX1 7 ci 3 := by
  rcases h with rfl | rfl | rfl
  · exact fg_X1_7_7
  · exact fg_X1_7_1
  · exact fg_X1_7_6
theorem fg3_X3_43 {ci : Nat} (h : ci = 7 ∨ ci = 1 ∨ ci = 6) : FG RX3 43 ci 8 := by
  rcases h with rfl | rfl | rfl
  · exact fg_X3_43_7
  · exact fg_X3_43_1
  · exact fg_X3_43_6
theorem fg3_X3_49 {ci : Nat} (h : ci = 7 ∨ ci = 1 ∨ ci = 6) : FG RX3 49 ci 2 := by
  rcases h with rfl | rfl | rfl
  · exact fg_X3_49_7
  · exact fg_X3_49_1
  · exact fg_X3_49_6
theorem fg3_X3_52 {ci : Nat} (h : ci = 7 ∨ ci = 1 ∨ ci = 6) : FG RX3 52 ci 1 := by
  rcases h with rfl | rfl | rfl
  · exact fg_X3_52_7
  · exact fg_X3_52_1
  · exact fg_X3_52_6
theorem fg3_X3_55 {ci : Nat} (h : ci = 7 ∨ ci = 1 ∨ ci = 6) : FG RX3 55 ci 6 := by
  rcases h with rfl | rfl | rfl
  · exact fg_X3_55_7
  · exact fg_X3_55_1
  · exact fg_X3_55_6
theorem fg3_X7_13 {ci : Nat} (h : ci = 7 ∨ ci = 1 ∨ ci = 6) : FG RX7 13 ci 1 := by
  rcases h with rfl | rfl | rfl
  · exact fg_X7_13_7
  · exact fg_X7_13_1
  · exact fg_X7_13_6
theorem fg3_X7_16 {ci : Nat} (h : ci = 7 ∨ ci = 1 ∨ ci = 6) : FG RX7 16 ci 2 := by
  rcases h with rfl | rfl | rfl
  · exact fg_X7_16_7
  · exact fg_X7_16_1
  · exact fg_X7_16_6
theorem fg3_X7_19 {ci : Nat} (h : ci = 7 ∨ ci = 1 ∨ ci = 6) : FG RX7 19 ci 3 := by
  rcases h with rfl | rfl | rfl
  · exact fg_X7_19_7
  · exact fg_X7_19_1
  · exact fg_X7_19_6
theorem fg3_X7_25 {ci : Nat} (h : ci = 7 ∨ ci = 1 ∨ ci = 6) : FG RX7 25 ci 5 := by
  rcases h with rfl | rfl | rfl
  · exact fg_X7_25_7
  · exact fg_X7_25_1
  · exact fg_X7_25_6
theorem fg3_X7_34 {ci : Nat} (h : ci = 7 ∨ ci = 1 ∨ ci = 6) : FG RX7 34 ci 8 := by
  rcases h with rfl | rfl | rfl
  · exact fg_X7_34_7
  · exact fg_X7_34_1
  · exact fg_X7_34_6
theorem fg3_X7_7 {ci : Nat} (h : ci = 7 ∨ ci = 1 ∨ ci = 6) : FG RX7 7 ci 0 := by
  rcases h with rfl | rfl | rfl
  · exact fg_X7_7_7
  · exact fg_X7_7_1
  · exact fg_X7_7_6
theorem fr3_X11_126 {ci : Nat} (h : ci = 7 ∨ ci = 1 ∨ ci = 6) : FR RX11 126 ci 8 (.boolean) false := by
  rcases h with rfl | rfl | rfl
  · exact fr_X11_126_7
  · exact fr_X11_126_1
  · exact fr_X11_126_6
theorem fr3_X7_13 {ci : Nat} (h : ci = 7 ∨ ci = 1 ∨ ci = 6) : FR RX7 13 ci 1 (.int) true := by
  rcases h with rfl | rfl | rfl
  · exact fr_X7_13_7
  · exact fr_X7_13_1
  · exact fr_X7_13_6
theorem fr3_X7_16 {ci : Nat} (h : ci = 7 ∨ ci = 1 ∨ ci = 6) : FR RX7 16 ci 2 (.int) true := by
  rcases h with rfl | rfl | rfl
  · exact fr_X7_16_7
  · exact fr_X7_16_1
  · exact fr_X7_16_6
theorem fr3_X7_19 {ci : Nat} (h : ci = 7 ∨ ci = 1 ∨ ci = 6) : FR RX7 19 ci 3 (.int) true := by
  rcases h with rfl | rfl | rfl
  · exact fr_X7_19_7
  · exact fr_X7_19_1
  · exact fr_X7_19_6
theorem fr3_X7_22 {ci : Nat} (h : ci = 7 ∨ ci = 1 ∨ ci = 6) : FR RX7 22 ci 4 (.int) true := by
  rcases h with rfl | rfl | rfl
  · exact fr_X7_22_7
  · exact fr_X7_22_1
  · exact fr_X7_22_6
theorem fr3_X7_25 {ci : Nat} (h : ci = 7 ∨ ci = 1 ∨ ci = 6) : FR RX7 25 ci 5 (.int) true := by
  rcases h with rfl | rfl | rfl
  · exact fr_X7_25_7
  · exact fr_X7_25_1
  · exact fr_X7_25_6
theorem fr3_X7_28 {ci : Nat} (h : ci = 7 ∨ ci = 1 ∨ ci = 6) : FR RX7 28 ci 6 (.int) false := by
  rcases h with rfl | rfl | rfl
  · exact fr_X7_28_7
  · exact fr_X7_28_1
  · exact fr_X7_28_6
theorem fr3_X7_31 {ci : Nat} (h : ci = 7 ∨ ci = 1 ∨ ci = 6) : FR RX7 31 ci 7 (.int) false := by
  rcases h with rfl | rfl | rfl
  · exact fr_X7_31_7
  · exact fr_X7_31_1
  · exact fr_X7_31_6
theorem fr3_X7_34 {ci : Nat} (h : ci = 7 ∨ ci = 1 ∨ ci = 6) : FR RX7 34 ci 8 (.boolean) false := by
  rcases h with rfl | rfl | rfl
  · exact fr_X7_34_7
  · exact fr_X7_34_1
  · exact fr_X7_34_6
theorem fr3_X7_7 {ci : Nat} (h : ci = 7 ∨ ci = 1 ∨ ci = 6) : FR RX7 7 ci 0 (.int) true := by
  rcases h with rfl | rfl | rfl
  · exact fr_X7_7_7
  · exact fr_X7_7_1
  · exact fr_X7_7_6
theorem co3_X0_61 {ci : Nat} (h : ci = 7 ∨ ci = 1 ∨ ci = 6) : CO RX0 61 ci 1 mX7_leadsFrom := by
  rcases h with rfl | rfl | rfl
  · exact co_X0_61_7
  · exact co_X0_61_1
  · exact co_X0_61_6
theorem co3_X0_67 {ci : Nat} (h : ci = 7 ∨ ci = 1 ∨ ci = 6) : CO RX0 67 ci 1 mX7_otherEnd := by
  rcases h with rfl | rfl | rfl
  · exact co_X0_67_7
  · exact co_X0_67_1
  · exact co_X0_67_6
theorem co3_X10_36 {ci : Nat} (h : ci = 7 ∨ ci = 1 ∨ ci = 6) : CO RX10 36 ci 1 mX7_otherEnd := by
  rcases h with rfl | rfl | rfl
  · exact co_X10_36_7
  · exact co_X10_36_1
  · exact co_X10_36_6
theorem co3_X11_290 {ci : Nat} (h : ci = 7 ∨ ci = 1 ∨ ci = 6) : CO RX11 290 ci 1 mX7_leadsFrom := by
  rcases h with rfl | rfl | rfl
  · exact co_X11_290_7
  · exact co_X11_290_1
  · exact co_X11_290_6
theorem co3_X2_68 {ci : Nat} (h : ci = 7 ∨ ci = 1 ∨ ci = 6) : CO RX2 68 ci 1 mX7_shareWith := by
  rcases h with rfl | rfl | rfl
  · exact co_X2_68_7
  · exact co_X2_68_1
  · exact co_X2_68_6
theorem co3_X4_90 {ci : Nat} (h : ci = 7 ∨ ci = 1 ∨ ci = 6) : CO RX4 90 ci 1 mX7_leadsFrom := by
  rcases h with rfl | rfl | rfl
  · exact co_X4_90_7
  · exact co_X4_90_1
  · exact co_X4_90_6
theorem co3_X7_42 {ci : Nat} (h : ci = 7 ∨ ci = 1 ∨ ci = 6) : CO RX7 42 ci 1 mX7_toldAsStretch := by
  rcases h with rfl | rfl | rfl
  · exact co_X7_42_7
  · exact co_X7_42_1
  · exact co_X7_42_6
