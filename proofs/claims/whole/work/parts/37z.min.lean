/-! ===== Math.min ===== -/
theorem min_sta : Cond.static Lib.Math.min.name ∈ BIG := okB (by decide +kernel)
theorem min_ini : Cond.initialized "java/lang/Math" ∈ BIG := okB (by decide +kernel)
theorem min_code : Cond.code Lib.Math.min.name Lib.Math.min.code 2 (some .int) ∈ BIG := okB (by decide +kernel)
theorem wm_X2_39 : Cond.methodLink RX2 39 Lib.Math.min.name ∈ BIG := okB (by decide +kernel)
theorem wm_X3_66 : Cond.methodLink RX3 66 Lib.Math.min.name ∈ BIG := okB (by decide +kernel)
theorem wm_X4_33 : Cond.methodLink RX4 33 Lib.Math.min.name ∈ BIG := okB (by decide +kernel)
theorem Ev_min {X : Option (Nat × (Nat → Int32))} {mi : MI} {d b pc pc2 : Nat} {la : aL} {st : List Value} {S : aS} {Q : Option Value → aS → Prop} {idx : Nat} {x y : Int32} (hd : nx mi.2.1 pc (.invokestatic idx) 3 pc2) (hw : Cond.methodLink mi.1.cls idx Lib.Math.min.name ∈ BIG) (h8 : (st.map fun v => v.category).sum ≤ 8) (k : Ev X mi (d + 1) b pc2 la (.int (if y < x then y else x) :: st) S Q) : Ev X mi (d + 1) b pc la (.int y :: .int x :: st) S Q := by
  intro p l e R s m args below meth c D cA A L ws H locs cells slots Qf ls st' hC hX hW hl hs hc hq hK
  obtain ⟨r0, rfl, hs0⟩ := sr_int hs
  obtain ⟨r1, rfl, hs1⟩ := sr_int hs0
  obtain ⟨hd, rfl⟩ := hd
  have hts := hC.2.2.2.2.2.1
  have hfr := hC.2.2.2.2.2.2.2.2.2.1
  have hlo := hC.2.2.2.2.2.2.2.2.2.2
  obtain ⟨h0, lc, hl1, hl2⟩ := id hl
  refine va_mmin hC.1 hC.2.1 (by rw [hC.2.2.2.1]; exact hl1.1.symm) hC.2.2.2.2.1 (hts _ hw) (hts _ min_sta) (hts _ min_ini) (hts _ min_code) (by omega) ?_ (by omega) (by omega) hd (k p l e R s m args below meth c D cA A L ws H locs cells slots Qf ls _ hC hX hW hl (sr_push rfl hs1) hc hq hK)
  rw [sr_cat hs1]
  omega
theorem Ev_minN {X : Option (Nat × (Nat → Int32))} {mi : MI} {d b pc pc2 : Nat} {la : aL} {st : List Value} {S : aS} {Q : Option Value → aS → Prop} {idx u v : Nat} (hd : nx mi.2.1 pc (.invokestatic idx) 3 pc2) (hw : Cond.methodLink mi.1.cls idx Lib.Math.min.name ∈ BIG) (h8 : (st.map fun v => v.category).sum ≤ 8) (hu : u < 2147483648) (hv : v < 2147483648) (k : Ev X mi (d + 1) b pc2 la (.int (nI (min u v)) :: st) S Q) : Ev X mi (d + 1) b pc la (.int (nI v) :: .int (nI u) :: st) S Q := by
  refine Ev_min hd hw h8 ?_
  by_cases h : v < u
  · rw [if_pos ((nlt hv hu).mpr h)]
    rw [Nat.min_eq_right (by omega)] at k
    exact k
  · rw [if_neg (fun z => h ((nlt hv hu).mp z))]
    rw [Nat.min_eq_left (by omega)] at k
    exact k
