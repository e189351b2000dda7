theorem lNne {x : Nat} (h0 : x ≠ 0) (hx : x < 2 ^ 63) : ¬ lN x = 0 := by
  intro z
  exact h0 ((pk_lEQ hx (by decide)).mp z)
def EU : Nat → Nat → Nat → Prop
  | 0, _, y => y = 0
  | t + 1, x, y => y = 0 ∨ EU t y (x % y)
theorem EU_0 (t x : Nat) : EU t x 0 := by
  cases t with
  | zero => rfl
  | succ t => exact Or.inl rfl
def fb : Nat → Nat
  | 0 => 0
  | 1 => 1
  | n + 2 => fb (n + 1) + fb n
theorem EU_fb : ∀ (k t x y : Nat), y < fb (k + 1) → k ≤ t → EU t x y
  | 0, t, x, y, h, _ => by
    have : fb (0 + 1) = 1 := rfl
    obtain rfl : y = 0 := by omega
    exact EU_0 t x
  | 1, t, x, y, h, _ => by
    have : fb (1 + 1) = 1 := rfl
    obtain rfl : y = 0 := by omega
    exact EU_0 t x
  | k + 2, t, x, y, h, ht => by
    have h3 : fb (k + 3) = fb (k + 2) + fb (k + 1) := rfl
    obtain ⟨t1, rfl⟩ : ∃ t1, t = t1 + 1 := ⟨t - 1, by omega⟩
    by_cases hy : y = 0
    · exact Or.inl hy
    refine Or.inr ?_
    by_cases hr : x % y < fb (k + 2)
    · exact EU_fb (k + 1) t1 y (x % y) hr (by omega)
    · obtain ⟨t2, rfl⟩ : ∃ t2, t1 = t2 + 1 := ⟨t1 - 1, by omega⟩
      by_cases hr0 : x % y = 0
      · exact Or.inl hr0
      refine Or.inr ?_
      have h1 : x % y < y := Nat.mod_lt _ (by omega)
      have h2 : y % (x % y) ≤ y - x % y := by
        rw [Nat.mod_eq_sub_mod (Nat.le_of_lt h1)]
        exact Nat.mod_le _ _
      have h4 : k + 2 + 1 = k + 3 := rfl
      exact EU_fb k t2 (x % y) (y % (x % y)) (by rw [h4, h3] at h; omega) (by omega)
theorem fb84 : 2520 ^ 5 < fb 84 := by
  have f0 : fb 0 = 0 := rfl
  have f1 : fb 1 = 1 := rfl
  have f2 : fb 2 = 1 := by
    show fb 1 + fb 0 = _
    rw [f1, f0]
  have f3 : fb 3 = 2 := by
    show fb 2 + fb 1 = _
    rw [f2, f1]
  have f4 : fb 4 = 3 := by
    show fb 3 + fb 2 = _
    rw [f3, f2]
  have f5 : fb 5 = 5 := by
    show fb 4 + fb 3 = _
    rw [f4, f3]
  have f6 : fb 6 = 8 := by
    show fb 5 + fb 4 = _
    rw [f5, f4]
  have f7 : fb 7 = 13 := by
    show fb 6 + fb 5 = _
    rw [f6, f5]
  have f8 : fb 8 = 21 := by
    show fb 7 + fb 6 = _
    rw [f7, f6]
  have f9 : fb 9 = 34 := by
    show fb 8 + fb 7 = _
    rw [f8, f7]
  have f10 : fb 10 = 55 := by
    show fb 9 + fb 8 = _
    rw [f9, f8]
  have f11 : fb 11 = 89 := by
    show fb 10 + fb 9 = _
    rw [f10, f9]
  have f12 : fb 12 = 144 := by
    show fb 11 + fb 10 = _
    rw [f11, f10]
  have f13 : fb 13 = 233 := by
    show fb 12 + fb 11 = _
    rw [f12, f11]
  have f14 : fb 14 = 377 := by
    show fb 13 + fb 12 = _
    rw [f13, f12]
  have f15 : fb 15 = 610 := by
    show fb 14 + fb 13 = _
    rw [f14, f13]
  have f16 : fb 16 = 987 := by
    show fb 15 + fb 14 = _
    rw [f15, f14]
  have f17 : fb 17 = 1597 := by
    show fb 16 + fb 15 = _
    rw [f16, f15]
  have f18 : fb 18 = 2584 := by
    show fb 17 + fb 16 = _
    rw [f17, f16]
  have f19 : fb 19 = 4181 := by
    show fb 18 + fb 17 = _
    rw [f18, f17]
  have f20 : fb 20 = 6765 := by
    show fb 19 + fb 18 = _
    rw [f19, f18]
  have f21 : fb 21 = 10946 := by
    show fb 20 + fb 19 = _
    rw [f20, f19]
  have f22 : fb 22 = 17711 := by
    show fb 21 + fb 20 = _
    rw [f21, f20]
  have f23 : fb 23 = 28657 := by
    show fb 22 + fb 21 = _
    rw [f22, f21]
  have f24 : fb 24 = 46368 := by
    show fb 23 + fb 22 = _
    rw [f23, f22]
  have f25 : fb 25 = 75025 := by
    show fb 24 + fb 23 = _
    rw [f24, f23]
  have f26 : fb 26 = 121393 := by
    show fb 25 + fb 24 = _
    rw [f25, f24]
  have f27 : fb 27 = 196418 := by
    show fb 26 + fb 25 = _
    rw [f26, f25]
  have f28 : fb 28 = 317811 := by
    show fb 27 + fb 26 = _
    rw [f27, f26]
  have f29 : fb 29 = 514229 := by
    show fb 28 + fb 27 = _
    rw [f28, f27]
  have f30 : fb 30 = 832040 := by
    show fb 29 + fb 28 = _
    rw [f29, f28]
  have f31 : fb 31 = 1346269 := by
    show fb 30 + fb 29 = _
    rw [f30, f29]
  have f32 : fb 32 = 2178309 := by
    show fb 31 + fb 30 = _
    rw [f31, f30]
  have f33 : fb 33 = 3524578 := by
    show fb 32 + fb 31 = _
    rw [f32, f31]
  have f34 : fb 34 = 5702887 := by
    show fb 33 + fb 32 = _
    rw [f33, f32]
  have f35 : fb 35 = 9227465 := by
    show fb 34 + fb 33 = _
    rw [f34, f33]
  have f36 : fb 36 = 14930352 := by
    show fb 35 + fb 34 = _
    rw [f35, f34]
  have f37 : fb 37 = 24157817 := by
    show fb 36 + fb 35 = _
    rw [f36, f35]
  have f38 : fb 38 = 39088169 := by
    show fb 37 + fb 36 = _
    rw [f37, f36]
  have f39 : fb 39 = 63245986 := by
    show fb 38 + fb 37 = _
    rw [f38, f37]
  have f40 : fb 40 = 102334155 := by
    show fb 39 + fb 38 = _
    rw [f39, f38]
  have f41 : fb 41 = 165580141 := by
    show fb 40 + fb 39 = _
    rw [f40, f39]
  have f42 : fb 42 = 267914296 := by
    show fb 41 + fb 40 = _
    rw [f41, f40]
  have f43 : fb 43 = 433494437 := by
    show fb 42 + fb 41 = _
    rw [f42, f41]
  have f44 : fb 44 = 701408733 := by
    show fb 43 + fb 42 = _
    rw [f43, f42]
  have f45 : fb 45 = 1134903170 := by
    show fb 44 + fb 43 = _
    rw [f44, f43]
  have f46 : fb 46 = 1836311903 := by
    show fb 45 + fb 44 = _
    rw [f45, f44]
  have f47 : fb 47 = 2971215073 := by
    show fb 46 + fb 45 = _
    rw [f46, f45]
  have f48 : fb 48 = 4807526976 := by
    show fb 47 + fb 46 = _
    rw [f47, f46]
  have f49 : fb 49 = 7778742049 := by
    show fb 48 + fb 47 = _
    rw [f48, f47]
  have f50 : fb 50 = 12586269025 := by
    show fb 49 + fb 48 = _
    rw [f49, f48]
  have f51 : fb 51 = 20365011074 := by
    show fb 50 + fb 49 = _
    rw [f50, f49]
  have f52 : fb 52 = 32951280099 := by
    show fb 51 + fb 50 = _
    rw [f51, f50]
  have f53 : fb 53 = 53316291173 := by
    show fb 52 + fb 51 = _
    rw [f52, f51]
  have f54 : fb 54 = 86267571272 := by
    show fb 53 + fb 52 = _
    rw [f53, f52]
  have f55 : fb 55 = 139583862445 := by
    show fb 54 + fb 53 = _
    rw [f54, f53]
  have f56 : fb 56 = 225851433717 := by
    show fb 55 + fb 54 = _
    rw [f55, f54]
  have f57 : fb 57 = 365435296162 := by
    show fb 56 + fb 55 = _
    rw [f56, f55]
  have f58 : fb 58 = 591286729879 := by
    show fb 57 + fb 56 = _
    rw [f57, f56]
  have f59 : fb 59 = 956722026041 := by
    show fb 58 + fb 57 = _
    rw [f58, f57]
  have f60 : fb 60 = 1548008755920 := by
    show fb 59 + fb 58 = _
    rw [f59, f58]
  have f61 : fb 61 = 2504730781961 := by
    show fb 60 + fb 59 = _
    rw [f60, f59]
  have f62 : fb 62 = 4052739537881 := by
    show fb 61 + fb 60 = _
    rw [f61, f60]
  have f63 : fb 63 = 6557470319842 := by
    show fb 62 + fb 61 = _
    rw [f62, f61]
  have f64 : fb 64 = 10610209857723 := by
    show fb 63 + fb 62 = _
    rw [f63, f62]
  have f65 : fb 65 = 17167680177565 := by
    show fb 64 + fb 63 = _
    rw [f64, f63]
  have f66 : fb 66 = 27777890035288 := by
    show fb 65 + fb 64 = _
    rw [f65, f64]
  have f67 : fb 67 = 44945570212853 := by
    show fb 66 + fb 65 = _
    rw [f66, f65]
  have f68 : fb 68 = 72723460248141 := by
    show fb 67 + fb 66 = _
    rw [f67, f66]
  have f69 : fb 69 = 117669030460994 := by
    show fb 68 + fb 67 = _
    rw [f68, f67]
  have f70 : fb 70 = 190392490709135 := by
    show fb 69 + fb 68 = _
    rw [f69, f68]
  have f71 : fb 71 = 308061521170129 := by
    show fb 70 + fb 69 = _
    rw [f70, f69]
  have f72 : fb 72 = 498454011879264 := by
    show fb 71 + fb 70 = _
    rw [f71, f70]
  have f73 : fb 73 = 806515533049393 := by
    show fb 72 + fb 71 = _
    rw [f72, f71]
  have f74 : fb 74 = 1304969544928657 := by
    show fb 73 + fb 72 = _
    rw [f73, f72]
  have f75 : fb 75 = 2111485077978050 := by
    show fb 74 + fb 73 = _
    rw [f74, f73]
  have f76 : fb 76 = 3416454622906707 := by
    show fb 75 + fb 74 = _
    rw [f75, f74]
  have f77 : fb 77 = 5527939700884757 := by
    show fb 76 + fb 75 = _
    rw [f76, f75]
  have f78 : fb 78 = 8944394323791464 := by
    show fb 77 + fb 76 = _
    rw [f77, f76]
  have f79 : fb 79 = 14472334024676221 := by
    show fb 78 + fb 77 = _
    rw [f78, f77]
  have f80 : fb 80 = 23416728348467685 := by
    show fb 79 + fb 78 = _
    rw [f79, f78]
  have f81 : fb 81 = 37889062373143906 := by
    show fb 80 + fb 79 = _
    rw [f80, f79]
  have f82 : fb 82 = 61305790721611591 := by
    show fb 81 + fb 80 = _
    rw [f81, f80]
  have f83 : fb 83 = 99194853094755497 := by
    show fb 82 + fb 81 = _
    rw [f82, f81]
  have f84 : fb 84 = 160500643816367088 := by
    show fb 83 + fb 82 = _
    rw [f83, f82]
  rw [f84]
  decide

set_option maxHeartbeats 4000000 in
set_option maxRecDepth 100000 in
theorem l_X12_told {d : Nat} {S : aS} {Q : Option Value → aS → Prop} {a b : Nat} {w : Int32} (ha : a < 2 ^ 63) (hb0 : 0 < b) (hb : b < 2 ^ 63) (k : Q (some (.long (lN ((if w = 0 then a else b) / Nat.gcd a b)))) S) : ∀ (y x : Nat), x < 2 ^ 63 → y < 2 ^ 63 → (x ≠ 0 ∨ y ≠ 0) → Nat.gcd x y = Nat.gcd a b → Ev none mX12_told d 0 6 [some (.long (lN a)), none, some (.long (lN b)), none, some (.int w), some (.long (lN x)), none, some (.long (lN y)), none, none, none] [] S Q := by
  intro y
  induction y using Nat.strongRecOn with
  | _ y ih =>
    intro x hx hy h0 hgc
    by_cases e : y = 0
    · subst e
      refine Ev_lload dX12_told_6 rfl ?_
      refine Ev_lconst (v := 0) dX12_told_8 (by decide) ?_
      refine Ev_lcmp dX12_told_9 ?_
      refine Ev_if_eq dX12_told_10 (fun _ => ?_) (fun c => absurd (lg_eq.mpr (by decide)) c)
      refine Ev_iload dX12_told_31 rfl ?_
      refine Ev_if_ne dX12_told_33 (fun c1 => ?_) (fun c1 => ?_)
      · skip
        refine Ev_lload_n dX12_told_40 rfl ?_
        refine Ev_lload dX12_told_41 rfl ?_
        refine Ev_ldiv dX12_told_43 (lNne (by omega) hx) ?_
        refine Ev_topl (y := lN (b / x)) (pk_lDiv hb (by omega) hx) ?_
        refine Ev_lret dX12_told_44 rfl ?_
        rw [if_neg c1, ← hgc, Nat.gcd_zero_right] at k
        exact k
      · skip
        refine Ev_lload_n dX12_told_36 rfl ?_
        refine Ev_goto dX12_told_37 ?_
        refine Ev_lload dX12_told_41 rfl ?_
        refine Ev_ldiv dX12_told_43 (lNne (by omega) hx) ?_
        refine Ev_topl (y := lN (a / x)) (pk_lDiv ha (by omega) hx) ?_
        refine Ev_lret dX12_told_44 rfl ?_
        rw [if_pos c1, ← hgc, Nat.gcd_zero_right] at k
        exact k
    · have hm : x % y < y := Nat.mod_lt _ (by omega)
      refine Ev_lload dX12_told_6 rfl ?_
      refine Ev_lconst (v := 0) dX12_told_8 (by decide) ?_
      refine Ev_lcmp dX12_told_9 ?_
      refine Ev_if_eq dX12_told_10 (fun c => absurd c (fun c => lNne e hy (by rw [yeq]; exact lg_eq.mp c))) (fun _ => ?_)
      refine Ev_lload dX12_told_13 rfl ?_
      refine Ev_lload dX12_told_15 rfl ?_
      refine Ev_lrem dX12_told_17 (lNne e hy) ?_
      refine Ev_topl (y := lN (x % y)) (pk_lRem hx (by omega) hy) ?_
      refine Ev_lstore dX12_told_18 rfl ?_
      refine Ev_lload dX12_told_20 rfl ?_
      refine Ev_lstore dX12_told_22 rfl ?_
      refine Ev_lload dX12_told_24 rfl ?_
      refine Ev_lstore dX12_told_26 rfl ?_
      refine Ev_goto dX12_told_28 ?_
      refine Ev_loc (la2 := [some (.long (lN a)), none, some (.long (lN b)), none, some (.int w), some (.long (lN y)), none, some (.long (lN (x % y))), none, none, none]) ⟨rfl, ⟨rfl, ⟨rfl, ⟨rfl, ⟨rfl, trivial⟩⟩⟩⟩⟩ ?_
      exact ih (x % y) hm y hy (by omega) (Or.inl e) (by rw [Nat.gcd_comm, ← Nat.gcd_rec, Nat.gcd_comm]; exact hgc)

set_option maxHeartbeats 4000000 in
set_option maxRecDepth 100000 in
theorem c_X12_told {d : Nat} {S : aS} {Q : Option Value → aS → Prop} {a b : Nat} {w : Int32} (ha : a < 2 ^ 63) (hb0 : 0 < b) (hb : b < 2 ^ 63) (k : Q (some (.long (lN ((if w = 0 then a else b) / Nat.gcd a b)))) S) : Mth mX12_told d 0 [.long (lN a), .long (lN b), .int w] S Q := by
  refine Mth_of (by decide) rfl ?_
  refine Ev_lload_n dX12_told_0 rfl ?_
  refine Ev_lstore dX12_told_1 rfl ?_
  refine Ev_lload_n dX12_told_3 rfl ?_
  refine Ev_lstore dX12_told_4 rfl ?_
  exact l_X12_told ha hb0 hb k b a ha hb (by omega) rfl

set_option maxHeartbeats 4000000 in
set_option maxRecDepth 100000 in
theorem l_X11_gcd {d : Nat} {S : aS} {Q : Option Value → aS → Prop} {a b : Nat} (k : Q (some (.long (lN (Nat.gcd a b)))) S) : ∀ (t s x y : Nat), s + t = 100 → EU t x y → x < 2 ^ 63 → y < 2 ^ 63 → Nat.gcd x y = Nat.gcd a b → Ev none mX11_commonDivisor d 0 9 [some (.long (lN a)), none, some (.long (lN b)), none, some (.long (lN x)), none, some (.long (lN y)), none, some (.int (nI s)), none, none] [] S Q := by
  intro t
  induction t with
  | zero =>
    intro s x y hs he hx hy hgc
    obtain rfl : y = 0 := he
    refine Ev_iload dX11_commonDivisor_9 rfl ?_
    refine Ev_bipush (v := 100) dX11_commonDivisor_11 (by decide) ?_
    refine Ev_icmp_ge dX11_commonDivisor_13 (fun _ => ?_) (fun c => absurd ((nle (a := 100) (by omega) (by omega)).mpr (by omega)) c)
    refine Ev_lload dX11_commonDivisor_44 rfl ?_
    refine Ev_lret dX11_commonDivisor_46 rfl ?_
    rw [← hgc, Nat.gcd_zero_right] at k
    exact k
  | succ t ih =>
    intro s x y hs he hx hy hgc
    by_cases e : y = 0
    · subst e
      refine Ev_iload dX11_commonDivisor_9 rfl ?_
      refine Ev_bipush (v := 100) dX11_commonDivisor_11 (by decide) ?_
      refine Ev_icmp_ge dX11_commonDivisor_13 (fun c => absurd c (fun z => absurd ((nle (a := 100) (by omega) (by omega)).mp z) (by omega))) (fun _ => ?_)
      refine Ev_lload dX11_commonDivisor_16 rfl ?_
      refine Ev_lconst (v := 0) dX11_commonDivisor_18 (by decide) ?_
      refine Ev_lcmp dX11_commonDivisor_19 ?_
      refine Ev_if_eq dX11_commonDivisor_20 (fun _ => ?_) (fun c => absurd (lg_eq.mpr (by decide)) c)
      refine Ev_lload dX11_commonDivisor_44 rfl ?_
      refine Ev_lret dX11_commonDivisor_46 rfl ?_
      rw [← hgc, Nat.gcd_zero_right] at k
      exact k
    · have hm : x % y < y := Nat.mod_lt _ (by omega)
      refine Ev_iload dX11_commonDivisor_9 rfl ?_
      refine Ev_bipush (v := 100) dX11_commonDivisor_11 (by decide) ?_
      refine Ev_icmp_ge dX11_commonDivisor_13 (fun c => absurd c (fun z => absurd ((nle (a := 100) (by omega) (by omega)).mp z) (by omega))) (fun _ => ?_)
      refine Ev_lload dX11_commonDivisor_16 rfl ?_
      refine Ev_lconst (v := 0) dX11_commonDivisor_18 (by decide) ?_
      refine Ev_lcmp dX11_commonDivisor_19 ?_
      refine Ev_if_eq dX11_commonDivisor_20 (fun c => absurd c (fun c => lNne e hy (by rw [yeq]; exact lg_eq.mp c))) (fun _ => ?_)
      refine Ev_lload dX11_commonDivisor_23 rfl ?_
      refine Ev_lload dX11_commonDivisor_25 rfl ?_
      refine Ev_lrem dX11_commonDivisor_27 (lNne e hy) ?_
      refine Ev_topl (y := lN (x % y)) (pk_lRem hx (by omega) hy) ?_
      refine Ev_lstore dX11_commonDivisor_28 rfl ?_
      refine Ev_lload dX11_commonDivisor_30 rfl ?_
      refine Ev_lstore dX11_commonDivisor_32 rfl ?_
      refine Ev_lload dX11_commonDivisor_34 rfl ?_
      refine Ev_lstore dX11_commonDivisor_36 rfl ?_
      refine Ev_iinc (v := nI (s + 1)) dX11_commonDivisor_38 rfl (nI_1 _) rfl ?_
      refine Ev_goto dX11_commonDivisor_41 ?_
      refine Ev_loc (la2 := [some (.long (lN a)), none, some (.long (lN b)), none, some (.long (lN y)), none, some (.long (lN (x % y))), none, some (.int (nI (s + 1))), none, none]) ⟨rfl, ⟨rfl, ⟨rfl, ⟨rfl, ⟨rfl, trivial⟩⟩⟩⟩⟩ ?_
      exact ih (s + 1) y (x % y) (by omega) (he.resolve_left e) hy (by omega) (by rw [Nat.gcd_comm, ← Nat.gcd_rec, Nat.gcd_comm]; exact hgc)

set_option maxHeartbeats 4000000 in
set_option maxRecDepth 100000 in
theorem c_X11_gcd {d : Nat} {S : aS} {Q : Option Value → aS → Prop} {a b : Nat} (ha : a < 2 ^ 63) (hb : b ≤ 2520 ^ 5) (k : Q (some (.long (lN (Nat.gcd a b)))) S) : Mth mX11_commonDivisor d 0 [.long (lN a), .long (lN b)] S Q := by
  have hb2 : b < 2 ^ 63 := Nat.lt_of_le_of_lt hb (by decide)
  refine Mth_of (by decide) rfl ?_
  refine Ev_lload_n dX11_commonDivisor_0 rfl ?_
  refine Ev_lstore dX11_commonDivisor_1 rfl ?_
  refine Ev_lload_n dX11_commonDivisor_3 rfl ?_
  refine Ev_lstore dX11_commonDivisor_4 rfl ?_
  refine Ev_iconst (v := 0) dX11_commonDivisor_6 (by decide) ?_
  refine Ev_istore dX11_commonDivisor_7 rfl ?_
  exact l_X11_gcd k 100 0 a b (by omega) (EU_fb 83 100 a b (Nat.lt_of_le_of_lt hb fb84) (by decide)) ha hb2 rfl

set_option maxHeartbeats 4000000 in
set_option maxRecDepth 100000 in
theorem c_X11_least {d : Nat} {S : aS} {Q : Option Value → aS → Prop} {a b : Nat} {w : Int32} (ha : a < 2 ^ 63) (hb0 : 0 < b) (hb : b ≤ 2520 ^ 5) (k : Q (some (.long (lN ((if w = 0 then a else b) / Nat.gcd a b)))) S) : Mth mX11_inLeastTerms (d + 1) 0 [.long (lN a), .long (lN b), .int w] S Q := by
  have hb2 : b < 2 ^ 63 := Nat.lt_of_le_of_lt hb (by decide)
  have hg0 : 0 < Nat.gcd a b := Nat.gcd_pos_of_pos_right a hb0
  have hg2 : Nat.gcd a b < 2 ^ 63 := Nat.lt_of_le_of_lt (Nat.gcd_le_right a hb0) hb2
  refine Mth_of (by decide) rfl ?_
  refine Ev_lload_n dX11_inLeastTerms_0 rfl ?_
  refine Ev_lload_n dX11_inLeastTerms_1 rfl ?_
  refine Ev_callS (bc := 0) (b := 0) dX11_inLeastTerms_2 cs_X11_297 rfl (Nat.le_of_ble_eq_true rfl) (by omega) ?_
  refine c_X11_gcd ha hb ?_
  refine Ev_lstore dX11_inLeastTerms_5 rfl ?_
  refine Ev_lload dX11_inLeastTerms_7 rfl ?_
  refine Ev_lconst (v := 0) dX11_inLeastTerms_9 (by decide) ?_
  refine Ev_lcmp dX11_inLeastTerms_10 ?_
  refine Ev_if_ne dX11_inLeastTerms_11 (fun _ => ?_) (fun c => absurd c (fun c => lNne (by omega) hg2 (by rw [yeq]; exact lg_eq.mp c)))
  refine Ev_iload dX11_inLeastTerms_18 rfl ?_
  refine Ev_if_ne dX11_inLeastTerms_20 (fun c1 => ?_) (fun c1 => ?_)
  · skip
    refine Ev_lload_n dX11_inLeastTerms_27 rfl ?_
    refine Ev_lload dX11_inLeastTerms_28 rfl ?_
    refine Ev_ldiv dX11_inLeastTerms_30 (lNne (by omega) hg2) ?_
    refine Ev_topl (y := lN (b / Nat.gcd a b)) (pk_lDiv hb2 hg0 hg2) ?_
    refine Ev_lret dX11_inLeastTerms_31 rfl ?_
    rw [if_neg c1] at k
    exact k
  · skip
    refine Ev_lload_n dX11_inLeastTerms_23 rfl ?_
    refine Ev_goto dX11_inLeastTerms_24 ?_
    refine Ev_lload dX11_inLeastTerms_28 rfl ?_
    refine Ev_ldiv dX11_inLeastTerms_30 (lNne (by omega) hg2) ?_
    refine Ev_topl (y := lN (a / Nat.gcd a b)) (pk_lDiv ha hg0 hg2) ?_
    refine Ev_lret dX11_inLeastTerms_31 rfl ?_
    rw [if_pos c1] at k
    exact k

set_option maxHeartbeats 4000000 in
set_option maxRecDepth 100000 in
theorem l_X11_powerOf {d : Nat} {S : aS} {Q : Option Value → aS → Prop} {c m : Nat} (hm : m ≤ 12) (k : Q (some (.long (lN (c ^ m)))) S) : ∀ (t i : Nat) , i + t = m → Ev none mX11_powerOf d 0 5 [some (.long (lN c)), none, some (.int (nI m)), some (.long (lN (c ^ i))), none, some (.int (nI i))] [] S Q := by
  intro t
  induction t with
  | zero =>
    intro i  hi
    obtain rfl : i = m := by omega
    refine Ev_iload dX11_powerOf_5 rfl ?_
    refine Ev_iload_n dX11_powerOf_7 rfl ?_
    refine Ev_icmp_ge dX11_powerOf_8 (fun _ => ?_) (fun c => absurd ((nle (by omega) (by omega)).mpr (Nat.le_refl _)) c)
    refine Ev_lload_n dX11_powerOf_21 rfl ?_
    refine Ev_lret dX11_powerOf_22 rfl ?_
    exact k
  | succ t ih =>
    intro i  hi
    refine Ev_iload dX11_powerOf_5 rfl ?_
    refine Ev_iload_n dX11_powerOf_7 rfl ?_
    refine Ev_icmp_ge dX11_powerOf_8 (fun c => absurd c (fun z => absurd ((nle (by omega) (by omega)).mp z) (by omega))) (fun _ => ?_)
    refine Ev_lload_n dX11_powerOf_11 rfl ?_
    refine Ev_lload_n dX11_powerOf_12 rfl ?_
    refine Ev_lmul dX11_powerOf_13 ?_
    refine Ev_topl (y := lN ((c ^ i) * c)) (lmulN _ _) ?_
    refine Ev_lstore_n dX11_powerOf_14 rfl ?_
    refine Ev_iinc (v := nI (i + 1)) dX11_powerOf_15 rfl (nI_1 _) rfl ?_
    refine Ev_goto dX11_powerOf_18 ?_
    exact (Nat.pow_succ (n := c) (m := i)) ▸ ih (i + 1) (by omega)

set_option maxHeartbeats 4000000 in
set_option maxRecDepth 100000 in
theorem c_X11_powerOf {d : Nat} {S : aS} {Q : Option Value → aS → Prop} {c m : Nat} (hm : m ≤ 12) (k : Q (some (.long (lN (c ^ m)))) S) : Mth mX11_powerOf d 0 [.long (lN c), .int (nI m)] S Q := by
  refine Mth_of (by decide) rfl ?_
  refine Ev_lconst (v := 1) dX11_powerOf_0 (by decide) ?_
  refine Ev_lstore_n dX11_powerOf_1 rfl ?_
  refine Ev_iconst (v := 0) dX11_powerOf_2 (by decide) ?_
  refine Ev_istore dX11_powerOf_3 rfl ?_
  exact l_X11_powerOf hm k m 0 (by omega)

