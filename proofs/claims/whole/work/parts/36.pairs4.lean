theorem CA.u28 {S : aS} {flt tr du lw fr : Int32} {pl n q cs : Nat} {G : Nat → Nat → Nat} {ad : Nat → Nat} {z : Nat → Int} {la : Nat → Nat} {ce : Nat → Nat → Int32} {ro : Nat → Nat} {rb : Nat → Bool} (h : CA S flt tr du lw fr pl n q cs G ad z la ce ro rb) {g : Nat → Int64} : CA (S.set 28 (lA 7 g)) flt tr du lw fr pl n q cs G ad z la ce ro rb := by
  obtain ⟨h1, h2, h3, h4, h5, h6, h7, ⟨X1, ⟨x1, x2, x3, x4, x5, x6, x7, x8, x9, v, X2⟩, ⟨f3, X3, X3b⟩, ⟨f4, X4⟩, ⟨f5, X5⟩, X6, ⟨f7, X7⟩, X8, ⟨f9, X9⟩, f10, X10⟩, h9⟩ := h
  refine ⟨gn (by decide) h1, h2.off (by decide), h3.off (by decide), gn (by decide) h4, h5.off (by decide), h6.off (by decide), h7.off (by decide), ⟨fun k hk => ?_, ⟨x1, x2, x3, x4, x5, x6, x7, x8, x9, v, gn (by decide) X2⟩, ⟨f3, gn (by decide) X3, X3b⟩, ⟨f4, gn (by decide) X4⟩, ⟨f5, gn (by decide) X5⟩, gn (by decide) X6, ⟨f7, gn (by decide) X7⟩, gn (by decide) X8, ⟨g, gs X9⟩, f10, gn (by decide) X10⟩, gn (by decide) h9⟩
  obtain ⟨p1, s1, m1, g1, o1, t1, h⟩ := X1 k hk
  exact ⟨p1, s1, m1, g1, o1, t1, gn (by split <;> omega) h⟩

theorem CA.u29 {S : aS} {flt tr du lw fr : Int32} {pl n q cs : Nat} {G : Nat → Nat → Nat} {ad : Nat → Nat} {z : Nat → Int} {la : Nat → Nat} {ce : Nat → Nat → Int32} {ro : Nat → Nat} {rb : Nat → Bool} (h : CA S flt tr du lw fr pl n q cs G ad z la ce ro rb) {g : Nat → Int64} : CA (S.set 29 (lA 7 g)) flt tr du lw fr pl n q cs G ad z la ce ro rb := by
  obtain ⟨h1, h2, h3, h4, h5, h6, h7, ⟨X1, ⟨x1, x2, x3, x4, x5, x6, x7, x8, x9, v, X2⟩, ⟨f3, X3, X3b⟩, ⟨f4, X4⟩, ⟨f5, X5⟩, X6, ⟨f7, X7⟩, X8, ⟨f9, X9⟩, f10, X10⟩, h9⟩ := h
  refine ⟨gn (by decide) h1, h2.off (by decide), h3.off (by decide), gn (by decide) h4, h5.off (by decide), h6.off (by decide), h7.off (by decide), ⟨fun k hk => ?_, ⟨x1, x2, x3, x4, x5, x6, x7, x8, x9, v, gn (by decide) X2⟩, ⟨f3, gn (by decide) X3, X3b⟩, ⟨f4, gn (by decide) X4⟩, ⟨f5, gn (by decide) X5⟩, gn (by decide) X6, ⟨f7, gn (by decide) X7⟩, gn (by decide) X8, ⟨f9, gn (by decide) X9⟩, g, gs X10⟩, gn (by decide) h9⟩
  obtain ⟨p1, s1, m1, g1, o1, t1, h⟩ := X1 k hk
  exact ⟨p1, s1, m1, g1, o1, t1, gn (by split <;> omega) h⟩

theorem CA.u26 {S : aS} {flt tr du lw fr : Int32} {pl n q cs : Nat} {G : Nat → Nat → Nat} {ad : Nat → Nat} {z : Nat → Int} {la : Nat → Nat} {ce : Nat → Nat → Int32} {ro : Nat → Nat} {rb : Nat → Bool} (h : CA S flt tr du lw fr pl n q cs G ad z la ce ro rb) {g : Nat → Int32} : CA (S.set 26 (iA 7 g)) flt tr du lw fr pl n q cs G ad z la ce ro rb := by
  obtain ⟨h1, h2, h3, h4, h5, h6, h7, ⟨X1, ⟨x1, x2, x3, x4, x5, x6, x7, x8, x9, v, X2⟩, ⟨f3, X3, X3b⟩, ⟨f4, X4⟩, ⟨f5, X5⟩, X6, ⟨f7, X7⟩, X8, ⟨f9, X9⟩, f10, X10⟩, h9⟩ := h
  refine ⟨gn (by decide) h1, h2.off (by decide), h3.off (by decide), gn (by decide) h4, h5.off (by decide), h6.off (by decide), h7.off (by decide), ⟨fun k hk => ?_, ⟨x1, x2, x3, x4, x5, x6, x7, x8, x9, v, gn (by decide) X2⟩, ⟨f3, gn (by decide) X3, X3b⟩, ⟨f4, gn (by decide) X4⟩, ⟨f5, gn (by decide) X5⟩, gn (by decide) X6, ⟨g, gs X7⟩, gn (by decide) X8, ⟨f9, gn (by decide) X9⟩, f10, gn (by decide) X10⟩, gn (by decide) h9⟩
  obtain ⟨p1, s1, m1, g1, o1, t1, h⟩ := X1 k hk
  exact ⟨p1, s1, m1, g1, o1, t1, gn (by split <;> omega) h⟩

theorem RA.u45 {S : aS} {flt tr du lw fr : Int32} {pl n q cs : Nat} {G : Nat → Nat → Nat} {z : Nat → Int} {la : Nat → Nat} {ce : Nat → Nat → Int32} {ro : Nat → Nat} {rb : Nat → Bool} (h : RA S flt tr du lw fr pl n q cs G z la ce ro rb) {g : Nat → Int32} : RA (S.set 45 (iA 7 g)) flt tr du lw fr pl n q cs G z la ce ro rb := by
  obtain ⟨h1, h2, h3, h4, ⟨Y1, ⟨y2, Y2⟩, ⟨y3, Y3⟩, ⟨y4, Y4⟩, ⟨y5, Y5⟩, ⟨y6, Y6⟩, ⟨y7, Y7⟩, y8, Y8⟩⟩ := h
  refine ⟨h1.off (by decide), h2.off (by decide), h3.off (by decide), h4.off (by decide), ⟨fun k hk => ?_, ⟨y2, gn (by decide) Y2⟩, ⟨g, gs Y3⟩, ⟨y4, gn (by decide) Y4⟩, ⟨y5, gn (by decide) Y5⟩, ⟨y6, gn (by decide) Y6⟩, ⟨y7, gn (by decide) Y7⟩, y8, gn (by decide) Y8⟩⟩
  obtain ⟨f, h⟩ := Y1 k hk
  exact ⟨f, gn (by omega) h⟩

theorem RA.u46 {S : aS} {flt tr du lw fr : Int32} {pl n q cs : Nat} {G : Nat → Nat → Nat} {z : Nat → Int} {la : Nat → Nat} {ce : Nat → Nat → Int32} {ro : Nat → Nat} {rb : Nat → Bool} (h : RA S flt tr du lw fr pl n q cs G z la ce ro rb) {g : Nat → Int32} : RA (S.set 46 (iA 6 g)) flt tr du lw fr pl n q cs G z la ce ro rb := by
  obtain ⟨h1, h2, h3, h4, ⟨Y1, ⟨y2, Y2⟩, ⟨y3, Y3⟩, ⟨y4, Y4⟩, ⟨y5, Y5⟩, ⟨y6, Y6⟩, ⟨y7, Y7⟩, y8, Y8⟩⟩ := h
  refine ⟨h1.off (by decide), h2.off (by decide), h3.off (by decide), h4.off (by decide), ⟨fun k hk => ?_, ⟨y2, gn (by decide) Y2⟩, ⟨y3, gn (by decide) Y3⟩, ⟨g, gs Y4⟩, ⟨y5, gn (by decide) Y5⟩, ⟨y6, gn (by decide) Y6⟩, ⟨y7, gn (by decide) Y7⟩, y8, gn (by decide) Y8⟩⟩
  obtain ⟨f, h⟩ := Y1 k hk
  exact ⟨f, gn (by omega) h⟩

theorem RA.u47 {S : aS} {flt tr du lw fr : Int32} {pl n q cs : Nat} {G : Nat → Nat → Nat} {z : Nat → Int} {la : Nat → Nat} {ce : Nat → Nat → Int32} {ro : Nat → Nat} {rb : Nat → Bool} (h : RA S flt tr du lw fr pl n q cs G z la ce ro rb) {g : Nat → Int32} : RA (S.set 47 (iA 5 g)) flt tr du lw fr pl n q cs G z la ce ro rb := by
  obtain ⟨h1, h2, h3, h4, ⟨Y1, ⟨y2, Y2⟩, ⟨y3, Y3⟩, ⟨y4, Y4⟩, ⟨y5, Y5⟩, ⟨y6, Y6⟩, ⟨y7, Y7⟩, y8, Y8⟩⟩ := h
  refine ⟨h1.off (by decide), h2.off (by decide), h3.off (by decide), h4.off (by decide), ⟨fun k hk => ?_, ⟨y2, gn (by decide) Y2⟩, ⟨y3, gn (by decide) Y3⟩, ⟨y4, gn (by decide) Y4⟩, ⟨g, gs Y5⟩, ⟨y6, gn (by decide) Y6⟩, ⟨y7, gn (by decide) Y7⟩, y8, gn (by decide) Y8⟩⟩
  obtain ⟨f, h⟩ := Y1 k hk
  exact ⟨f, gn (by omega) h⟩

theorem RA.u50 {S : aS} {flt tr du lw fr : Int32} {pl n q cs : Nat} {G : Nat → Nat → Nat} {z : Nat → Int} {la : Nat → Nat} {ce : Nat → Nat → Int32} {ro : Nat → Nat} {rb : Nat → Bool} (h : RA S flt tr du lw fr pl n q cs G z la ce ro rb) {g : Nat → Int64} : RA (S.set 50 (lA 7 g)) flt tr du lw fr pl n q cs G z la ce ro rb := by
  obtain ⟨h1, h2, h3, h4, ⟨Y1, ⟨y2, Y2⟩, ⟨y3, Y3⟩, ⟨y4, Y4⟩, ⟨y5, Y5⟩, ⟨y6, Y6⟩, ⟨y7, Y7⟩, y8, Y8⟩⟩ := h
  refine ⟨h1.off (by decide), h2.off (by decide), h3.off (by decide), h4.off (by decide), ⟨fun k hk => ?_, ⟨y2, gn (by decide) Y2⟩, ⟨y3, gn (by decide) Y3⟩, ⟨y4, gn (by decide) Y4⟩, ⟨y5, gn (by decide) Y5⟩, ⟨g, gs Y6⟩, ⟨y7, gn (by decide) Y7⟩, y8, gn (by decide) Y8⟩⟩
  obtain ⟨f, h⟩ := Y1 k hk
  exact ⟨f, gn (by omega) h⟩

theorem RA.u51 {S : aS} {flt tr du lw fr : Int32} {pl n q cs : Nat} {G : Nat → Nat → Nat} {z : Nat → Int} {la : Nat → Nat} {ce : Nat → Nat → Int32} {ro : Nat → Nat} {rb : Nat → Bool} (h : RA S flt tr du lw fr pl n q cs G z la ce ro rb) {g : Nat → Int64} : RA (S.set 51 (lA 7 g)) flt tr du lw fr pl n q cs G z la ce ro rb := by
  obtain ⟨h1, h2, h3, h4, ⟨Y1, ⟨y2, Y2⟩, ⟨y3, Y3⟩, ⟨y4, Y4⟩, ⟨y5, Y5⟩, ⟨y6, Y6⟩, ⟨y7, Y7⟩, y8, Y8⟩⟩ := h
  refine ⟨h1.off (by decide), h2.off (by decide), h3.off (by decide), h4.off (by decide), ⟨fun k hk => ?_, ⟨y2, gn (by decide) Y2⟩, ⟨y3, gn (by decide) Y3⟩, ⟨y4, gn (by decide) Y4⟩, ⟨y5, gn (by decide) Y5⟩, ⟨y6, gn (by decide) Y6⟩, ⟨g, gs Y7⟩, y8, gn (by decide) Y8⟩⟩
  obtain ⟨f, h⟩ := Y1 k hk
  exact ⟨f, gn (by omega) h⟩

theorem sumN_uz {f : Nat → Nat} {q e m : Nat} (h : q < m) : sumN (uz f q (f q + e)) m = sumN f m + e := by
  have h1 := sumN_ch (f := f) (g := uz f q (f q + e)) m h (fun k _ hne => uz_n _ _ hne)
  rw [uz_s] at h1
  omega
theorem shN_sum {G : Nat → Nat → Nat} {cs pl n p e : Nat} {A : Nat → Nat} (hg : GD pl n G) : ∀ k, k ≤ n → sumN (shN G cs p e A k) pl = sumN A pl + e * sumN (isG G cs p) k
  | 0, _ => by simp [shN, sumN]
  | k + 1, hk => by
    have ih := shN_sum (e := e) (A := A) (p := p) (cs := cs) hg k (by omega)
    cases h : gt G cs k p with
    | none => rw [shN_no h, ih]; simp only [sumN, isG_no h, Nat.add_zero]
    | some q =>
      rw [shN_so h, sumN_uz (gt_some hg (show k < n by omega) h).2.1, ih]
      simp only [sumN, isG_so h, Nat.mul_add, Nat.mul_one, Nat.add_assoc]
theorem stD_sum {G : Nat → Nat → Nat} {cs pl n : Nat} {w : Nat → Nat} (hg : GD pl n G) : ∀ p, p ≤ pl → sumN (stD G cs n w p) pl ≤ sumN w p * 2520
  | 0, _ => by
    show sumN (fun _ => 0) pl ≤ _
    rw [sumN_z pl (fun _ _ => rfl)]
    exact Nat.zero_le _
  | p + 1, hp => by
    have ih := stD_sum (cs := cs) (w := w) hg p (by omega)
    simp only [sumN]
    rw [Nat.add_mul]
    by_cases h : opN G cs n p = 0
    · rw [stD_no h, sumN_uz (show p < pl by omega)]
      omega
    · rw [stD_so h, shN_sum hg n (Nat.le_refl _)]
      have h1 : w p * (2520 / opN G cs n p) * sumN (isG G cs p) n ≤ w p * 2520 := by
        rw [Nat.mul_assoc]
        exact Nat.mul_le_mul_left _ (Nat.div_mul_le_self 2520 (opN G cs n p))
      omega
theorem dw0_sum : ∀ m, sumN (fun x => if x = 0 then 1 else 0) m ≤ 1 ∧ (m = 0 → sumN (fun x => if x = 0 then 1 else 0) m = 0)
  | 0 => ⟨Nat.zero_le _, fun _ => rfl⟩
  | m + 1 => by
    have ih := dw0_sum m
    refine ⟨?_, fun h => by omega⟩
    simp only [sumN]
    split
    · have := ih.2 (by assumption); omega
    · omega
theorem dwN_sum {G : Nat → Nat → Nat} {cs pl n : Nat} (hg : GD pl n G) : ∀ s, sumN (dwN G cs n pl s) pl ≤ 2520 ^ s
  | 0 => (dw0_sum pl).1
  | s + 1 => by
    rw [Nat.pow_succ]
    exact Nat.le_trans (stD_sum hg pl (Nat.le_refl _)) (Nat.mul_le_mul_right _ (dwN_sum hg s))
theorem dwN_lt {G : Nat → Nat → Nat} {cs pl n s p : Nat} (hg : GD pl n G) (hs : s ≤ 5) (hp : p < pl) : dwN G cs n pl s p < 2 ^ 63 :=
  Nat.lt_of_le_of_lt (Nat.le_trans (sumN_ge pl hp) (Nat.le_trans (dwN_sum hg s) (Nat.pow_le_pow_right (by decide) hs))) (by decide)

set_option maxHeartbeats 4000000 in
set_option maxRecDepth 100000 in
theorem p_dawdle : P_dawdle := by
  intro S hST a b c d
  obtain ⟨flt, tr, du, lw, fC, fR, pl, n, q, cs, G, ad, z, la, ce, ro, rb, hok, hC, hR⟩ := hST
  obtain ⟨hg, hnp, hq, hcs, hdu, hlw, hf, hro, hn8⟩ := id hok
  obtain ⟨c0, hcA, hcS, c10, hcT, hcR, hcN, hcX, c30⟩ := id hC
  obtain ⟨⟨ra, rp, rs, ea, dp, bm, bi, m31⟩, hmN, hmR, hmS, hmX⟩ := id hR
  have hp7 := hg.1
  have hn9 := hg.2.1
  by_cases hx : (0 ≤ b.toInt ∧ b.toInt < pl) ∧ (0 ≤ a.toInt ∧ a.toInt ≤ 5) ∧ (0 ≤ c.toInt ∧ c.toInt ≤ 1)
  · obtain ⟨m, hm, rfl⟩ : ∃ m, m ≤ 5 ∧ a = nI m := ⟨a.toInt.toNat, by omega, (toN (by omega)).1⟩
    obtain ⟨p, hp, rfl⟩ : ∃ p, p < pl ∧ b = nI p := ⟨b.toInt.toNat, by omega, (toN (by omega)).1⟩
    obtain ⟨sa, hA, hsa⟩ := hcT
    obtain ⟨-, -, -, -, -, -, -, c27, ⟨f28, c28⟩, f29, c29⟩ := hcX
    obtain ⟨-, -, -, -, -, ⟨f50, s50⟩, ⟨f51, s51⟩, -⟩ := hmX
    refine c_X11_dawdle c0 hp7 hn9 hq c10 hg hA hsa hcN c27 hm hp c28 c29 hx.2.2 (dwN_lt hg hm hp) (fun X N => ?_)
    have g : ∀ (x : Nat) (c2 : aE), 30 < x → S[x]? = some c2 → ((S.set 29 (lA 7 X)).set 28 (lA 7 N))[x]? = some c2 := fun x c hx h => gn (by omega) (gn (by omega) h)
    refine ⟨_, rfl, ⟨_, g 31 _ (by decide) m31⟩, ?_⟩
    exact c_X12_dawdle hg hcs (g 31 _ (by decide) m31) ((hmN.off (by decide)).off (by decide)) hm hp hx.2.2 (g 50 _ (by decide) s50) (g 51 _ (by decide) s51) (dwN_lt hg hm hp) (fun T W => ⟨rfl, ⟨flt, tr, du, lw, fC, fR, pl, n, q, cs, G, ad, z, la, ce, ro, rb, hok, (((hC.u29).u28).off (by decide)).off (by decide), (((hR.off (by decide)).off (by decide)).u51).u50⟩⟩)
  · refine c_X11_dawdle_bad c0 hp7 hn9 hq c10 hx ?_
    refine ⟨_, rfl, ⟨_, m31⟩, ?_⟩
    exact c_X12_dawdle_bad hg hcs m31 hmN hx ⟨rfl, ⟨flt, tr, du, lw, fC, fR, pl, n, q, cs, G, ad, z, la, ce, ro, rb, hok, hC, hR⟩⟩

