/-! ===== the component's worth ===== -/
theorem bz_nr (b : Bool) : narrow .boolean (.int (bz b)) = .int (bz b) := by cases b <;> decide
theorem bz_fi (b : Bool) : fits .boolean (.int (bz b)) = true := by cases b <;> decide
theorem eC.l {S S2 : aS} {pl n q cs : Nat} {du lw fr : Int32} {G : Nat → Nat → Nat} {fz : Int} {ad : Nat → Nat} (h : eC S pl n q cs du lw fr G fz ad) (hF : FrL S S2) : eC S2 pl n q cs du lw fr G fz ad := by
  obtain ⟨h1, ⟨sa, h2, h2b⟩, h3, fa, h4, h4b⟩ := h
  exact ⟨hF.at h1 (by omega), ⟨sa, hF.at h2 (by omega), h2b⟩, fun j hj => ⟨hF.at (h3 j hj).1 (by have := (h3 j hj).2.1; omega), (h3 j hj).2⟩, fa, hF.at h4 (by omega), h4b⟩
theorem eC.cl {S : aS} {pl n q cs j : Nat} {du lw fr : Int32} {G : Nat → Nat → Nat} {fz : Int} {ad : Nat → Nat} {b : Bool} (h : eC S pl n q cs du lw fr G fz ad) (hcs : cs < 512) (hn : n ≤ 9) (hj : j < n) : eC (S.set (ad j) (stc G (setb cs j b) fz j)) pl n q (setb cs j b) du lw fr G fz ad := by
  obtain ⟨h1, ⟨sa, h2, h2b⟩, h3, fa, h4, h4b⟩ := h
  have had := (h3 j hj).2.1
  exact ⟨gn (by omega) h1, ⟨sa, gn (by omega) h2, h2b⟩, h3.setc hcs hn hj, fa, gn (by omega) h4, h4b⟩
theorem cG.off {S : aS} {go mo mi wa uw mu : Int32} {acc : rV} {s a : Nat} {r : Nat → Nat} {c : aE} (h : cG S go mo mi wa uw mu acc s r) (ha : 55 < a) : cG (S.set a c) go mo mi wa uw mu acc s r := by
  obtain ⟨ks, fo, sc, R, K, h1, h2, h3, h4, h5, h6⟩ := h
  exact ⟨ks, fo, sc, R, K, gn (by omega) h1, gn (by omega) h2, gn (by omega) h3, h4, h5, h6.off (by omega)⟩
theorem FrL.back {S S2 S4 : aS} {a : Nat} {c c0 : aE} (h : FrL S S2) (h4 : FrL (S2.set a c) S4) (ha : 55 < a) (h0 : S[a]? = some c0) : FrL S (S4.set a c0) := by
  intro b h1 h2
  have h2a : S2[a]? = some c0 := h.at h0 (by omega)
  have h4a : S4[a]? = some c := h4.at (gs h2a) (by omega)
  by_cases e : b = a
  · subst e
    rw [gs h4a, h0]
  · rw [List.getElem?_set_ne (fun z => e z.symm), h4 b h1 h2, List.getElem?_set_ne (fun z => e z.symm)]
    exact h b h1 h2
def wrA (a b : Int32) : Int32 := if a = -9 ∨ b = -9 then -9 else a - b

set_option maxHeartbeats 4000000 in
set_option maxRecDepth 100000 in
theorem c_X11_worth_bad {d : Nat} {S : aS} {Q : Option Value → aS → Prop} {lf : Int32} (hO : S[0]? = some (co lf)) {pl n q : Nat} {du lw fr : Int32} (hp7 : pl ≤ 7) (hn9 : n ≤ 9) (hq : q ≤ 8) (hN : S[10]? = some (nt (nI pl) (nI n) du lw fr (nI q))) {x : Int32} (hx : ¬ (0 ≤ x.toInt ∧ x.toInt < n)) (k : Q (some (.int (-1))) S) : Mth mX11_worth (d + 2) 0 [.ref 0, .int x] S Q := by
  refine Mth_of (by decide) rfl ?_
  refine Ev_aload_n dX11_worth_0 rfl ?_
  refine Ev_get dX11_worth_1 fg_X11_21_11 hO rfl ?_
  refine Ev_iload_n dX11_worth_4 rfl ?_
  refine Ev_callV (bc := 0) (b := 0) dX11_worth_5 cv_X11_99 rfl hN (Nat.le_of_ble_eq_true rfl) (by omega) ?_
  refine c_X2_stretchAt_bad hp7 hn9 hq hN hx ?_
  refine Ev_astore_nN dX11_worth_8 rfl ?_
  refine Ev_aload_nN dX11_worth_9 rfl ?_
  refine Ev_ifnonnullN dX11_worth_10 ?_
  refine Ev_iconst (v := (-1)) dX11_worth_13 (by decide) ?_
  refine Ev_iret dX11_worth_14 rfl rfl ?_
  exact k

set_option maxHeartbeats 4000000 in
set_option maxRecDepth 100000 in
theorem c_X11_worth {d : Nat} {S : aS} {Q : Option Value → aS → Prop} {pl n q cs : Nat} {du lw fr lf : Int32} {G : Nat → Nat → Nat} {fz : Int} {ad : Nat → Nat} {ro : Nat → Nat} {rb : Nat → Bool} {fo fw : Nat → Int32} {j : Nat} (hlw : 0 ≤ lw.toInt ∧ lw.toInt ≤ 2) (hdu : 0 ≤ du.toInt ∧ du.toInt ≤ 99) (hcs : cs < 512) (hj : j < n) (hO : S[0]? = some (co lf)) (hg : GD pl n G) (hq : q ≤ 8) (hpl : ¬ pl = 0) (he : eC S pl n q cs du lw fr G fz ad) (h15 : ∃ (x1 x2 x3 x4 x5 x6 x7 x8 x9 : Int32) (v : Value), S[15]? = some (.inr (4, [.ref 16, .ref 23, .ref 24, .int x1, .int x2, .int x3, v, .int x4, .int x5, .int x6, .int x7, .int x8, .int x9]))) (h23 : ∃ f : Nat → Int32, S[23]? = some (iA 5 f)) (h24 : ∃ f : Nat → Int32, S[24]? = some (iA 5 f)) (hX : WX S) (h12 : S[12]? = some (iA 8 fo)) (h13 : S[13]? = some (zA 8 fw)) (hrd : ∀ x, x < q → fo x = nI (ro x) ∧ fw x = bz (rb x)) (hro : ∀ x, x < q → ro x < n) (k : ∀ S2, FrL S S2 → cG S2 0 (nI 4) 0 (nI (rdS ro rb true q)) (nI (rdS ro rb false q)) (nI (mdS G n)) (Dn G (setb cs j true) n (pl - 1) (vJ G n fz lw.toInt du.toInt) 4 0 r0 0) 0 r0 → Q (some (.int (wrA (anZ 100000 (Dn G cs n (pl - 1) (vJ G n fz lw.toInt du.toInt) 4 0 r0 0)) (anZ 100000 (Dn G (setb cs j true) n (pl - 1) (vJ G n fz lw.toInt du.toInt) 4 0 r0 0))))) S2) : Mth mX11_worth (d + 15) 0 [.ref 0, .int (nI j)] S Q := by
  have hn9 := hg.2.1
  have hp7 := hg.1
  have hp0 : 0 < pl := by omega
  have h15d := h15
  obtain ⟨x1, x2, x3, x4, x5, x6, x7, x8, x9, v, h15c⟩ := h15d
  obtain ⟨sa, hA, hsa⟩ := he.2.1
  have had : 55 < ad j := (he.2.2.1 j hj).2.1
  have hj0 := (he.2.2.1 j hj).1
  have hcn1 := Dn_small (G := G) (cs := cs) (hm := pl - 1) (val := vJ G n fz lw.toInt du.toInt) (f := 4) (fun _ _ => Nat.le_refl _) hn9 (by decide) 0 r0 0
  have hcn2 := Dn_small (G := G) (cs := setb cs j true) (hm := pl - 1) (val := vJ G n fz lw.toInt du.toInt) (f := 4) (fun _ _ => Nat.le_refl _) hn9 (by decide) 0 r0 0
  have hs : (setb cs j true).testBit j = true := by rw [setb_bit cs hcs j (by omega) j (by omega), if_pos rfl]
  have eS : stc G (setb cs j true) fz j = .inr (kc (G 0 j), [.int (nI j), .int (nI (G 1 j)), .int (nI (G 2 j)), .int (nI (G 3 j)), .int (nI (G 4 j)), .int (nI (G 5 j)), .int (nI (tk G fz j)), .int (nI (tn G fz j)), .int 1]) := by simp only [stc, hs]; rfl
  refine Mth_of (by decide) rfl ?_
  refine Ev_aload_n dX11_worth_0 rfl ?_
  refine Ev_get dX11_worth_1 fg_X11_21_11 hO rfl ?_
  refine Ev_iload_n dX11_worth_4 rfl ?_
  refine Ev_callV (bc := 0) (b := 0) dX11_worth_5 cv_X11_99 rfl he.1 (Nat.le_of_ble_eq_true rfl) (by omega) ?_
  refine c_X2_stretchAt hp7 hn9 hq he.1 hA hsa (j := j) hj ?_
  refine Ev_astore_n dX11_worth_8 rfl ?_
  refine Ev_aload_n dX11_worth_9 rfl ?_
  refine Ev_ifnonnull dX11_worth_10 ?_
  refine Ev_aload_n dX11_worth_15 rfl ?_
  refine Ev_get dX11_worth_16 fg_X11_35_11 hO rfl ?_
  refine Ev_aload_n dX11_worth_19 rfl ?_
  refine Ev_get dX11_worth_20 fg_X11_21_11 hO rfl ?_
  refine Ev_iconst (v := 0) dX11_worth_23 (by decide) ?_
  refine Ev_iconst (v := 4) dX11_worth_24 (by decide) ?_
  refine Ev_iconst (v := 0) dX11_worth_25 (by decide) ?_
  refine Ev_callV (bc := 0) (b := 0) dX11_worth_26 cv_X11_195 rfl h15c (Nat.le_of_ble_eq_true rfl) (by omega) ?_
  refine c_look (m := 4) hg hq ⟨by decide, by decide⟩ hp0 he h15 h23 h24 hX h12 h13 hrd hro (wgh0 hg hq hlw hdu) (fun _ _ => Nat.le_refl _) (fun S2 hF2 hG2 => ?_)
  obtain ⟨ks, fo2, sc, R, K, g15, g23, g24, hR, hkp, hX2⟩ := hG2
  have he2 := he.l hF2
  have hj2 := (he2.2.2.1 j hj).1
  refine Ev_aload_n dX11_worth_29 rfl ?_
  refine Ev_callV (bc := 0) (b := 0) dX11_worth_30 cv_X11_199 rfl (hF2.at hO (by omega)) (Nat.le_of_ble_eq_true rfl) (by omega) ?_
  refine c_joyFound (hF2.at hO (by omega)) g15 hkp (Nat.lt_of_le_of_lt hcn1 (by decide)) ?_
  refine Ev_istore_n dX11_worth_33 rfl ?_
  refine Ev_aload_n dX11_worth_34 rfl ?_
  refine Ev_get dX11_worth_35 (fg3_X11_126 (kc3 _)) hj2 rfl ?_
  refine Ev_istore dX11_worth_38 rfl ?_
  refine Ev_aload_n dX11_worth_40 rfl ?_
  refine Ev_iconst (v := 1) dX11_worth_41 (by decide) ?_
  refine Ev_put dX11_worth_42 (fr3_X11_126 (kc3 _)) hj2 rfl (by decide) (by decide) ?_
  refine Ev_st (show _ = S2.set (ad j) (stc G (setb cs j true) fz j) from by rw [eS]) ?_
  refine Ev_aload_n dX11_worth_45 rfl ?_
  refine Ev_get dX11_worth_46 fg_X11_35_11 (gn (by omega) (hF2.at hO (by omega))) rfl ?_
  refine Ev_aload_n dX11_worth_49 rfl ?_
  refine Ev_get dX11_worth_50 fg_X11_21_11 (gn (by omega) (hF2.at hO (by omega))) rfl ?_
  refine Ev_iconst (v := 0) dX11_worth_53 (by decide) ?_
  refine Ev_iconst (v := 4) dX11_worth_54 (by decide) ?_
  refine Ev_iconst (v := 0) dX11_worth_55 (by decide) ?_
  refine Ev_callV (bc := 0) (b := 0) dX11_worth_56 cv_X11_195 rfl (gn (by omega) g15) (Nat.le_of_ble_eq_true rfl) (by omega) ?_
  refine c_look (m := 4) (cs := setb cs j true) hg hq ⟨by decide, by decide⟩ hp0 (he2.cl hcs hn9 hj) ⟨_, _, _, _, _, _, _, _, _, _, (gn (by omega) g15)⟩ ⟨_, (gn (by omega) g23)⟩ ⟨_, (gn (by omega) g24)⟩ (hX2.off (by omega)) (gn (by omega) (hF2.at h12 (by omega))) (gn (by omega) (hF2.at h13 (by omega))) hrd hro (wgh0 hg hq hlw hdu) (fun _ _ => Nat.le_refl _) (fun S4 hF4 hG4 => ?_)
  have hG5 := hG4
  obtain ⟨ks4, fo4, sc4, R4, K4, g15b, g23b, g24b, hR4, hkp4, hX4⟩ := hG5
  have hF5 := FrL.back hF2 hF4 had hj0
  refine Ev_aload_n dX11_worth_59 rfl ?_
  refine Ev_callV (bc := 0) (b := 0) dX11_worth_60 cv_X11_199 rfl (hF4.at (gn (by omega) (hF2.at hO (by omega))) (by omega)) (Nat.le_of_ble_eq_true rfl) (by omega) ?_
  refine c_joyFound (hF4.at (gn (by omega) (hF2.at hO (by omega))) (by omega)) g15b hkp4 (Nat.lt_of_le_of_lt hcn2 (by decide)) ?_
  refine Ev_istore dX11_worth_63 rfl ?_
  refine Ev_aload_n dX11_worth_65 rfl ?_
  refine Ev_iload dX11_worth_66 rfl ?_
  refine Ev_put dX11_worth_68 (fr3_X11_126 (kc3 _)) (hF4.at (gs hj2) (by omega)) rfl (bz_nr _) (bz_fi _) ?_
  refine Ev_iload_n dX11_worth_71 rfl ?_
  refine Ev_bipush (v := (-9)) dX11_worth_72 (by decide) ?_
  refine Ev_icmp_eq dX11_worth_74 (fun c1 => ?_) (fun c1 => ?_)
  · skip
    refine Ev_bipush (v := (-9)) dX11_worth_84 (by decide) ?_
    refine Ev_goto dX11_worth_86 ?_
    refine Ev_iret dX11_worth_93 rfl rfl ?_
    have hk := k _ hF5 (hG4.off had)
    rw [wrA, if_pos (Or.inl c1)] at hk
    exact hk
  · skip
    refine Ev_iload dX11_worth_77 rfl ?_
    refine Ev_bipush (v := (-9)) dX11_worth_79 (by decide) ?_
    refine Ev_icmp_ne dX11_worth_81 (fun c2 => ?_) (fun c2 => ?_)
    · skip
      refine Ev_iload_n dX11_worth_89 rfl ?_
      refine Ev_iload dX11_worth_90 rfl ?_
      refine Ev_isub dX11_worth_92 ?_
      refine Ev_iret dX11_worth_93 rfl rfl ?_
      have hk := k _ hF5 (hG4.off had)
      rw [wrA, if_neg (fun z => z.elim c1 c2)] at hk
      exact hk
    · skip
      refine Ev_bipush (v := (-9)) dX11_worth_84 (by decide) ?_
      refine Ev_goto dX11_worth_86 ?_
      refine Ev_iret dX11_worth_93 rfl rfl ?_
      have hk := k _ hF5 (hG4.off had)
      rw [wrA, if_pos (Or.inr c2)] at hk
      exact hk

theorem CA.cg {S S2 : aS} {flt tr du lw fr : Int32} {pl n q cs : Nat} {G : Nat → Nat → Nat} {ad : Nat → Nat} {z : Nat → Int} {la : Nat → Nat} {ce : Nat → Nat → Int32} {ro : Nat → Nat} {rb : Nat → Bool} (h : CA S flt tr du lw fr pl n q cs G ad z la ce ro rb) (e : ∀ a, a < 31 ∨ 55 < a → S2[a]? = S[a]?) : CA S2 flt tr du lw fr pl n q cs G ad z la ce ro rb := by
  obtain ⟨h1, ⟨fa, h2, h2b⟩, h3, h4, ⟨sa, h5, h5b⟩, ⟨fo, fw, h6, h6b, h6c⟩, h7, ⟨X1, ⟨x1, x2, x3, x4, x5, x6, x7, x8, x9, v, X2⟩, ⟨f3, X3, X3b⟩, ⟨f4, X4⟩, ⟨f5, X5⟩, X6, ⟨f7, X7⟩, X8, ⟨f9, X9⟩, f10, X10⟩, h9⟩ := h
  have g : ∀ (a : Nat) (c : aE), a < 31 ∨ 55 < a → S[a]? = some c → S2[a]? = some c := fun a c ha hc => (e a ha).trans hc
  refine ⟨g _ _ (by omega) h1, ⟨fa, g _ _ (by omega) h2, h2b⟩, fun k hk => ?_, g _ _ (by omega) h4, ⟨sa, g _ _ (by omega) h5, h5b⟩, ⟨fo, fw, g _ _ (by omega) h6, g _ _ (by omega) h6b, h6c⟩, fun j hj => ⟨g _ _ (by have := (h7 j hj).2.1; omega) (h7 j hj).1, (h7 j hj).2⟩, ⟨fun k hk => ?_, ⟨x1, x2, x3, x4, x5, x6, x7, x8, x9, v, g _ _ (by omega) X2⟩, ⟨f3, g _ _ (by omega) X3, X3b⟩, ⟨f4, g _ _ (by omega) X4⟩, ⟨f5, g _ _ (by omega) X5⟩, g _ _ (by omega) X6, ⟨f7, g _ _ (by omega) X7⟩, g _ _ (by omega) X8, ⟨f9, g _ _ (by omega) X9⟩, f10, g _ _ (by omega) X10⟩, g _ _ (by omega) h9⟩
  · obtain ⟨y1, y2, y3, ln, len, f, y4, y5, y6⟩ := h3 k hk
    exact ⟨y1, y2, y3, ln, len, f, g _ _ (by omega) y4, g _ _ (by omega) y5, y6⟩
  · obtain ⟨p1, s1, m1, g1, o1, t1, y⟩ := X1 k hk
    exact ⟨p1, s1, m1, g1, o1, t1, g _ _ (by split <;> omega) y⟩
theorem RA.cg {S S2 : aS} {flt tr du lw fr : Int32} {pl n q cs : Nat} {G : Nat → Nat → Nat} {z : Nat → Int} {la : Nat → Nat} {ce : Nat → Nat → Int32} {ro : Nat → Nat} {rb : Nat → Bool} (h : RA S flt tr du lw fr pl n q cs G z la ce ro rb) (e : ∀ a, 30 < a ∧ a < 56 → S2[a]? = S[a]?) : RA S2 flt tr du lw fr pl n q cs G z la ce ro rb := by
  obtain ⟨⟨ra, rp, rs, ea, dp, bm, bi, h1⟩, h2, ⟨fo, fw, h3, h3b, h3c⟩, ⟨fs, fl, fc, h4, h4b, h4c, h4d⟩, ⟨Y1, ⟨y2, Y2⟩, ⟨y3, Y3⟩, ⟨y4, Y4⟩, ⟨y5, Y5⟩, ⟨y6, Y6⟩, ⟨y7, Y7⟩, y8, Y8⟩⟩ := h
  have g : ∀ (a : Nat) (c : aE), 30 < a ∧ a < 56 → S[a]? = some c → S2[a]? = some c := fun a c ha hc => (e a ha).trans hc
  refine ⟨⟨ra, rp, rs, ea, dp, bm, bi, g _ _ (by omega) h1⟩, fun f hf => ?_, ⟨fo, fw, g _ _ (by omega) h3, g _ _ (by omega) h3b, h3c⟩, ⟨fs, fl, fc, g _ _ (by omega) h4, g _ _ (by omega) h4b, g _ _ (by omega) h4c, h4d⟩, ⟨fun k hk => ?_, ⟨y2, g _ _ (by omega) Y2⟩, ⟨y3, g _ _ (by omega) Y3⟩, ⟨y4, g _ _ (by omega) Y4⟩, ⟨y5, g _ _ (by omega) Y5⟩, ⟨y6, g _ _ (by omega) Y6⟩, ⟨y7, g _ _ (by omega) Y7⟩, y8, g _ _ (by omega) Y8⟩⟩
  · obtain ⟨f2, y, y2⟩ := h2 f hf
    exact ⟨f2, g _ _ (by omega) y, y2⟩
  · obtain ⟨f, y⟩ := Y1 k hk
    exact ⟨f, g _ _ (by omega) y⟩
theorem CA.sr {S S2 : aS} {flt tr du lw fr : Int32} {pl n q cs : Nat} {G : Nat → Nat → Nat} {ad : Nat → Nat} {z : Nat → Int} {la : Nat → Nat} {ce : Nat → Nat → Int32} {ro : Nat → Nat} {rb : Nat → Bool} (h : CA S flt tr du lw fr pl n q cs G ad z la ce ro rb) (hF : FrL S S2) {go mo mi wa uw mu : Int32} {acc : rV} {s : Nat} {r : Nat → Nat} (hG : cG S2 go mo mi wa uw mu acc s r) : CA S2 flt tr du lw fr pl n q cs G ad z la ce ro rb := by
  obtain ⟨h1, ⟨fa, h2, h2b⟩, h3, h4, ⟨sa, h5, h5b⟩, ⟨fo, fw, h6, h6b, h6c⟩, h7, ⟨X1, -, ⟨f3, X3, X3b⟩, -, -, X6, ⟨f7, X7⟩, X8, ⟨f9, X9⟩, f10, X10⟩, h9⟩ := h
  obtain ⟨ks, fo2, sc, R, K, g15, g23, g24, -, -, gX⟩ := hG
  refine ⟨hF.at h1 (by omega), ⟨fa, hF.at h2 (by omega), h2b⟩, fun k hk => ?_, hF.at h4 (by omega), ⟨sa, hF.at h5 (by omega), h5b⟩, ⟨fo, fw, hF.at h6 (by omega), hF.at h6b (by omega), h6c⟩, fun j hj => ⟨hF.at (h7 j hj).1 (by have := (h7 j hj).2.1; omega), (h7 j hj).2⟩, ⟨fun k hk => ?_, ⟨_, _, _, _, _, _, _, _, _, _, g15⟩, ⟨f3, hF.at X3 (by omega), X3b⟩, ⟨R, g23⟩, ⟨K, g24⟩, hF.at X6 (by omega), ⟨f7, hF.at X7 (by omega)⟩, hF.at X8 (by omega), ⟨f9, hF.at X9 (by omega)⟩, f10, hF.at X10 (by omega)⟩, hF.at h9 (by omega)⟩
  · obtain ⟨y1, y2, y3, ln, len, f, y4, y5, y6⟩ := h3 k hk
    exact ⟨y1, y2, y3, ln, len, f, hF.at y4 (by omega), hF.at y5 (by omega), y6⟩
  · by_cases e : k = 0
    · subst e
      obtain ⟨p1, s1, m1, g1, o1, t1, y⟩ := X1 0 hk
      exact ⟨p1, s1, m1, g1, o1, t1, hF.at y (by decide)⟩
    · obtain ⟨p1, s1, m1, g1, o1, t1, y⟩ := gX (k - 1) (by omega)
      refine ⟨p1, s1, m1, g1, o1, t1, ?_⟩
      rw [if_neg e, show 16 + k = 17 + (k - 1) by omega]
      exact y
/-- nothing of the reference has changed but its search's own cells -/
def FrR (S0 S : aS) : Prop := ∀ a, a ≠ 31 → a ≠ 44 → a ≠ 46 → a ≠ 47 → S[a]? = S0[a]?
theorem FrR.rf {S : aS} : FrR S S := fun _ _ _ _ _ => rfl
theorem FrR.st {a : Nat} {S0 S : aS} {c : aE} (h : FrR S0 S) (ha : a = 31 ∨ a = 44 ∨ a = 46 ∨ a = 47) : FrR S0 (S.set a c) := by
  intro b h1 h2 h3 h4
  rw [List.getElem?_set_ne (by omega)]
  exact h b h1 h2 h3 h4
theorem FrR.tr {S0 S S2 : aS} (h : FrR S0 S) (h2 : FrR S S2) : FrR S0 S2 := fun b a1 a2 a3 a4 => (h2 b a1 a2 a3 a4).trans (h b a1 a2 a3 a4)
theorem FrR.at {a : Nat} {S0 S : aS} {c : aE} (h : FrR S0 S) (h0 : S0[a]? = some c) (h1 : a ≠ 31 ∧ a ≠ 44 ∧ a ≠ 46 ∧ a ≠ 47) : S[a]? = some c := (h a h1.1 h1.2.1 h1.2.2.1 h1.2.2.2).trans h0
theorem RA.sr {S S2 : aS} {flt tr du lw fr : Int32} {pl n q cs : Nat} {G : Nat → Nat → Nat} {z : Nat → Int} {la : Nat → Nat} {ce : Nat → Nat → Int32} {ro : Nat → Nat} {rb : Nat → Bool} (h : RA S flt tr du lw fr pl n q cs G z la ce ro rb) (hF : FrR S S2) (h31 : mM S2 flt tr du lw fr pl n q cs) (h44 : ∃ f : Nat → Int32, S2[44]? = some (iA 12 f)) (h46 : ∃ f : Nat → Int32, S2[46]? = some (iA 6 f)) (h47 : ∃ f : Nat → Int32, S2[47]? = some (iA 5 f)) : RA S2 flt tr du lw fr pl n q cs G z la ce ro rb := by
  obtain ⟨-, h2, ⟨fo, fw, h3, h3b, h3c⟩, ⟨fs, fl, fc, h4, h4b, h4c, h4d⟩, ⟨Y1, -, ⟨y3, Y3⟩, -, -, ⟨y6, Y6⟩, ⟨y7, Y7⟩, y8, Y8⟩⟩ := h
  refine ⟨h31, fun f hf => ?_, ⟨fo, fw, hF.at h3 (by omega), hF.at h3b (by omega), h3c⟩, ⟨fs, fl, fc, hF.at h4 (by omega), hF.at h4b (by omega), hF.at h4c (by omega), h4d⟩, ⟨fun k hk => ?_, h44, ⟨y3, hF.at Y3 (by omega)⟩, h46, h47, ⟨y6, hF.at Y6 (by omega)⟩, ⟨y7, hF.at Y7 (by omega)⟩, y8, hF.at Y8 (by omega)⟩⟩
  · obtain ⟨f2, y, y2⟩ := h2 f hf
    exact ⟨f2, hF.at y (by omega), y2⟩
  · obtain ⟨f, y⟩ := Y1 k hk
    exact ⟨f, hF.at y (by omega)⟩

