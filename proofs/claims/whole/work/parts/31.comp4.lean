/-! ===== told walks, on the component's side ===== -/
theorem sumN_ch {f g : Nat → Nat} {j : Nat} : ∀ (n : Nat), j < n → (∀ k, k < n → k ≠ j → g k = f k) → sumN g n + f j = sumN f n + g j
  | 0, h, _ => by omega
  | n + 1, h, he => by
    simp only [sumN]
    by_cases e : j = n
    · subst e
      have : ∀ m, m ≤ j → sumN g m = sumN f m := by
        intro m
        induction m with
        | zero => intro _; rfl
        | succ m ih => intro hm; simp only [sumN]; rw [ih (by omega), he m (by omega) (by omega)]
      rw [this j (Nat.le_refl _)]
      omega
    · have := sumN_ch n (by omega) (fun k hk hne => he k (by omega) hne)
      rw [he n (by omega) (fun z => e z.symm)]
      omega
theorem sgN_or {G : Nat → Nat → Nat} {n g j : Nat} (hj : j < n) : sgN G n (g ||| 2 ^ j) = sgN G n g + if g.testBit j then 0 else G 4 j := by
  have := sumN_ch (f := fun k => if g.testBit k then G 4 k else 0) (g := fun k => if (g ||| 2 ^ j).testBit k then G 4 k else 0) (j := j) n hj (fun k hk hne => by
    simp only [Nat.testBit_or, Nat.testBit_two_pow]
    rw [decide_eq_false (fun z => hne z.symm), Bool.or_false])
  simp only [Nat.testBit_or, Nat.testBit_two_pow_self, Bool.or_true, if_true] at this
  unfold sgN
  split at this <;> split <;> simp_all <;> omega
theorem andb0 : ∀ g, g < 512 → ∀ j, j < 9 → g.testBit j = false → nI (g &&& 2 ^ j) = 0 := by decide +kernel
theorem andb1 : ∀ g, g < 512 → ∀ j, j < 9 → g.testBit j = true → ¬ nI (g &&& 2 ^ j) = 0 := by decide +kernel
abbrev WKC (G : Nat → Nat → Nat) (n : Nat) (fz : Int) (r : Nat → Nat) (p i : Nat) : aE := wkc (nI p) (nI i) (nI (sumN (fun x => tk G fz (r x)) i)) (nI (sgN G n (goN r i))) (nI (goN r i)) (lN (prodN (fun x => tn G fz (r x)) i))

set_option maxHeartbeats 4000000 in
set_option maxRecDepth 100000 in
theorem c_X10_begin {d : Nat} {S : aS} {Q : Option Value → aS → Prop} {a : Nat} {x1 x2 x3 x4 x5 : Int32} {x6 : Int64} (hW : S[a]? = some (wkc x1 x2 x3 x4 x5 x6)) (k : Q none (S.set a (wkc 0 0 0 0 0 1))) : Mth mX10_begin d 0 [.ref a] S Q := by
  refine Mth_of (by decide) rfl ?_
  refine Ev_aload_n dX10_begin_0 rfl ?_
  refine Ev_iconst (v := 0) dX10_begin_1 (by decide) ?_
  refine Ev_put dX10_begin_2 fr_X10_9_10 hW rfl rfl rfl ?_
  refine Ev_aload_n dX10_begin_5 rfl ?_
  refine Ev_iconst (v := 0) dX10_begin_6 (by decide) ?_
  refine Ev_put dX10_begin_7 fr_X10_15_10 (gs hW) rfl rfl rfl ?_
  refine Ev_st gss ?_
  refine Ev_aload_n dX10_begin_10 rfl ?_
  refine Ev_iconst (v := 0) dX10_begin_11 (by decide) ?_
  refine Ev_put dX10_begin_12 fr_X10_18_10 (gs hW) rfl rfl rfl ?_
  refine Ev_st gss ?_
  refine Ev_aload_n dX10_begin_15 rfl ?_
  refine Ev_iconst (v := 0) dX10_begin_16 (by decide) ?_
  refine Ev_put dX10_begin_17 fr_X10_21_10 (gs hW) rfl rfl rfl ?_
  refine Ev_st gss ?_
  refine Ev_aload_n dX10_begin_20 rfl ?_
  refine Ev_iconst (v := 0) dX10_begin_21 (by decide) ?_
  refine Ev_put dX10_begin_22 fr_X10_24_10 (gs hW) rfl rfl rfl ?_
  refine Ev_st gss ?_
  refine Ev_aload_n dX10_begin_25 rfl ?_
  refine Ev_lconst (v := 1) dX10_begin_26 (by decide) ?_
  refine Ev_put dX10_begin_27 fr_X10_27_10 (gs hW) rfl rfl rfl ?_
  refine Ev_st gss ?_
  refine Ev_vret dX10_begin_30 rfl ?_
  exact k

set_option maxHeartbeats 4000000 in
set_option maxRecDepth 100000 in
theorem c_follow_s0 {d : Nat} {S : aS} {Q : Option Value → aS → Prop} {pl n cs j a b : Nat} {G : Nat → Nat → Nat} {fz : Int} (hg : GD pl n G) (hj : j < n) (hS : S[b]? = some (stc G cs fz j)) {p q s mi sg g t : Nat} (hgl : g < 512) (hW : S[a]? = some (wkc (nI p) (nI s) (nI mi) (nI sg) (nI g) (lN t))) (hab : a ≠ b) (hbit : g.testBit j = true) (hq : gt G cs j p = some q) (k : Q none (S.set a (wkc (nI q) (nI (s + 1)) (nI (mi + tk G fz j)) (nI (sg)) (nI (g ||| 2 ^ j)) (lN (t * tn G fz j))))) : Mth mX10_follow (d + 1) 0 [.ref a, .ref a, .ref b] S Q := by
  have hn9 := hg.2.1
  have hjG := hg.2.2 j hj
  have htn := tn_le (G := G) fz j
  refine Mth_of (by decide) rfl ?_
  refine Ev_iconst (v := 1) dX10_follow_0 (by decide) ?_
  refine Ev_aload_n dX10_follow_1 rfl ?_
  refine Ev_get dX10_follow_2 (fg3_X10_31 (kc3 _)) hS rfl ?_
  refine Ev_ishl dX10_follow_5 ?_
  refine Ev_topi (y := nI (2 ^ j)) (oneShl (by omega)) ?_
  refine Ev_istore_n dX10_follow_6 rfl ?_
  refine Ev_aload_n dX10_follow_7 rfl ?_
  refine Ev_get dX10_follow_8 fg_X10_24_10 hW rfl ?_
  refine Ev_iload_n dX10_follow_11 rfl ?_
  refine Ev_iand dX10_follow_12 ?_
  refine Ev_topi (y := nI (g &&& (2 ^ j))) (andN _ _) ?_
  refine Ev_if_ne dX10_follow_13 (fun _ => ?_) (fun c => absurd c (andb1 g hgl j (by omega) hbit))
  refine Ev_iconst (v := 0) dX10_follow_20 (by decide) ?_
  refine Ev_istore dX10_follow_21 rfl ?_
  refine Ev_aload_n dX10_follow_23 rfl ?_
  refine Ev_aload_n dX10_follow_24 rfl ?_
  refine Ev_aload_n dX10_follow_25 rfl ?_
  refine Ev_get dX10_follow_26 fg_X10_9_10 hW rfl ?_
  refine Ev_callO (bc := 0) (b := 0) dX10_follow_29 (co3_X10_36 (kc3 _)) rfl hS (Nat.le_of_ble_eq_true rfl) (by omega) ?_
  refine c_other hg hj hS hq ?_
  refine Ev_put dX10_follow_32 fr_X10_9_10 hW rfl rfl rfl ?_
  refine Ev_aload_n dX10_follow_35 rfl ?_
  refine Ev_aload_n dX10_follow_36 rfl ?_
  refine Ev_get dX10_follow_37 fg_X10_15_10 (gs hW) rfl ?_
  refine Ev_iconst (v := 1) dX10_follow_40 (by decide) ?_
  refine Ev_iadd dX10_follow_41 ?_
  refine Ev_topi (y := nI (s + 1)) (nI_add _ _) ?_
  refine Ev_put dX10_follow_42 fr_X10_15_10 (gs hW) rfl rfl rfl ?_
  refine Ev_st gss ?_
  refine Ev_aload_n dX10_follow_45 rfl ?_
  refine Ev_aload_n dX10_follow_46 rfl ?_
  refine Ev_get dX10_follow_47 fg_X10_18_10 (gs hW) rfl ?_
  refine Ev_aload_n dX10_follow_50 rfl ?_
  refine Ev_get dX10_follow_51 (fg3_X10_40 (kc3 _)) (gn (by omega) hS) rfl ?_
  refine Ev_iadd dX10_follow_54 ?_
  refine Ev_topi (y := nI (mi + (tk G fz j))) (nI_add _ _) ?_
  refine Ev_put dX10_follow_55 fr_X10_18_10 (gs hW) rfl rfl rfl ?_
  refine Ev_st gss ?_
  refine Ev_aload_n dX10_follow_58 rfl ?_
  refine Ev_aload_n dX10_follow_59 rfl ?_
  refine Ev_get dX10_follow_60 fg_X10_21_10 (gs hW) rfl ?_
  refine Ev_iload dX10_follow_63 rfl ?_
  refine Ev_if_eq dX10_follow_65 (fun _ => ?_) (fun c => absurd (by decide) c)
  refine Ev_iconst (v := 0) dX10_follow_75 (by decide) ?_
  refine Ev_iadd dX10_follow_76 ?_
  refine Ev_topi (y := nI (sg + 0)) (nI_add _ _) ?_
  refine Ev_put dX10_follow_77 fr_X10_21_10 (gs hW) rfl rfl rfl ?_
  refine Ev_st gss ?_
  refine Ev_aload_n dX10_follow_80 rfl ?_
  refine Ev_aload_n dX10_follow_81 rfl ?_
  refine Ev_get dX10_follow_82 fg_X10_24_10 (gs hW) rfl ?_
  refine Ev_iload_n dX10_follow_85 rfl ?_
  refine Ev_ior dX10_follow_86 ?_
  refine Ev_topi (y := nI (g ||| (2 ^ j))) (orN _ _) ?_
  refine Ev_put dX10_follow_87 fr_X10_24_10 (gs hW) rfl rfl rfl ?_
  refine Ev_st gss ?_
  refine Ev_aload_n dX10_follow_90 rfl ?_
  refine Ev_aload_n dX10_follow_91 rfl ?_
  refine Ev_get dX10_follow_92 fg_X10_27_10 (gs hW) rfl ?_
  refine Ev_aload_n dX10_follow_95 rfl ?_
  refine Ev_get dX10_follow_96 (fg3_X10_42 (kc3 _)) (gn (by omega) hS) rfl ?_
  refine Ev_i2l dX10_follow_99 ?_
  refine Ev_topl (y := lN (tn G fz j)) (nl (by omega)) ?_
  refine Ev_lmul dX10_follow_100 ?_
  refine Ev_topl (y := lN (t * (tn G fz j))) (lmulN _ _) ?_
  refine Ev_put dX10_follow_101 fr_X10_27_10 (gs hW) rfl rfl rfl ?_
  refine Ev_st gss ?_
  refine Ev_vret dX10_follow_104 rfl ?_
  exact k

set_option maxHeartbeats 4000000 in
set_option maxRecDepth 100000 in
theorem c_follow_s1 {d : Nat} {S : aS} {Q : Option Value → aS → Prop} {pl n cs j a b : Nat} {G : Nat → Nat → Nat} {fz : Int} (hg : GD pl n G) (hj : j < n) (hS : S[b]? = some (stc G cs fz j)) {p q s mi sg g t : Nat} (hgl : g < 512) (hW : S[a]? = some (wkc (nI p) (nI s) (nI mi) (nI sg) (nI g) (lN t))) (hab : a ≠ b) (hbit : g.testBit j = false) (hq : gt G cs j p = some q) (k : Q none (S.set a (wkc (nI q) (nI (s + 1)) (nI (mi + tk G fz j)) (nI (sg + G 4 j)) (nI (g ||| 2 ^ j)) (lN (t * tn G fz j))))) : Mth mX10_follow (d + 1) 0 [.ref a, .ref a, .ref b] S Q := by
  have hn9 := hg.2.1
  have hjG := hg.2.2 j hj
  have htn := tn_le (G := G) fz j
  refine Mth_of (by decide) rfl ?_
  refine Ev_iconst (v := 1) dX10_follow_0 (by decide) ?_
  refine Ev_aload_n dX10_follow_1 rfl ?_
  refine Ev_get dX10_follow_2 (fg3_X10_31 (kc3 _)) hS rfl ?_
  refine Ev_ishl dX10_follow_5 ?_
  refine Ev_topi (y := nI (2 ^ j)) (oneShl (by omega)) ?_
  refine Ev_istore_n dX10_follow_6 rfl ?_
  refine Ev_aload_n dX10_follow_7 rfl ?_
  refine Ev_get dX10_follow_8 fg_X10_24_10 hW rfl ?_
  refine Ev_iload_n dX10_follow_11 rfl ?_
  refine Ev_iand dX10_follow_12 ?_
  refine Ev_topi (y := nI (g &&& (2 ^ j))) (andN _ _) ?_
  refine Ev_if_ne dX10_follow_13 (fun c => absurd (andb0 g hgl j (by omega) hbit) c) (fun _ => ?_)
  refine Ev_iconst (v := 1) dX10_follow_16 (by decide) ?_
  refine Ev_goto dX10_follow_17 ?_
  refine Ev_istore dX10_follow_21 rfl ?_
  refine Ev_aload_n dX10_follow_23 rfl ?_
  refine Ev_aload_n dX10_follow_24 rfl ?_
  refine Ev_aload_n dX10_follow_25 rfl ?_
  refine Ev_get dX10_follow_26 fg_X10_9_10 hW rfl ?_
  refine Ev_callO (bc := 0) (b := 0) dX10_follow_29 (co3_X10_36 (kc3 _)) rfl hS (Nat.le_of_ble_eq_true rfl) (by omega) ?_
  refine c_other hg hj hS hq ?_
  refine Ev_put dX10_follow_32 fr_X10_9_10 hW rfl rfl rfl ?_
  refine Ev_aload_n dX10_follow_35 rfl ?_
  refine Ev_aload_n dX10_follow_36 rfl ?_
  refine Ev_get dX10_follow_37 fg_X10_15_10 (gs hW) rfl ?_
  refine Ev_iconst (v := 1) dX10_follow_40 (by decide) ?_
  refine Ev_iadd dX10_follow_41 ?_
  refine Ev_topi (y := nI (s + 1)) (nI_add _ _) ?_
  refine Ev_put dX10_follow_42 fr_X10_15_10 (gs hW) rfl rfl rfl ?_
  refine Ev_st gss ?_
  refine Ev_aload_n dX10_follow_45 rfl ?_
  refine Ev_aload_n dX10_follow_46 rfl ?_
  refine Ev_get dX10_follow_47 fg_X10_18_10 (gs hW) rfl ?_
  refine Ev_aload_n dX10_follow_50 rfl ?_
  refine Ev_get dX10_follow_51 (fg3_X10_40 (kc3 _)) (gn (by omega) hS) rfl ?_
  refine Ev_iadd dX10_follow_54 ?_
  refine Ev_topi (y := nI (mi + (tk G fz j))) (nI_add _ _) ?_
  refine Ev_put dX10_follow_55 fr_X10_18_10 (gs hW) rfl rfl rfl ?_
  refine Ev_st gss ?_
  refine Ev_aload_n dX10_follow_58 rfl ?_
  refine Ev_aload_n dX10_follow_59 rfl ?_
  refine Ev_get dX10_follow_60 fg_X10_21_10 (gs hW) rfl ?_
  refine Ev_iload dX10_follow_63 rfl ?_
  refine Ev_if_eq dX10_follow_65 (fun c => absurd c (by decide)) (fun _ => ?_)
  refine Ev_aload_n dX10_follow_68 rfl ?_
  refine Ev_get dX10_follow_69 (fg3_X10_41 (kc3 _)) (gn (by omega) hS) rfl ?_
  refine Ev_goto dX10_follow_72 ?_
  refine Ev_iadd dX10_follow_76 ?_
  refine Ev_topi (y := nI (sg + (G 4 j))) (nI_add _ _) ?_
  refine Ev_put dX10_follow_77 fr_X10_21_10 (gs hW) rfl rfl rfl ?_
  refine Ev_st gss ?_
  refine Ev_aload_n dX10_follow_80 rfl ?_
  refine Ev_aload_n dX10_follow_81 rfl ?_
  refine Ev_get dX10_follow_82 fg_X10_24_10 (gs hW) rfl ?_
  refine Ev_iload_n dX10_follow_85 rfl ?_
  refine Ev_ior dX10_follow_86 ?_
  refine Ev_topi (y := nI (g ||| (2 ^ j))) (orN _ _) ?_
  refine Ev_put dX10_follow_87 fr_X10_24_10 (gs hW) rfl rfl rfl ?_
  refine Ev_st gss ?_
  refine Ev_aload_n dX10_follow_90 rfl ?_
  refine Ev_aload_n dX10_follow_91 rfl ?_
  refine Ev_get dX10_follow_92 fg_X10_27_10 (gs hW) rfl ?_
  refine Ev_aload_n dX10_follow_95 rfl ?_
  refine Ev_get dX10_follow_96 (fg3_X10_42 (kc3 _)) (gn (by omega) hS) rfl ?_
  refine Ev_i2l dX10_follow_99 ?_
  refine Ev_topl (y := lN (tn G fz j)) (nl (by omega)) ?_
  refine Ev_lmul dX10_follow_100 ?_
  refine Ev_topl (y := lN (t * (tn G fz j))) (lmulN _ _) ?_
  refine Ev_put dX10_follow_101 fr_X10_27_10 (gs hW) rfl rfl rfl ?_
  refine Ev_st gss ?_
  refine Ev_vret dX10_follow_104 rfl ?_
  exact k

set_option maxHeartbeats 4000000 in
set_option maxRecDepth 100000 in
theorem c_follow_t0 {d : Nat} {S : aS} {Q : Option Value → aS → Prop} {pl n cs j a b : Nat} {G : Nat → Nat → Nat} {fz : Int} (hg : GD pl n G) (hj : j < n) (hS : S[b]? = some (stc G cs fz j)) {p q s mi sg g t : Nat} (hgl : g < 512) {e : Nat} {x1 x2 x3 x4 x5 : Int32} {x6 : Int64} (hW : S[e]? = some (wkc (nI p) (nI s) (nI mi) (nI sg) (nI g) (lN t))) (hT : S[a]? = some (wkc x1 x2 x3 x4 x5 x6)) (hab : a ≠ b) (hae : a ≠ e) (hbit : g.testBit j = true) (hq : gt G cs j p = some q) (k : Q none (S.set a (wkc (nI q) (nI (s + 1)) (nI (mi + tk G fz j)) (nI (sg)) (nI (g ||| 2 ^ j)) (lN (t * tn G fz j))))) : Mth mX10_follow (d + 1) 0 [.ref a, .ref e, .ref b] S Q := by
  have hn9 := hg.2.1
  have hjG := hg.2.2 j hj
  have htn := tn_le (G := G) fz j
  refine Mth_of (by decide) rfl ?_
  refine Ev_iconst (v := 1) dX10_follow_0 (by decide) ?_
  refine Ev_aload_n dX10_follow_1 rfl ?_
  refine Ev_get dX10_follow_2 (fg3_X10_31 (kc3 _)) hS rfl ?_
  refine Ev_ishl dX10_follow_5 ?_
  refine Ev_topi (y := nI (2 ^ j)) (oneShl (by omega)) ?_
  refine Ev_istore_n dX10_follow_6 rfl ?_
  refine Ev_aload_n dX10_follow_7 rfl ?_
  refine Ev_get dX10_follow_8 fg_X10_24_10 hW rfl ?_
  refine Ev_iload_n dX10_follow_11 rfl ?_
  refine Ev_iand dX10_follow_12 ?_
  refine Ev_topi (y := nI (g &&& (2 ^ j))) (andN _ _) ?_
  refine Ev_if_ne dX10_follow_13 (fun _ => ?_) (fun c => absurd c (andb1 g hgl j (by omega) hbit))
  refine Ev_iconst (v := 0) dX10_follow_20 (by decide) ?_
  refine Ev_istore dX10_follow_21 rfl ?_
  refine Ev_aload_n dX10_follow_23 rfl ?_
  refine Ev_aload_n dX10_follow_24 rfl ?_
  refine Ev_aload_n dX10_follow_25 rfl ?_
  refine Ev_get dX10_follow_26 fg_X10_9_10 hW rfl ?_
  refine Ev_callO (bc := 0) (b := 0) dX10_follow_29 (co3_X10_36 (kc3 _)) rfl hS (Nat.le_of_ble_eq_true rfl) (by omega) ?_
  refine c_other hg hj hS hq ?_
  refine Ev_put dX10_follow_32 fr_X10_9_10 hT rfl rfl rfl ?_
  refine Ev_aload_n dX10_follow_35 rfl ?_
  refine Ev_aload_n dX10_follow_36 rfl ?_
  refine Ev_get dX10_follow_37 fg_X10_15_10 (gn (by omega) hW) rfl ?_
  refine Ev_iconst (v := 1) dX10_follow_40 (by decide) ?_
  refine Ev_iadd dX10_follow_41 ?_
  refine Ev_topi (y := nI (s + 1)) (nI_add _ _) ?_
  refine Ev_put dX10_follow_42 fr_X10_15_10 (gs hT) rfl rfl rfl ?_
  refine Ev_st gss ?_
  refine Ev_aload_n dX10_follow_45 rfl ?_
  refine Ev_aload_n dX10_follow_46 rfl ?_
  refine Ev_get dX10_follow_47 fg_X10_18_10 (gn (by omega) hW) rfl ?_
  refine Ev_aload_n dX10_follow_50 rfl ?_
  refine Ev_get dX10_follow_51 (fg3_X10_40 (kc3 _)) (gn (by omega) hS) rfl ?_
  refine Ev_iadd dX10_follow_54 ?_
  refine Ev_topi (y := nI (mi + (tk G fz j))) (nI_add _ _) ?_
  refine Ev_put dX10_follow_55 fr_X10_18_10 (gs hT) rfl rfl rfl ?_
  refine Ev_st gss ?_
  refine Ev_aload_n dX10_follow_58 rfl ?_
  refine Ev_aload_n dX10_follow_59 rfl ?_
  refine Ev_get dX10_follow_60 fg_X10_21_10 (gn (by omega) hW) rfl ?_
  refine Ev_iload dX10_follow_63 rfl ?_
  refine Ev_if_eq dX10_follow_65 (fun _ => ?_) (fun c => absurd (by decide) c)
  refine Ev_iconst (v := 0) dX10_follow_75 (by decide) ?_
  refine Ev_iadd dX10_follow_76 ?_
  refine Ev_topi (y := nI (sg + 0)) (nI_add _ _) ?_
  refine Ev_put dX10_follow_77 fr_X10_21_10 (gs hT) rfl rfl rfl ?_
  refine Ev_st gss ?_
  refine Ev_aload_n dX10_follow_80 rfl ?_
  refine Ev_aload_n dX10_follow_81 rfl ?_
  refine Ev_get dX10_follow_82 fg_X10_24_10 (gn (by omega) hW) rfl ?_
  refine Ev_iload_n dX10_follow_85 rfl ?_
  refine Ev_ior dX10_follow_86 ?_
  refine Ev_topi (y := nI (g ||| (2 ^ j))) (orN _ _) ?_
  refine Ev_put dX10_follow_87 fr_X10_24_10 (gs hT) rfl rfl rfl ?_
  refine Ev_st gss ?_
  refine Ev_aload_n dX10_follow_90 rfl ?_
  refine Ev_aload_n dX10_follow_91 rfl ?_
  refine Ev_get dX10_follow_92 fg_X10_27_10 (gn (by omega) hW) rfl ?_
  refine Ev_aload_n dX10_follow_95 rfl ?_
  refine Ev_get dX10_follow_96 (fg3_X10_42 (kc3 _)) (gn (by omega) hS) rfl ?_
  refine Ev_i2l dX10_follow_99 ?_
  refine Ev_topl (y := lN (tn G fz j)) (nl (by omega)) ?_
  refine Ev_lmul dX10_follow_100 ?_
  refine Ev_topl (y := lN (t * (tn G fz j))) (lmulN _ _) ?_
  refine Ev_put dX10_follow_101 fr_X10_27_10 (gs hT) rfl rfl rfl ?_
  refine Ev_st gss ?_
  refine Ev_vret dX10_follow_104 rfl ?_
  exact k

set_option maxHeartbeats 4000000 in
set_option maxRecDepth 100000 in
theorem c_follow_t1 {d : Nat} {S : aS} {Q : Option Value → aS → Prop} {pl n cs j a b : Nat} {G : Nat → Nat → Nat} {fz : Int} (hg : GD pl n G) (hj : j < n) (hS : S[b]? = some (stc G cs fz j)) {p q s mi sg g t : Nat} (hgl : g < 512) {e : Nat} {x1 x2 x3 x4 x5 : Int32} {x6 : Int64} (hW : S[e]? = some (wkc (nI p) (nI s) (nI mi) (nI sg) (nI g) (lN t))) (hT : S[a]? = some (wkc x1 x2 x3 x4 x5 x6)) (hab : a ≠ b) (hae : a ≠ e) (hbit : g.testBit j = false) (hq : gt G cs j p = some q) (k : Q none (S.set a (wkc (nI q) (nI (s + 1)) (nI (mi + tk G fz j)) (nI (sg + G 4 j)) (nI (g ||| 2 ^ j)) (lN (t * tn G fz j))))) : Mth mX10_follow (d + 1) 0 [.ref a, .ref e, .ref b] S Q := by
  have hn9 := hg.2.1
  have hjG := hg.2.2 j hj
  have htn := tn_le (G := G) fz j
  refine Mth_of (by decide) rfl ?_
  refine Ev_iconst (v := 1) dX10_follow_0 (by decide) ?_
  refine Ev_aload_n dX10_follow_1 rfl ?_
  refine Ev_get dX10_follow_2 (fg3_X10_31 (kc3 _)) hS rfl ?_
  refine Ev_ishl dX10_follow_5 ?_
  refine Ev_topi (y := nI (2 ^ j)) (oneShl (by omega)) ?_
  refine Ev_istore_n dX10_follow_6 rfl ?_
  refine Ev_aload_n dX10_follow_7 rfl ?_
  refine Ev_get dX10_follow_8 fg_X10_24_10 hW rfl ?_
  refine Ev_iload_n dX10_follow_11 rfl ?_
  refine Ev_iand dX10_follow_12 ?_
  refine Ev_topi (y := nI (g &&& (2 ^ j))) (andN _ _) ?_
  refine Ev_if_ne dX10_follow_13 (fun c => absurd (andb0 g hgl j (by omega) hbit) c) (fun _ => ?_)
  refine Ev_iconst (v := 1) dX10_follow_16 (by decide) ?_
  refine Ev_goto dX10_follow_17 ?_
  refine Ev_istore dX10_follow_21 rfl ?_
  refine Ev_aload_n dX10_follow_23 rfl ?_
  refine Ev_aload_n dX10_follow_24 rfl ?_
  refine Ev_aload_n dX10_follow_25 rfl ?_
  refine Ev_get dX10_follow_26 fg_X10_9_10 hW rfl ?_
  refine Ev_callO (bc := 0) (b := 0) dX10_follow_29 (co3_X10_36 (kc3 _)) rfl hS (Nat.le_of_ble_eq_true rfl) (by omega) ?_
  refine c_other hg hj hS hq ?_
  refine Ev_put dX10_follow_32 fr_X10_9_10 hT rfl rfl rfl ?_
  refine Ev_aload_n dX10_follow_35 rfl ?_
  refine Ev_aload_n dX10_follow_36 rfl ?_
  refine Ev_get dX10_follow_37 fg_X10_15_10 (gn (by omega) hW) rfl ?_
  refine Ev_iconst (v := 1) dX10_follow_40 (by decide) ?_
  refine Ev_iadd dX10_follow_41 ?_
  refine Ev_topi (y := nI (s + 1)) (nI_add _ _) ?_
  refine Ev_put dX10_follow_42 fr_X10_15_10 (gs hT) rfl rfl rfl ?_
  refine Ev_st gss ?_
  refine Ev_aload_n dX10_follow_45 rfl ?_
  refine Ev_aload_n dX10_follow_46 rfl ?_
  refine Ev_get dX10_follow_47 fg_X10_18_10 (gn (by omega) hW) rfl ?_
  refine Ev_aload_n dX10_follow_50 rfl ?_
  refine Ev_get dX10_follow_51 (fg3_X10_40 (kc3 _)) (gn (by omega) hS) rfl ?_
  refine Ev_iadd dX10_follow_54 ?_
  refine Ev_topi (y := nI (mi + (tk G fz j))) (nI_add _ _) ?_
  refine Ev_put dX10_follow_55 fr_X10_18_10 (gs hT) rfl rfl rfl ?_
  refine Ev_st gss ?_
  refine Ev_aload_n dX10_follow_58 rfl ?_
  refine Ev_aload_n dX10_follow_59 rfl ?_
  refine Ev_get dX10_follow_60 fg_X10_21_10 (gn (by omega) hW) rfl ?_
  refine Ev_iload dX10_follow_63 rfl ?_
  refine Ev_if_eq dX10_follow_65 (fun c => absurd c (by decide)) (fun _ => ?_)
  refine Ev_aload_n dX10_follow_68 rfl ?_
  refine Ev_get dX10_follow_69 (fg3_X10_41 (kc3 _)) (gn (by omega) hS) rfl ?_
  refine Ev_goto dX10_follow_72 ?_
  refine Ev_iadd dX10_follow_76 ?_
  refine Ev_topi (y := nI (sg + (G 4 j))) (nI_add _ _) ?_
  refine Ev_put dX10_follow_77 fr_X10_21_10 (gs hT) rfl rfl rfl ?_
  refine Ev_st gss ?_
  refine Ev_aload_n dX10_follow_80 rfl ?_
  refine Ev_aload_n dX10_follow_81 rfl ?_
  refine Ev_get dX10_follow_82 fg_X10_24_10 (gn (by omega) hW) rfl ?_
  refine Ev_iload_n dX10_follow_85 rfl ?_
  refine Ev_ior dX10_follow_86 ?_
  refine Ev_topi (y := nI (g ||| (2 ^ j))) (orN _ _) ?_
  refine Ev_put dX10_follow_87 fr_X10_24_10 (gs hT) rfl rfl rfl ?_
  refine Ev_st gss ?_
  refine Ev_aload_n dX10_follow_90 rfl ?_
  refine Ev_aload_n dX10_follow_91 rfl ?_
  refine Ev_get dX10_follow_92 fg_X10_27_10 (gn (by omega) hW) rfl ?_
  refine Ev_aload_n dX10_follow_95 rfl ?_
  refine Ev_get dX10_follow_96 (fg3_X10_42 (kc3 _)) (gn (by omega) hS) rfl ?_
  refine Ev_i2l dX10_follow_99 ?_
  refine Ev_topl (y := lN (tn G fz j)) (nl (by omega)) ?_
  refine Ev_lmul dX10_follow_100 ?_
  refine Ev_topl (y := lN (t * (tn G fz j))) (lmulN _ _) ?_
  refine Ev_put dX10_follow_101 fr_X10_27_10 (gs hT) rfl rfl rfl ?_
  refine Ev_st gss ?_
  refine Ev_vret dX10_follow_104 rfl ?_
  exact k

theorem c_follow_s {d : Nat} {S : aS} {Q : Option Value → aS → Prop} {pl n cs a b : Nat} {G : Nat → Nat → Nat} {fz : Int} {r : Nat → Nat} {p q i : Nat} (hg : GD pl n G) (hr : ∀ y, y < i + 1 → r y < n) (hS : S[b]? = some (stc G cs fz (r i))) (hW : S[a]? = some (WKC G n fz r p i)) (hab : a ≠ b) (hq : gt G cs (r i) p = some q) (k : Q none (S.set a (WKC G n fz r q (i + 1)))) : Mth mX10_follow (d + 1) 0 [.ref a, .ref a, .ref b] S Q := by
  have hgl : goN r i < 512 := Nat.lt_of_lt_of_le (goN_lt i (fun y hy => hr y (by omega))) (p9 hg.2.1)
  have e := sgN_or (G := G) (g := goN r i) (hr i (by omega))
  simp only [WKC, goN, sumN, prodN] at k
  rw [e] at k
  cases hb : (goN r i).testBit (r i) with
  | false =>
    rw [hb] at k
    exact c_follow_s1 hg (hr i (by omega)) hS hgl hW hab hb hq k
  | true =>
    rw [hb] at k
    exact c_follow_s0 hg (hr i (by omega)) hS hgl hW hab hb hq k
theorem c_follow_t {d : Nat} {S : aS} {Q : Option Value → aS → Prop} {pl n cs a b c : Nat} {G : Nat → Nat → Nat} {fz : Int} {r : Nat → Nat} {p q i : Nat} {x1 x2 x3 x4 x5 : Int32} {x6 : Int64} (hg : GD pl n G) (hr : ∀ y, y < i + 1 → r y < n) (hS : S[b]? = some (stc G cs fz (r i))) (hW : S[c]? = some (WKC G n fz r p i)) (hT : S[a]? = some (wkc x1 x2 x3 x4 x5 x6)) (hab : a ≠ b) (hac : a ≠ c) (hq : gt G cs (r i) p = some q) (k : Q none (S.set a (WKC G n fz r q (i + 1)))) : Mth mX10_follow (d + 1) 0 [.ref a, .ref c, .ref b] S Q := by
  have hgl : goN r i < 512 := Nat.lt_of_lt_of_le (goN_lt i (fun y hy => hr y (by omega))) (p9 hg.2.1)
  have e := sgN_or (G := G) (g := goN r i) (hr i (by omega))
  simp only [WKC, goN, sumN, prodN] at k
  rw [e] at k
  cases hb : (goN r i).testBit (r i) with
  | false =>
    rw [hb] at k
    exact c_follow_t1 hg (hr i (by omega)) hS hgl hW hT hab hac hb hq k
  | true =>
    rw [hb] at k
    exact c_follow_t0 hg (hr i (by omega)) hS hgl hW hT hab hac hb hq k
theorem c_X2_stretchAt_v {d : Nat} {S : aS} {Q : Option Value → aS → Prop} {pl n q : Nat} {du lw fr : Int32} (hp7 : pl ≤ 7) (hn9 : n ≤ 9) (hq : q ≤ 8) (hN : S[10]? = some (nt (nI pl) (nI n) du lw fr (nI q))) {sa : Nat → Option Nat} {ad : Nat → Nat} (hA : S[11]? = some (rA 4 9 sa)) (hsa : ∀ j, j < n → sa j = some (ad j)) {j : Nat} {v : Int32} (hv : v = nI j) (hj : j < n) (k : Q (some (.ref (ad j))) S) : Mth mX2_stretchAt d 0 [.ref 10, .int v] S Q := by
  subst hv
  exact c_X2_stretchAt hp7 hn9 hq hN hA hsa hj k

set_option maxHeartbeats 4000000 in
set_option maxRecDepth 100000 in
theorem c_X2_costOf {d : Nat} {S : aS} {Q : Option Value → aS → Prop} {pl n q : Nat} {du lw fr : Int32} (hp7 : pl ≤ 7) (hn9 : n ≤ 9) (hq : q ≤ 8) (hN : S[10]? = some (nt (nI pl) (nI n) du lw fr (nI q))) (hlw : 0 ≤ lw.toInt ∧ lw.toInt ≤ 2) {late : Int32} {z : Int} (hz : late.toInt = z) (hzr : 0 < z ∧ z ≤ 1000) (k : Q (some (.int (iZ (cst lw.toInt z)))) S) : Mth mX2_costOf d 0 [.ref 10, .int late] S Q := by
  refine Mth_of (by decide) rfl ?_
  refine Ev_aload_n dX2_costOf_0 rfl ?_
  refine Ev_get dX2_costOf_1 fg_X2_55_2 hN rfl ?_
  by_cases e1 : lw = 1
  · skip
    refine Ev_lookup (off := 28) (tg := 32) dX2_costOf_4 (by decide) (by rw [e1]; decide) (by decide) ?_
    refine Ev_iload_n dX2_costOf_32 rfl ?_
    refine Ev_iconst (v := 5) dX2_costOf_33 (by decide) ?_
    refine Ev_icmp_gt dX2_costOf_34 (fun c2 => ?_) (fun c2 => ?_)
    · skip
      refine Ev_iconst (v := 3) dX2_costOf_41 (by decide) ?_
      refine Ev_iload_n dX2_costOf_42 rfl ?_
      refine Ev_iconst (v := 5) dX2_costOf_43 (by decide) ?_
      refine Ev_isub dX2_costOf_44 ?_
      refine Ev_imul dX2_costOf_45 ?_
      refine Ev_iret dX2_costOf_46 rfl rfl ?_
      simp only [xlt, xle, xeq, z32_0, z32_1, z32_2, z32_5, hz] at c2
      rw [xeq] at e1
      simp only [z32_1, z32_2] at e1
      have e : (3 * (late - 5) : Int32).toInt = cst lw.toInt z := by
        unfold cst
        first
          | (rw [if_neg (by omega), if_pos (by omega)]; exact hz)
          | (rw [if_neg (by omega), if_neg (by omega), if_pos (by omega)]; exact xmul hz hz (sq_le (by omega) (by omega)))
          | (rw [if_neg (by omega), if_neg (by omega), if_neg (by omega), if_pos (by omega)]; exact xmul rfl (xsub hz rfl (by omega)) (by omega))
          | (rw [if_neg (by omega), if_neg (by omega), if_neg (by omega), if_neg (by omega)]; rfl)
      rw [toZ e]
      exact k
    · skip
      refine Ev_iconst (v := 0) dX2_costOf_37 (by decide) ?_
      refine Ev_goto dX2_costOf_38 ?_
      refine Ev_iret dX2_costOf_46 rfl rfl ?_
      simp only [xlt, xle, xeq, z32_0, z32_1, z32_2, z32_5, hz] at c2
      rw [xeq] at e1
      simp only [z32_1, z32_2] at e1
      have e : (0 : Int32).toInt = cst lw.toInt z := by
        unfold cst
        first
          | (rw [if_neg (by omega), if_pos (by omega)]; exact hz)
          | (rw [if_neg (by omega), if_neg (by omega), if_pos (by omega)]; exact xmul hz hz (sq_le (by omega) (by omega)))
          | (rw [if_neg (by omega), if_neg (by omega), if_neg (by omega), if_pos (by omega)]; exact xmul rfl (xsub hz rfl (by omega)) (by omega))
          | (rw [if_neg (by omega), if_neg (by omega), if_neg (by omega), if_neg (by omega)]; rfl)
      rw [toZ e]
      exact k
  by_cases e3 : lw = 2
  · skip
    refine Ev_lookup (off := 43) (tg := 47) dX2_costOf_4 (by decide) (by rw [e3]; decide) (by decide) ?_
    refine Ev_iload_n dX2_costOf_47 rfl ?_
    refine Ev_iload_n dX2_costOf_48 rfl ?_
    refine Ev_imul dX2_costOf_49 ?_
    refine Ev_iret dX2_costOf_50 rfl rfl ?_
    rw [xeq] at e1
    rw [xeq] at e3
    simp only [z32_1, z32_2] at e1
    simp only [z32_1, z32_2] at e3
    have e : (late * late : Int32).toInt = cst lw.toInt z := by
      unfold cst
      first
        | (rw [if_neg (by omega), if_pos (by omega)]; exact hz)
        | (rw [if_neg (by omega), if_neg (by omega), if_pos (by omega)]; exact xmul hz hz (sq_le (by omega) (by omega)))
        | (rw [if_neg (by omega), if_neg (by omega), if_neg (by omega), if_pos (by omega)]; exact xmul rfl (xsub hz rfl (by omega)) (by omega))
        | (rw [if_neg (by omega), if_neg (by omega), if_neg (by omega), if_neg (by omega)]; rfl)
    rw [toZ e]
    exact k
  refine Ev_lookup (off := 47) (tg := 51) dX2_costOf_4 (by decide) (sw_look2 e1 e3 rfl rfl) (by decide) ?_
  refine Ev_iload_n dX2_costOf_51 rfl ?_
  refine Ev_iret dX2_costOf_52 rfl rfl ?_
  rw [xeq] at e1
  rw [xeq] at e3
  simp only [z32_1, z32_2] at e1
  simp only [z32_1, z32_2] at e3
  have e : (late : Int32).toInt = cst lw.toInt z := by
    unfold cst
    first
      | (rw [if_neg (by omega), if_pos (by omega)]; exact hz)
      | (rw [if_neg (by omega), if_neg (by omega), if_pos (by omega)]; exact xmul hz hz (sq_le (by omega) (by omega)))
      | (rw [if_neg (by omega), if_neg (by omega), if_neg (by omega), if_pos (by omega)]; exact xmul rfl (xsub hz rfl (by omega)) (by omega))
      | (rw [if_neg (by omega), if_neg (by omega), if_neg (by omega), if_neg (by omega)]; rfl)
  rw [toZ e]
  exact k

set_option maxHeartbeats 4000000 in
set_option maxRecDepth 100000 in
theorem c_X2_joyOf {d : Nat} {S : aS} {Q : Option Value → aS → Prop} {pl n q : Nat} {du lw fr : Int32} (hp7 : pl ≤ 7) (hn9 : n ≤ 9) (hq : q ≤ 8) (hN : S[10]? = some (nt (nI pl) (nI n) du lw fr (nI q))) (hlw : 0 ≤ lw.toInt ∧ lw.toInt ≤ 2) (hdu : 0 ≤ du.toInt ∧ du.toInt ≤ 99) {a mi sg : Nat} {x1 x2 x5 : Int32} {x6 : Int64} (hW : S[a]? = some (wkc x1 x2 (nI mi) (nI sg) x5 x6)) (hmi : mi ≤ 300) (hsg : sg ≤ 300) (k : Q (some (.int (iZ (jy lw.toInt du.toInt (sg : Int) (mi : Int))))) S) : Mth mX2_joyOf (d + 1) 0 [.ref 10, .ref a] S Q := by
  have hz : (nI mi - du).toInt = (mi : Int) - du.toInt := xsub (nIt (by omega)) rfl (by omega)
  refine Mth_of (by decide) rfl ?_
  refine Ev_aload_n dX2_joyOf_0 rfl ?_
  refine Ev_get dX2_joyOf_1 fg_X2_73_10 hW rfl ?_
  refine Ev_aload_n dX2_joyOf_4 rfl ?_
  refine Ev_get dX2_joyOf_5 fg_X2_52_2 hN rfl ?_
  refine Ev_isub dX2_joyOf_8 ?_
  refine Ev_istore_n dX2_joyOf_9 rfl ?_
  refine Ev_iload_n dX2_joyOf_10 rfl ?_
  refine Ev_if_gt dX2_joyOf_11 (fun c1 => ?_) (fun c1 => ?_)
  · skip
    refine Ev_aload_n dX2_joyOf_21 rfl ?_
    refine Ev_get dX2_joyOf_22 fg_X2_78_10 hW rfl ?_
    refine Ev_aload_n dX2_joyOf_25 rfl ?_
    refine Ev_iload_n dX2_joyOf_26 rfl ?_
    refine Ev_callV (bc := 0) (b := 0) dX2_joyOf_27 cv_X2_81 rfl hN (Nat.le_of_ble_eq_true rfl) (by omega) ?_
    refine c_X2_costOf hp7 hn9 hq hN hlw hz (by rw [xlt, z32_0, hz] at c1; omega) ?_
    refine Ev_isub dX2_joyOf_30 ?_
    refine Ev_iret dX2_joyOf_31 rfl rfl ?_
    have hc := cst_le (lw := lw.toInt) (late := (mi : Int) - du.toInt) (by omega)
    have e : ((nI sg) - (iZ (cst lw.toInt ((mi : Int) - du.toInt))) : Int32).toInt = jy lw.toInt du.toInt (sg : Int) (mi : Int) := by
      unfold jy
      exact xsub (nIt (by omega)) (iZt (by omega)) (by omega)
    rw [toZ e]
    exact k
  · skip
    refine Ev_aload_n dX2_joyOf_14 rfl ?_
    refine Ev_get dX2_joyOf_15 fg_X2_78_10 hW rfl ?_
    refine Ev_goto dX2_joyOf_18 ?_
    refine Ev_iret dX2_joyOf_31 rfl rfl ?_
    rw [xlt, z32_0, hz] at c1
    have e : (nI sg : Int32).toInt = jy lw.toInt du.toInt (sg : Int) (mi : Int) := by
      unfold jy cst
      rw [if_pos (by omega), nIt (by omega)]; omega
    rw [toZ e]
    exact k

set_option maxHeartbeats 4000000 in
set_option maxRecDepth 100000 in
theorem l_X11_areStretches {d : Nat} {S : aS} {Q : Option Value → aS → Prop} {lf : Int32} (hO : S[0]? = some (co lf)) {pl n q : Nat} {du lw fr : Int32} (hp7 : pl ≤ 7) (hn9 : n ≤ 9) (hq : q ≤ 8) (hN : S[10]? = some (nt (nI pl) (nI n) du lw fr (nI q))) {cs : Nat} {G : Nat → Nat → Nat} (hg : GD pl n G) {sa : Nat → Option Nat} {ad : Nat → Nat} (hA : S[11]? = some (rA 4 9 sa)) (hsa : ∀ j, j < n → sa j = some (ad j)) {fz : Int} (hC : CN S n G cs fz ad) {kk : Nat} (hk : kk < 4) {ln len : Int32} {f : Nat → Int32} (hS : S[2 + 2 * kk]? = some (.inr (5, [.ref (3 + 2 * kk), .int ln, .int len]))) (hc : S[3 + 2 * kk]? = some (iA 60 f)) (hl : 0 ≤ len.toInt ∧ len.toInt ≤ 60) {ii m : Nat} (hiz : (ii : Int) + m ≤ len.toInt) (kt : (∀ y, y < m → inR n (f (ii + y))) → Q (some (.int 1)) S) (kf : ∀ x, x < m → ¬ inR n (f (ii + x)) → Q (some (.int 0)) S)  : ∀ (t i : Nat) (hin : ∀ y, y < i → inR n (f (ii + y))), i + t = m → Ev none mX11_areStretches (d + 2) 0 3 [some (.ref 0), some (.ref (2 + 2 * kk)), some (.int (nI ii)), some (.int (nI m)), some (.int (nI i))] [] S Q := by
  intro t
  induction t with
  | zero =>
    intro i hin hi
    obtain rfl : i = m := by omega
    refine Ev_iload dX11_areStretches_3 rfl ?_
    refine Ev_iload_n dX11_areStretches_5 rfl ?_
    refine Ev_icmp_ge dX11_areStretches_6 (fun _ => ?_) (fun c => absurd ((nle (by omega) (by omega)).mpr (Nat.le_refl _)) c)
    refine Ev_iconst (v := 1) dX11_areStretches_35 (by decide) ?_
    refine Ev_iret dX11_areStretches_36 rfl (by decide) ?_
    exact kt hin
  | succ t ih =>
    intro i hin hi
    refine Ev_iload dX11_areStretches_3 rfl ?_
    refine Ev_iload_n dX11_areStretches_5 rfl ?_
    refine Ev_icmp_ge dX11_areStretches_6 (fun c => absurd c (fun z => absurd ((nle (by omega) (by omega)).mp z) (by omega))) (fun _ => ?_)
    refine Ev_aload_n dX11_areStretches_9 rfl ?_
    refine Ev_get dX11_areStretches_10 fg_X11_21_11 hO rfl ?_
    refine Ev_aload_n dX11_areStretches_13 rfl ?_
    refine Ev_iload_n dX11_areStretches_14 rfl ?_
    refine Ev_iload dX11_areStretches_15 rfl ?_
    refine Ev_iadd dX11_areStretches_17 ?_
    refine Ev_topi (y := nI (ii + i)) (nI_add _ _) ?_
    refine Ev_callV (bc := 0) (b := 0) dX11_areStretches_18 cv_X11_243 rfl hS (Nat.le_of_ble_eq_true rfl) (by omega) ?_
    refine c_X5_read hS hc (ii := ii + i) (by omega) hl ?_
    refine Ev_callV (bc := 0) (b := 0) dX11_areStretches_21 cv_X11_99 rfl hN (Nat.le_of_ble_eq_true rfl) (by omega) ?_
    by_cases hx : inR n (f (ii + i))
    · skip
      refine c_X2_stretchAt_v hp7 hn9 hq hN hA hsa (inR_rc (c := (fun y => f (ii + y))) hx).1 (inR_rc (c := (fun y => f (ii + y))) hx).2 ?_
      refine Ev_ifnonnull dX11_areStretches_24 ?_
      refine Ev_iinc (v := nI (i + 1)) dX11_areStretches_29 rfl (nI_1 _) rfl ?_
      refine Ev_goto dX11_areStretches_32 ?_
      exact ih (i + 1) (fun y hy => by by_cases e : y = i; (subst e; exact hx); exact hin y (by omega)) (by omega)
    · skip
      refine c_X2_stretchAt_bad hp7 hn9 hq hN hx ?_
      refine Ev_ifnonnullN dX11_areStretches_24 ?_
      refine Ev_iconst (v := 0) dX11_areStretches_27 (by decide) ?_
      refine Ev_iret dX11_areStretches_28 rfl (by decide) ?_
      exact kf i (by omega) hx

set_option maxHeartbeats 4000000 in
set_option maxRecDepth 100000 in
theorem c_X11_areStretches {d : Nat} {S : aS} {Q : Option Value → aS → Prop} {lf : Int32} (hO : S[0]? = some (co lf)) {pl n q : Nat} {du lw fr : Int32} (hp7 : pl ≤ 7) (hn9 : n ≤ 9) (hq : q ≤ 8) (hN : S[10]? = some (nt (nI pl) (nI n) du lw fr (nI q))) {cs : Nat} {G : Nat → Nat → Nat} (hg : GD pl n G) {sa : Nat → Option Nat} {ad : Nat → Nat} (hA : S[11]? = some (rA 4 9 sa)) (hsa : ∀ j, j < n → sa j = some (ad j)) {fz : Int} (hC : CN S n G cs fz ad) {kk : Nat} (hk : kk < 4) {ln len : Int32} {f : Nat → Int32} (hS : S[2 + 2 * kk]? = some (.inr (5, [.ref (3 + 2 * kk), .int ln, .int len]))) (hc : S[3 + 2 * kk]? = some (iA 60 f)) (hl : 0 ≤ len.toInt ∧ len.toInt ≤ 60) {ii m : Nat} (hiz : (ii : Int) + m ≤ len.toInt) (kt : (∀ y, y < m → inR n (f (ii + y))) → Q (some (.int 1)) S) (kf : ∀ x, x < m → ¬ inR n (f (ii + x)) → Q (some (.int 0)) S)  : Mth mX11_areStretches (d + 2) 0 [.ref 0, .ref (2 + 2 * kk), .int (nI ii), .int (nI m)] S Q := by
  refine Mth_of (by decide) rfl ?_
  refine Ev_iconst (v := 0) dX11_areStretches_0 (by decide) ?_
  refine Ev_istore dX11_areStretches_1 rfl ?_
  exact l_X11_areStretches hO hp7 hn9 hq hN hg hA hsa hC hk hS hc hl hiz kt kf m 0 (fun y hy => absurd hy (by omega)) (by omega)

set_option maxHeartbeats 4000000 in
set_option maxRecDepth 100000 in
theorem l_X11_followCells {d : Nat} {S : aS} {Q : Option Value → aS → Prop} {lf : Int32} (hO : S[0]? = some (co lf)) {pl n q : Nat} {du lw fr : Int32} (hp7 : pl ≤ 7) (hn9 : n ≤ 9) (hq : q ≤ 8) (hN : S[10]? = some (nt (nI pl) (nI n) du lw fr (nI q))) {cs : Nat} {G : Nat → Nat → Nat} (hg : GD pl n G) {sa : Nat → Option Nat} {ad : Nat → Nat} (hA : S[11]? = some (rA 4 9 sa)) (hsa : ∀ j, j < n → sa j = some (ad j)) {fz : Int} (hC : CN S n G cs fz ad) {kk : Nat} (hk : kk < 4) {ln len : Int32} {f : Nat → Int32} (hS : S[2 + 2 * kk]? = some (.inr (5, [.ref (3 + 2 * kk), .int ln, .int len]))) (hc : S[3 + 2 * kk]? = some (iA 60 f)) (hl : 0 ≤ len.toInt ∧ len.toInt ≤ 60) {ii m : Nat} (hiz : (ii : Int) + m ≤ len.toInt) {x1 x2 x3 x4 x5 : Int32} {x6 : Int64} (hW : S[14]? = some (wkc x1 x2 x3 x4 x5 x6)) (hm : m ≤ 12) {r : Nat → Nat} (hrow : ∀ y, y < m → f (ii + y) = nI (r y) ∧ r y < n) (hp0 : 0 < pl) (kf : ∀ x p c, x < m → paN G cs r x = some p → gt G cs (r x) p = none → Q (some (.int (-100 - nI x))) (S.set 14 (WKC G n fz r p c))) (ks : ∀ p, paN G cs r m = some p → Q (some (.int 0)) (S.set 14 (WKC G n fz r p m)))  : ∀ (t i : Nat) (p : Nat) (hpa : paN G cs r i = some p), i + t = m → Ev none mX11_followCells (d + 2) 0 10 [some (.ref 0), some (.ref (2 + 2 * kk)), some (.int (nI ii)), some (.int (nI m)), some (.int (nI i)), none] [] (S.set 14 (WKC G n fz r p i)) Q := by
  intro t
  induction t with
  | zero =>
    intro i p hpa hi
    obtain rfl : i = m := by omega
    refine Ev_iload dX11_followCells_10 rfl ?_
    refine Ev_iload_n dX11_followCells_12 rfl ?_
    refine Ev_icmp_ge dX11_followCells_13 (fun _ => ?_) (fun c => absurd ((nle (by omega) (by omega)).mpr (Nat.le_refl _)) c)
    refine Ev_iconst (v := 0) dX11_followCells_78 (by decide) ?_
    refine Ev_iret dX11_followCells_79 rfl rfl ?_
    exact ks p hpa
  | succ t ih =>
    intro i p hpa hi
    have hpl := paN_lt hg hp0 i p (fun y hy => (hrow y (by omega)).2) hpa
    refine Ev_iload dX11_followCells_10 rfl ?_
    refine Ev_iload_n dX11_followCells_12 rfl ?_
    refine Ev_icmp_ge dX11_followCells_13 (fun c => absurd c (fun z => absurd ((nle (by omega) (by omega)).mp z) (by omega))) (fun _ => ?_)
    refine Ev_aload_n dX11_followCells_16 rfl ?_
    refine Ev_get dX11_followCells_17 fg_X11_21_11 (gn (by decide) hO) rfl ?_
    refine Ev_aload_n dX11_followCells_20 rfl ?_
    refine Ev_iload_n dX11_followCells_21 rfl ?_
    refine Ev_iload dX11_followCells_22 rfl ?_
    refine Ev_iadd dX11_followCells_24 ?_
    refine Ev_topi (y := nI (ii + i)) (nI_add _ _) ?_
    refine Ev_callV (bc := 0) (b := 0) dX11_followCells_25 cv_X11_243 rfl (gn (by omega) hS) (Nat.le_of_ble_eq_true rfl) (by omega) ?_
    refine c_X5_read (gn (by omega) hS) (gn (by omega) hc) (ii := ii + i) (by omega) hl ?_
    refine Ev_callV (bc := 0) (b := 0) dX11_followCells_28 cv_X11_99 rfl (gn (by decide) hN) (Nat.le_of_ble_eq_true rfl) (by omega) ?_
    refine c_X2_stretchAt_v hp7 hn9 hq (gn (by decide) hN) (gn (by decide) hA) hsa (hrow i (by omega)).1 (hrow i (by omega)).2 ?_
    refine Ev_astore dX11_followCells_31 rfl ?_
    refine Ev_aload dX11_followCells_33 rfl ?_
    refine Ev_ifnull dX11_followCells_35 ?_
    refine Ev_aload dX11_followCells_38 rfl ?_
    refine Ev_aload_n dX11_followCells_40 rfl ?_
    refine Ev_get dX11_followCells_41 fg_X11_28_11 (gn (by decide) hO) rfl ?_
    refine Ev_get dX11_followCells_44 fg_X11_155_10 (gs hW) rfl ?_
    refine Ev_callO (bc := 0) (b := 0) dX11_followCells_47 (co3_X11_290 (kc3 _)) rfl ((CN.off hC (by decide)) _ (hrow i (by omega)).2).1 (Nat.le_of_ble_eq_true rfl) (by omega) ?_
    refine c_leads hg (hrow i (by omega)).2 (by omega) ((CN.off hC (by decide)) _ (hrow i (by omega)).2).1 (fun p2 hgt => ?_) (fun hgt => ?_)
    · skip
      refine Ev_if_ne dX11_followCells_50 (fun _ => ?_) (fun c => absurd c (by decide))
      refine Ev_aload_n dX11_followCells_59 rfl ?_
      refine Ev_get dX11_followCells_60 fg_X11_28_11 (gn (by decide) hO) rfl ?_
      refine Ev_aload_n dX11_followCells_63 rfl ?_
      refine Ev_get dX11_followCells_64 fg_X11_28_11 (gn (by decide) hO) rfl ?_
      refine Ev_aload dX11_followCells_67 rfl ?_
      refine Ev_callV (bc := 0) (b := 0) dX11_followCells_69 cv_X11_293 rfl (gs hW) (Nat.le_of_ble_eq_true rfl) (by omega) ?_
      refine c_follow_s (r := r) (i := i) hg (fun y hy => (hrow y (by omega)).2) ((CN.off hC (by decide)) _ (hrow i (by omega)).2).1 (gs hW) (by have := (hC (r i) (hrow i (by omega)).2).2.1; omega) hgt ?_
      refine Ev_iinc (v := nI (i + 1)) dX11_followCells_72 rfl (nI_1 _) rfl ?_
      refine Ev_goto dX11_followCells_75 ?_
      refine Ev_loc (la2 := [some (.ref 0), some (.ref (2 + 2 * kk)), some (.int (nI ii)), some (.int (nI m)), some (.int (nI (i + 1))), none]) ⟨rfl, ⟨rfl, ⟨rfl, ⟨rfl, ⟨rfl, trivial⟩⟩⟩⟩⟩ ?_
      refine Ev_st gss ?_
      refine Ev_loc (la2 := [some (.ref 0), some (.ref (2 + 2 * kk)), some (.int (nI ii)), some (.int (nI m)), some (.int (nI (i + 1))), none]) ⟨rfl, ⟨rfl, ⟨rfl, ⟨rfl, ⟨rfl, trivial⟩⟩⟩⟩⟩ ?_
      exact ih (i + 1) p2 (paN_s hpa hgt) (by omega)
    · skip
      refine Ev_if_ne dX11_followCells_50 (fun c => absurd (by decide) c) (fun _ => ?_)
      refine Ev_bipush (v := (-100)) dX11_followCells_53 (by decide) ?_
      refine Ev_iload dX11_followCells_55 rfl ?_
      refine Ev_isub dX11_followCells_57 ?_
      refine Ev_iret dX11_followCells_58 rfl rfl ?_
      exact kf i p i (by omega) hpa hgt

theorem sumN_z {f : Nat → Nat} : ∀ n, (∀ k, k < n → f k = 0) → sumN f n = 0
  | 0, _ => rfl
  | n + 1, h => by simp only [sumN]; rw [sumN_z n (fun k hk => h k (by omega)), h n (by omega)]
theorem sg0 {G : Nat → Nat → Nat} {n : Nat} : sgN G n 0 = 0 := sumN_z n (fun k _ => by simp)

set_option maxHeartbeats 4000000 in
set_option maxRecDepth 100000 in
theorem c_X11_followCells {d : Nat} {S : aS} {Q : Option Value → aS → Prop} {lf : Int32} (hO : S[0]? = some (co lf)) {pl n q : Nat} {du lw fr : Int32} (hp7 : pl ≤ 7) (hn9 : n ≤ 9) (hq : q ≤ 8) (hN : S[10]? = some (nt (nI pl) (nI n) du lw fr (nI q))) {cs : Nat} {G : Nat → Nat → Nat} (hg : GD pl n G) {sa : Nat → Option Nat} {ad : Nat → Nat} (hA : S[11]? = some (rA 4 9 sa)) (hsa : ∀ j, j < n → sa j = some (ad j)) {fz : Int} (hC : CN S n G cs fz ad) {kk : Nat} (hk : kk < 4) {ln len : Int32} {f : Nat → Int32} (hS : S[2 + 2 * kk]? = some (.inr (5, [.ref (3 + 2 * kk), .int ln, .int len]))) (hc : S[3 + 2 * kk]? = some (iA 60 f)) (hl : 0 ≤ len.toInt ∧ len.toInt ≤ 60) {ii m : Nat} (hiz : (ii : Int) + m ≤ len.toInt) {x1 x2 x3 x4 x5 : Int32} {x6 : Int64} (hW : S[14]? = some (wkc x1 x2 x3 x4 x5 x6)) (hm : m ≤ 12) {r : Nat → Nat} (hrow : ∀ y, y < m → f (ii + y) = nI (r y) ∧ r y < n) (hp0 : 0 < pl) (kf : ∀ x p c, x < m → paN G cs r x = some p → gt G cs (r x) p = none → Q (some (.int (-100 - nI x))) (S.set 14 (WKC G n fz r p c))) (ks : ∀ p, paN G cs r m = some p → Q (some (.int 0)) (S.set 14 (WKC G n fz r p m)))  : Mth mX11_followCells (d + 2) 0 [.ref 0, .ref (2 + 2 * kk), .int (nI ii), .int (nI m)] S Q := by
  refine Mth_of (by decide) rfl ?_
  refine Ev_aload_n dX11_followCells_0 rfl ?_
  refine Ev_get dX11_followCells_1 fg_X11_28_11 hO rfl ?_
  refine Ev_callV (bc := 0) (b := 0) dX11_followCells_4 cv_X11_288 rfl hW (Nat.le_of_ble_eq_true rfl) (by omega) ?_
  refine c_X10_begin hW ?_
  refine Ev_iconst (v := 0) dX11_followCells_7 (by decide) ?_
  refine Ev_istore dX11_followCells_8 rfl ?_
  refine Ev_st (show _ = S.set 14 (WKC G n fz r 0 0) from by simp only [WKC, sumN, goN, prodN, sg0]; rfl) ?_
  exact l_X11_followCells hO hp7 hn9 hq hN hg hA hsa hC hk hS hc hl hiz hW hm hrow hp0 kf ks m 0 0 rfl (by omega)

