def P_net : Prop := ∀ S, ST S → ∀ a b c d : Int32, PrI mX11_net mX12_net 10 [.int a, .int b, .int c, .int d] S
def P_ofStretch : Prop := ∀ S, ST S → ∀ a b : Int32, PrI mX11_ofStretch mX12_ofStretch 0 [.int a, .int b] S
def P_due : Prop := ∀ S, ST S → ∀ a : Int32, PrI mX11_due mX12_due 0 [.int a] S
def P_law : Prop := ∀ S, ST S → ∀ a : Int32, PrI mX11_law mX12_law 0 [.int a] S
def P_friend : Prop := ∀ S, ST S → ∀ a : Int32, PrI mX11_friend mX12_friend 0 [.int a] S
def P_close0 : Prop := ∀ S, ST S → ∀ a : Int32, PrI mX11_close mX12_close 0 [.int a, .int 0] S
def P_close1 : Prop := ∀ S, ST S → ∀ a : Int32, PrI mX11_close mX12_close 0 [.int a, .int 1] S
def P_walk : Prop := ∀ S, ST S → ∀ a b c d e : Int32, PrI mX11_walk mX12_walk 0 [.int a, .int b, .int c, .int d, .int e] S
def P_safe : Prop := ∀ S, ST S → ∀ a b c d e : Int32, PrL mX11_safe mX12_safe 0 [.int a, .int b, .int c, .int d, .int e] S
def P_quickest : Prop := ∀ S, ST S → ∀ a : Int32, PrI mX11_quickest mX12_quickest 0 [.int a] S
def P_via : Prop := ∀ S, ST S → ∀ a : Int32, PrI mX11_via mX12_via 0 [.int a] S
def P_best : Prop := ∀ S, ST S → ∀ a b : Int32, PrI mX11_best mX12_best 0 [.int a, .int b] S
def P_safest : Prop := ∀ S, ST S → ∀ a b : Int32, PrI mX11_safest mX12_safest 0 [.int a, .int b] S
def P_worth : Prop := ∀ S, ST S → ∀ a : Int32, PrI mX11_worth mX12_worth 0 [.int a] S
def P_reading0 : Prop := ∀ S, ST S → ∀ a : Int32, PrI mX11_reading mX12_reading 0 [.int a, .int 0] S
def P_reading1 : Prop := ∀ S, ST S → ∀ a : Int32, PrI mX11_reading mX12_reading 0 [.int a, .int 1] S
def P_back : Prop := ∀ S, ST S → ∀ a : Int32, PrI mX11_back mX12_back 0 [.int a] S
def P_trails : Prop := ∀ S, ST S → ∀ a b c : Int32, PrI mX11_trails mX12_trails 0 [.int a, .int b, .int c] S
def P_dawdle : Prop := ∀ S, ST S → ∀ a b c : Int32, PrL mX11_dawdle mX12_dawdle 0 [.int a, .int b, .int c] S
def P_sheet : Prop := ∀ S, ST S → ∀ a b c : Int32, PrI mX11_sheet mX12_sheet 0 [.int a, .int b, .int c] S
def P_lose : Prop := ∀ S, ST S → ∀ a : Int32, PrI mX11_lose mX12_lose 0 [.int a] S
def P_put : Prop := ∀ S, ST S → ∀ a b c : Int32, PrI mX11_put mX12_put 0 [.int a, .int b, .int c] S
def P_cell : Prop := ∀ S, ST S → ∀ a b c : Int32, PrL mX11_cell mX12_cell 0 [.int a, .int b, .int c] S
def P_copy : Prop := ∀ S, ST S → ∀ a b c d e : Int32, PrI mX11_copy mX12_copy 0 [.int a, .int b, .int c, .int d, .int e] S
def P_tell : Prop := ∀ S, ST S → ∀ a : Int32, PrI mX11_tell mX12_tell 0 [.int a] S
def P_sing : Prop := ∀ S, ST S → ∀ a : Int32, PrI mX11_sing mX12_sing 0 [.int a] S
def P_as : Prop := ∀ S, ST S → ∀ a b : Int32, PrI mX11_as mX12_as 0 [.int a, .int b] S
def P_trace : Prop := ∀ S, ST S → PrI mX11_trace mX12_trace 0 [] S
def P_fault : Prop := ∀ S, ST S → PrI mX11_fault mX12_fault 0 [] S
def P_many : Prop := ∀ S, ST S → ∀ a : Int32, PrI mX11_many mX12_many 0 [.int a] S
def ALLP : Prop := P_net ∧ P_ofStretch ∧ P_due ∧ P_law ∧ P_friend ∧ P_close0 ∧ P_close1 ∧ P_walk ∧ P_safe ∧ P_quickest ∧ P_via ∧ P_best ∧ P_safest ∧ P_worth ∧ P_reading0 ∧ P_reading1 ∧ P_back ∧ P_trails ∧ P_dawdle ∧ P_sheet ∧ P_lose ∧ P_put ∧ P_cell ∧ P_copy ∧ P_tell ∧ P_sing ∧ P_as ∧ P_trace ∧ P_fault ∧ P_many
theorem Ev_bud {X : Option (Nat × (Nat → Int32))} {mi : MI} {d b b2 pc : Nat} {la : aL} {st : List Value} {S : aS} {Q : Option Value → aS → Prop} (h : b ≤ b2) (k : Ev X mi d b pc la st S Q) : Ev X mi d b2 pc la st S Q := by
  intro p l e R s m args below meth c D cA A L ws H locs cells slots Qf ls st' hC hX hW hl hs hc hq hK
  exact k p l e R s m args below meth c D cA A L ws H locs cells slots Qf ls st' hC hX hW hl hs (by omega) (by omega) hK
theorem law_sel (x : Int32) : ∃ j : Nat, j < 32 ∧ x &&& 31 = nI j := pk_andE x 5 rfl

set_option maxHeartbeats 4000000 in
set_option maxRecDepth 100000 in
theorem law_body {d b i L : Nat} {xs : Nat → Int32} {S : aS} {Q : Option Value → aS → Prop} (H : ALLP) (hL : i + 6 ≤ L) (hL2 : L ≤ 384) (hST : ST S) (ih : ∀ S2, ST S2 → LawAt L xs d b 1129 i [] S2 Q) : LawAt L xs d (10 + b) 27 i [] S Q := by
  obtain ⟨Hnet, HofStretch, Hdue, Hlaw, Hfriend, Hclose0, Hclose1, Hwalk, Hsafe, Hquickest, Hvia, Hbest, Hsafest, Hworth, Hreading0, Hreading1, Hback, Htrails, Hdawdle, Hsheet, Hlose, Hput, Hcell, Hcopy, Htell, Hsing, Has, Htrace, Hfault, Hmany⟩ := H
  refine Ev_aload_nX dL_law_27 rfl ?_
  refine Ev_iload_n dL_law_28 rfl ?_
  refine Ev_sldN (j := i) rfl dL_law_29 (by omega) (by omega) ?_
  refine Ev_bipush (v := 31) dL_law_30 (by decide) ?_
  refine Ev_iand dL_law_32 ?_
  obtain ⟨j, hj, ej⟩ := law_sel (xs i)
  refine Ev_topi ej ?_
  match j, hj with
  | 0, _ =>
    refine Ev_tableIn (off := 127) (tg := 160) 0 dL_law_33 (by decide) (by decide) rfl (by decide) ?_
    exact lc_net hL hL2 hST.m.1 (Hnet S hST (xs (i + 1)) (xs (i + 2)) (xs (i + 3)) (xs (i + 4))) ih
  | 1, _ =>
    refine Ev_tableIn (off := 180) (tg := 213) 1 dL_law_33 (by decide) (by decide) rfl (by decide) ?_
    exact Ev_bud (by omega) (lc_ofStretch (b := b) hL hL2 hST.m.1 (HofStretch S hST (xs (i + 1)) (xs (i + 2))) ih)
  | 2, _ =>
    refine Ev_tableIn (off := 213) (tg := 246) 2 dL_law_33 (by decide) (by decide) rfl (by decide) ?_
    exact Ev_bud (by omega) (lc_due (b := b) hL hL2 hST.m.1 (Hdue S hST (xs (i + 1))) ih)
  | 3, _ =>
    refine Ev_tableIn (off := 236) (tg := 269) 3 dL_law_33 (by decide) (by decide) rfl (by decide) ?_
    exact Ev_bud (by omega) (lc_law (b := b) hL hL2 hST.m.1 (Hlaw S hST (xs (i + 1))) ih)
  | 4, _ =>
    refine Ev_tableIn (off := 259) (tg := 292) 4 dL_law_33 (by decide) (by decide) rfl (by decide) ?_
    exact Ev_bud (by omega) (lc_friend (b := b) hL hL2 hST.m.1 (Hfriend S hST (xs (i + 1))) ih)
  | 5, _ =>
    refine Ev_tableIn (off := 282) (tg := 315) 5 dL_law_33 (by decide) (by decide) rfl (by decide) ?_
    by_cases hb : xs (i + 2) = 0
    · exact Ev_bud (by omega) (lc_close0 (b := b) hL hL2 hST.m.1 hb (Hclose0 S hST (xs (i + 1))) ih)
    · exact Ev_bud (by omega) (lc_close1 (b := b) hL hL2 hST.m.1 hb (Hclose1 S hST (xs (i + 1))) ih)
  | 6, _ =>
    refine Ev_tableIn (off := 331) (tg := 364) 6 dL_law_33 (by decide) (by decide) rfl (by decide) ?_
    exact Ev_bud (by omega) (lc_walk (b := b) hL hL2 hST.m.1 (Hwalk S hST (xs (i + 1)) (xs (i + 2)) (xs (i + 3)) (xs (i + 4)) (xs (i + 5))) ih)
  | 7, _ =>
    refine Ev_tableIn (off := 394) (tg := 427) 7 dL_law_33 (by decide) (by decide) rfl (by decide) ?_
    exact Ev_bud (by omega) (lc_safe (b := b) hL hL2 hST.m.1 (Hsafe S hST (xs (i + 1)) (xs (i + 2)) (xs (i + 3)) (xs (i + 4)) (xs (i + 5))) ih)
  | 8, _ =>
    refine Ev_tableIn (off := 458) (tg := 491) 8 dL_law_33 (by decide) (by decide) rfl (by decide) ?_
    exact Ev_bud (by omega) (lc_quickest (b := b) hL hL2 hST.m.1 (Hquickest S hST (xs (i + 1))) ih)
  | 9, _ =>
    refine Ev_tableIn (off := 481) (tg := 514) 9 dL_law_33 (by decide) (by decide) rfl (by decide) ?_
    exact Ev_bud (by omega) (lc_via (b := b) hL hL2 hST.m.1 (Hvia S hST (xs (i + 1))) ih)
  | 10, _ =>
    refine Ev_tableIn (off := 504) (tg := 537) 10 dL_law_33 (by decide) (by decide) rfl (by decide) ?_
    exact Ev_bud (by omega) (lc_best (b := b) hL hL2 hST.m.1 (Hbest S hST (xs (i + 1)) (xs (i + 2))) ih)
  | 11, _ =>
    refine Ev_tableIn (off := 537) (tg := 570) 11 dL_law_33 (by decide) (by decide) rfl (by decide) ?_
    exact Ev_bud (by omega) (lc_safest (b := b) hL hL2 hST.m.1 (Hsafest S hST (xs (i + 1)) (xs (i + 2))) ih)
  | 12, _ =>
    refine Ev_tableIn (off := 570) (tg := 603) 12 dL_law_33 (by decide) (by decide) rfl (by decide) ?_
    exact Ev_bud (by omega) (lc_worth (b := b) hL hL2 hST.m.1 (Hworth S hST (xs (i + 1))) ih)
  | 13, _ =>
    refine Ev_tableIn (off := 593) (tg := 626) 13 dL_law_33 (by decide) (by decide) rfl (by decide) ?_
    by_cases hb : xs (i + 2) = 0
    · exact Ev_bud (by omega) (lc_reading0 (b := b) hL hL2 hST.m.1 hb (Hreading0 S hST (xs (i + 1))) ih)
    · exact Ev_bud (by omega) (lc_reading1 (b := b) hL hL2 hST.m.1 hb (Hreading1 S hST (xs (i + 1))) ih)
  | 14, _ =>
    refine Ev_tableIn (off := 642) (tg := 675) 14 dL_law_33 (by decide) (by decide) rfl (by decide) ?_
    exact Ev_bud (by omega) (lc_back (b := b) hL hL2 hST.m.1 (Hback S hST (xs (i + 1))) ih)
  | 15, _ =>
    refine Ev_tableIn (off := 665) (tg := 698) 15 dL_law_33 (by decide) (by decide) rfl (by decide) ?_
    exact Ev_bud (by omega) (lc_trails (b := b) hL hL2 hST.m.1 (Htrails S hST (xs (i + 1)) (xs (i + 2)) (xs (i + 3))) ih)
  | 16, _ =>
    refine Ev_tableIn (off := 708) (tg := 741) 16 dL_law_33 (by decide) (by decide) rfl (by decide) ?_
    exact Ev_bud (by omega) (lc_dawdle (b := b) hL hL2 hST.m.1 (Hdawdle S hST (xs (i + 1)) (xs (i + 2)) (xs (i + 3))) ih)
  | 17, _ =>
    refine Ev_tableIn (off := 752) (tg := 785) 17 dL_law_33 (by decide) (by decide) rfl (by decide) ?_
    exact Ev_bud (by omega) (lc_sheet (b := b) hL hL2 hST.m.1 (Hsheet S hST (xs (i + 1)) (xs (i + 2)) (xs (i + 3))) ih)
  | 18, _ =>
    refine Ev_tableIn (off := 795) (tg := 828) 18 dL_law_33 (by decide) (by decide) rfl (by decide) ?_
    exact Ev_bud (by omega) (lc_lose (b := b) hL hL2 hST.m.1 (Hlose S hST (xs (i + 1))) ih)
  | 19, _ =>
    refine Ev_tableIn (off := 818) (tg := 851) 19 dL_law_33 (by decide) (by decide) rfl (by decide) ?_
    exact Ev_bud (by omega) (lc_put (b := b) hL hL2 hST.m.1 (Hput S hST (xs (i + 1)) (xs (i + 2)) (xs (i + 3))) ih)
  | 20, _ =>
    refine Ev_tableIn (off := 861) (tg := 894) 20 dL_law_33 (by decide) (by decide) rfl (by decide) ?_
    exact Ev_bud (by omega) (lc_cell (b := b) hL hL2 hST.m.1 (Hcell S hST (xs (i + 1)) (xs (i + 2)) (xs (i + 3))) ih)
  | 21, _ =>
    refine Ev_tableIn (off := 905) (tg := 938) 21 dL_law_33 (by decide) (by decide) rfl (by decide) ?_
    exact Ev_bud (by omega) (lc_copy (b := b) hL hL2 hST.m.1 (Hcopy S hST (xs (i + 1)) (xs (i + 2)) (xs (i + 3)) (xs (i + 4)) (xs (i + 5))) ih)
  | 22, _ =>
    refine Ev_tableIn (off := 968) (tg := 1001) 22 dL_law_33 (by decide) (by decide) rfl (by decide) ?_
    exact Ev_bud (by omega) (lc_tell (b := b) hL hL2 hST.m.1 (Htell S hST (xs (i + 1))) ih)
  | 23, _ =>
    refine Ev_tableIn (off := 991) (tg := 1024) 23 dL_law_33 (by decide) (by decide) rfl (by decide) ?_
    exact Ev_bud (by omega) (lc_sing (b := b) hL hL2 hST.m.1 (Hsing S hST (xs (i + 1))) ih)
  | 24, _ =>
    refine Ev_tableIn (off := 1014) (tg := 1047) 24 dL_law_33 (by decide) (by decide) rfl (by decide) ?_
    exact Ev_bud (by omega) (lc_as (b := b) hL hL2 hST.m.1 (Has S hST (xs (i + 1)) (xs (i + 2))) ih)
  | 25, _ =>
    refine Ev_tableIn (off := 1047) (tg := 1080) 25 dL_law_33 (by decide) (by decide) rfl (by decide) ?_
    exact Ev_bud (by omega) (lc_trace (b := b) hL hL2 hST.m.1 (Htrace S hST ) ih)
  | 26, _ =>
    refine Ev_tableIn (off := 1060) (tg := 1093) 26 dL_law_33 (by decide) (by decide) rfl (by decide) ?_
    exact Ev_bud (by omega) (lc_fault (b := b) hL hL2 hST.m.1 (Hfault S hST ) ih)
  | 27, _ =>
    refine Ev_tableIn (off := 1073) (tg := 1106) 27 dL_law_33 (by decide) (by decide) rfl (by decide) ?_
    exact Ev_bud (by omega) (lc_many (b := b) hL hL2 hST.m.1 (Hmany S hST (xs (i + 1))) ih)
  | 28, _ =>
    refine Ev_tableOut (tg := 1129) dL_law_33 (by decide) (by decide) ?_
    exact Ev_bud (by omega) (ih S hST)
  | 29, _ =>
    refine Ev_tableOut (tg := 1129) dL_law_33 (by decide) (by decide) ?_
    exact Ev_bud (by omega) (ih S hST)
  | 30, _ =>
    refine Ev_tableOut (tg := 1129) dL_law_33 (by decide) (by decide) ?_
    exact Ev_bud (by omega) (ih S hST)
  | 31, _ =>
    refine Ev_tableOut (tg := 1129) dL_law_33 (by decide) (by decide) ?_
    exact Ev_bud (by omega) (ih S hST)
  | n + 32, h => omega

set_option maxHeartbeats 4000000 in
theorem law_loop {d L : Nat} {xs : Nat → Int32} (H : ALLP) (hL2 : L ≤ 384) : ∀ (t i : Nat) (S : aS), ST S → i ≤ L → L < i + 6 * t + 6 → LawAt L xs d (10 * t) 18 i [] S (fun v _ => v = some (.int 1)) := by
  intro t
  induction t with
  | zero =>
    intro i S hST hi hlt
    refine Ev_iload_n dL_law_18 rfl ?_
    refine Ev_aload_nX dL_law_19 rfl ?_
    refine Ev_slen rfl dL_law_20 ?_
    refine Ev_bipush (v := 6) dL_law_21 (by decide) ?_
    refine Ev_isub dL_law_23 ?_
    have e : (Int32.ofNat L - 6).toInt = (L : Int) - 6 := xsub (nIt (n := L) (by omega)) rfl (by omega)
    refine Ev_icmp_gt dL_law_24 (fun _ => ?_) (fun c => absurd (by rw [xlt, e, nIt (by omega)]; omega) c)
    refine Ev_iconst (v := 1) dL_law_1135 (by decide) ?_
    exact Ev_iret dL_law_1136 rfl (by decide) rfl
  | succ t ih =>
    intro i S hST hi hlt
    refine Ev_iload_n dL_law_18 rfl ?_
    refine Ev_aload_nX dL_law_19 rfl ?_
    refine Ev_slen rfl dL_law_20 ?_
    refine Ev_bipush (v := 6) dL_law_21 (by decide) ?_
    refine Ev_isub dL_law_23 ?_
    have e : (Int32.ofNat L - 6).toInt = (L : Int) - 6 := xsub (nIt (n := L) (by omega)) rfl (by omega)
    refine Ev_icmp_gt dL_law_24 (fun _ => ?_) (fun c => ?_)
    · refine Ev_iconst (v := 1) dL_law_1135 (by decide) ?_
      exact Ev_iret dL_law_1136 rfl (by decide) rfl
    · rw [xlt, e, nIt (by omega)] at c
      rw [show 10 * (t + 1) = 10 + 10 * t by omega]
      refine law_body H (by omega) hL2 hST (fun S2 h2 => ?_)
      refine Ev_iinc (v := nI (i + 6)) dL_law_1129 rfl (nI_add i 6) rfl ?_
      refine Ev_goto dL_law_1132 ?_
      exact ih (i + 6) S2 h2 (by omega) (by omega)

set_option maxHeartbeats 4000000 in
set_option maxRecDepth 100000 in
theorem law_start {d L : Nat} {xs : Nat → Int32} (H : ALLP) (hL2 : L ≤ 384) : Ev (XL L xs) mL_law (d + 20) (10 * 64 + 56) 0 [some (.retAddr 0), none, none, none] [] [] (fun v _ => v = some (.int 1)) := by
  refine Ev_new (b := 10 * 64 + 55) dL_law_0 nr_L_7 ?_
  refine Ev_ref (T := []) (j := 0) rfl ?_
  refine Ev_dup dL_law_3 rfl ?_
  refine Ev_callI (bc := 30) (b := 10 * 64 + 25) dL_law_4 ci_L_9 rfl (Nat.le_of_ble_eq_true rfl) (by omega) ?_
  refine c_X11_init (d := d + 15) rfl rfl (fun S1 hl g0 g1 g2 g3 g4 g5 g6 g7 g8 g9 g10 g11 g12 g13 g14 g15 g16 g17 g18 g19 g20 g21 g22 g23 g24 g25 g26 g27 g28 g29 g30 => ?_)
  refine Ev_astore_n dL_law_7 rfl ?_
  refine Ev_new (b := 10 * 64 + 24) dL_law_8 nr_L_10 ?_
  refine Ev_ref (T := S1) (j := 31) hl ?_
  refine Ev_dup dL_law_11 rfl ?_
  refine Ev_callI (bc := 24) (b := 10 * 64) dL_law_12 ci_L_12 rfl (Nat.le_of_ble_eq_true rfl) (by omega) ?_
  refine c_X12_init (d := d + 18) (gl2 hl) (ln1 hl) (fun S2 hl2 fr m31 m32 m33 m34 m35 m36 m37 m38 m39 m40 m41 m42 m43 m44 m45 m46 m47 m48 m49 m50 m51 m53 m54 m55 m52 => ?_)
  refine Ev_astore_n dL_law_15 rfl ?_
  refine Ev_iconst (v := 0) dL_law_16 (by decide) ?_
  refine Ev_istore_n dL_law_17 rfl ?_
  have q : ∀ a c, a < 31 → S1[a]? = some c → S2[a]? = some c := fun a c ha h => (fr a ha).trans (ga h)
  refine law_loop H hL2 64 0 S2 ?_ (by omega) (by omega)
  refine ⟨0, 0, 0, 0, -9, 0, 0, 0, 0, 0, fun _ _ => 0, fun _ => 0, fun _ => -1, fun _ => 0, fun _ _ => 0, fun _ => 0, fun _ => false, ⟨⟨by decide, by decide, fun j hj => by omega⟩, by decide, by decide, by decide, by decide, by decide, fun h => absurd rfl h, fun x hx => by omega, by decide⟩, ⟨q 0 _ (by decide) g0, ?_, ?_, q 10 _ (by decide) g10, ⟨_, q 11 _ (by decide) g11, fun j hj => by omega⟩, ⟨_, _, q 12 _ (by decide) g12, q 13 _ (by decide) g13, fun x hx => by omega⟩, fun j hj => by omega, ?_, q 30 _ (by decide) g30⟩, ⟨⟨0, 0, 0, 0, 0, 0, 0, m31⟩, ?_, ⟨_, _, m48, m49, fun x hx => by omega⟩, ?_, ?_⟩⟩
  · obtain ⟨fa, h1, h2⟩ := g1
    exact ⟨fa, q 1 _ (by decide) h1, h2⟩
  · intro k hk
    refine ⟨(by show (-1 : Int) ≤ -1; decide), (by show (-1 : Int) ≤ 60; decide), (by show 0 ≤ 2; decide), -1, 0, fun _ => 0, ?_, ?_, fun _ => rfl, fun h => absurd (show (0 : Int) ≤ -1 from h) (by decide), fun i hi => absurd (show (i : Int) < -1 from hi) (by omega)⟩
    · match k, hk with
      | 0, _ => exact q 2 _ (by decide) g2
      | 1, _ => exact q 4 _ (by decide) g4
      | 2, _ => exact q 6 _ (by decide) g6
      | 3, _ => exact q 8 _ (by decide) g8
      | n + 4, h => omega
    · match k, hk with
      | 0, _ => exact q 3 _ (by decide) g3
      | 1, _ => exact q 5 _ (by decide) g5
      | 2, _ => exact q 7 _ (by decide) g7
      | 3, _ => exact q 9 _ (by decide) g9
      | n + 4, h => omega
  · obtain ⟨fa, h1, h2⟩ := g16
    refine ⟨fun k hk => ⟨0, 0, 0, 0, 0, 0, ?_⟩, ⟨0, 0, 0, 0, 0, 0, 0, 0, 0, .null, q 15 _ (by decide) g15⟩, ⟨fa, q 16 _ (by decide) h1, h2⟩, ⟨_, q 23 _ (by decide) g23⟩, ⟨_, q 24 _ (by decide) g24⟩, q 25 _ (by decide) g25, ⟨_, q 26 _ (by decide) g26⟩, q 27 _ (by decide) g27, ⟨_, q 28 _ (by decide) g28⟩, ⟨_, q 29 _ (by decide) g29⟩⟩
    match k, hk with
    | 0, _ => exact q 14 _ (by decide) g14
    | 1, _ => exact q 17 _ (by decide) g17
    | 2, _ => exact q 18 _ (by decide) g18
    | 3, _ => exact q 19 _ (by decide) g19
    | 4, _ => exact q 20 _ (by decide) g20
    | 5, _ => exact q 21 _ (by decide) g21
    | 6, _ => exact q 22 _ (by decide) g22
    | n + 7, h => omega
  · intro f hf
    refine ⟨fun _ => 0, ?_, fun j hj => by omega⟩
    match f, hf with
    | 0, _ => exact m32
    | 1, _ => exact m33
    | 2, _ => exact m34
    | 3, _ => exact m35
    | 4, _ => exact m36
    | 5, _ => exact m37
    | n + 6, h => omega
  · obtain ⟨fs, h1, h2⟩ := m52
    exact ⟨fs, _, _, h1, m53, m54, fun k hk => ⟨by rw [h2 k hk]; rfl, (by show (-1 : Int) ≤ -1; decide), (by show (-1 : Int) ≤ 60; decide), (by show 0 ≤ 2; decide), fun h => absurd (show (0 : Int) ≤ -1 from h) (by decide), fun i hi => absurd (show (i : Int) < -1 from hi) (by omega)⟩⟩
  · refine ⟨fun k hk => ⟨fun _ => 0, ?_⟩, ⟨_, m44⟩, ⟨_, m45⟩, ⟨_, m46⟩, ⟨_, m47⟩, ⟨_, m50⟩, ⟨_, m51⟩, ⟨_, m55⟩⟩
    match k, hk with
    | 0, _ => exact m38
    | 1, _ => exact m39
    | 2, _ => exact m40
    | 3, _ => exact m41
    | 4, _ => exact m42
    | 5, _ => exact m43
    | n + 6, h => omega

