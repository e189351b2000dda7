/-- a call of the component and the same call of the reference: both answer alike, and the state is common again -/
def PrI (mc mr : MI) (bc : Nat) (av : List Value) (S : aS) : Prop := ∀ d : Nat, Mth mc (d + 19) bc (.ref 0 :: av) S (fun v S1 => ∃ r : Int32, v = some (.int r) ∧ (∃ fs, S1[31]? = some (.inr (12, fs))) ∧ Mth mr (d + 19) 0 (.ref 31 :: av) S1 (fun v2 S2 => v2 = some (.int r) ∧ ST S2))
def PrL (mc mr : MI) (bc : Nat) (av : List Value) (S : aS) : Prop := ∀ d : Nat, Mth mc (d + 19) bc (.ref 0 :: av) S (fun v S1 => ∃ r : Int64, v = some (.long r) ∧ (∃ fs, S1[31]? = some (.inr (12, fs))) ∧ Mth mr (d + 19) 0 (.ref 31 :: av) S1 (fun v2 S2 => v2 = some (.long r) ∧ ST S2))
theorem Ev_sldN {X : Option (Nat × (Nat → Int32))} {mi : MI} {d b pc pc2 : Nat} {la : aL} {st : List Value} {S : aS} {Q : Option Value → aS → Prop} {n q j : Nat} {xs : Nat → Int32} (hx : X = some (n, xs)) (hd : nx mi.2.1 pc .iaload 1 pc2) (hj : j < n) (hn : n < 2147483648) (k : Ev X mi d b pc2 la (.int (xs j) :: st) S Q) : Ev X mi d b pc la (.int (nI j) :: .retAddr q :: st) S Q := by
  refine Ev_sld hx hd (vinN hj hn) ?_
  rw [ncl (by omega)]
  exact k
theorem ST.m {S : aS} (h : ST S) : (∃ lf, S[0]? = some (co lf)) ∧ ∃ fs, S[31]? = some (.inr (12, fs)) := by
  obtain ⟨flt, tr, du, lw, fC, fR, pl, n, q, cs, G, ad, z, la, ce, ro, rb, h1, h2, h3⟩ := h
  obtain ⟨⟨ra, rp, rs, ea, dp, bm, bi, h4⟩, -⟩ := h3
  exact ⟨⟨flt, h2.1⟩, ⟨_, h4⟩⟩

set_option maxHeartbeats 4000000 in
set_option maxRecDepth 100000 in
theorem lc_net {d b i L : Nat} {xs : Nat → Int32} {S : aS} {Q : Option Value → aS → Prop} (hL : i + 6 ≤ L) (hL2 : L ≤ 384) (hO : ∃ lf, S[0]? = some (co lf)) (hP : PrI mX11_net mX12_net 10 [.int (xs (i + 1)), .int (xs (i + 2)), .int (xs (i + 3)), .int (xs (i + 4))] S) (ih : ∀ S2, ST S2 → LawAt L xs d b 1129 i [] S2 Q) : LawAt L xs d (10 + b) 160 i [] S Q := by
  obtain ⟨lf, hO⟩ := hO
  refine Ev_aload_n dL_law_160 rfl ?_
  refine Ev_aload_nX dL_law_161 rfl ?_
  refine Ev_iload_n dL_law_162 rfl ?_
  refine Ev_iconst (v := 1) dL_law_163 (by decide) ?_
  refine Ev_iadd dL_law_164 ?_
  refine Ev_topi (y := nI (i + 1)) (nI_add _ _) ?_
  refine Ev_sldN (j := i + 1) rfl dL_law_165 (by omega) (by omega) ?_
  refine Ev_aload_nX dL_law_166 rfl ?_
  refine Ev_iload_n dL_law_167 rfl ?_
  refine Ev_iconst (v := 2) dL_law_168 (by decide) ?_
  refine Ev_iadd dL_law_169 ?_
  refine Ev_topi (y := nI (i + 2)) (nI_add _ _) ?_
  refine Ev_sldN (j := i + 2) rfl dL_law_170 (by omega) (by omega) ?_
  refine Ev_aload_nX dL_law_171 rfl ?_
  refine Ev_iload_n dL_law_172 rfl ?_
  refine Ev_iconst (v := 3) dL_law_173 (by decide) ?_
  refine Ev_iadd dL_law_174 ?_
  refine Ev_topi (y := nI (i + 3)) (nI_add _ _) ?_
  refine Ev_sldN (j := i + 3) rfl dL_law_175 (by omega) (by omega) ?_
  refine Ev_aload_nX dL_law_176 rfl ?_
  refine Ev_iload_n dL_law_177 rfl ?_
  refine Ev_iconst (v := 4) dL_law_178 (by decide) ?_
  refine Ev_iadd dL_law_179 ?_
  refine Ev_topi (y := nI (i + 4)) (nI_add _ _) ?_
  refine Ev_sldN (j := i + 4) rfl dL_law_180 (by omega) (by omega) ?_
  refine Ev_callV (bc := 10) (b := b) dL_law_181 cv_L_13 rfl hO (Nat.le_of_ble_eq_true rfl) (by omega) ?_
  refine Mth.mono ?_ (hP d)
  rintro v S1 ⟨r, rfl, ⟨fs, hm⟩, h2⟩
  refine Ev_aload_n dL_law_184 rfl ?_
  refine Ev_aload_nX dL_law_185 rfl ?_
  refine Ev_iload_n dL_law_186 rfl ?_
  refine Ev_iconst (v := 1) dL_law_187 (by decide) ?_
  refine Ev_iadd dL_law_188 ?_
  refine Ev_topi (y := nI (i + 1)) (nI_add _ _) ?_
  refine Ev_sldN (j := i + 1) rfl dL_law_189 (by omega) (by omega) ?_
  refine Ev_aload_nX dL_law_190 rfl ?_
  refine Ev_iload_n dL_law_191 rfl ?_
  refine Ev_iconst (v := 2) dL_law_192 (by decide) ?_
  refine Ev_iadd dL_law_193 ?_
  refine Ev_topi (y := nI (i + 2)) (nI_add _ _) ?_
  refine Ev_sldN (j := i + 2) rfl dL_law_194 (by omega) (by omega) ?_
  refine Ev_aload_nX dL_law_195 rfl ?_
  refine Ev_iload_n dL_law_196 rfl ?_
  refine Ev_iconst (v := 3) dL_law_197 (by decide) ?_
  refine Ev_iadd dL_law_198 ?_
  refine Ev_topi (y := nI (i + 3)) (nI_add _ _) ?_
  refine Ev_sldN (j := i + 3) rfl dL_law_199 (by omega) (by omega) ?_
  refine Ev_aload_nX dL_law_200 rfl ?_
  refine Ev_iload_n dL_law_201 rfl ?_
  refine Ev_iconst (v := 4) dL_law_202 (by decide) ?_
  refine Ev_iadd dL_law_203 ?_
  refine Ev_topi (y := nI (i + 4)) (nI_add _ _) ?_
  refine Ev_sldN (j := i + 4) rfl dL_law_204 (by omega) (by omega) ?_
  refine Ev_callV (bc := 0) (b := b) dL_law_205 cv_L_17 rfl hm (Nat.le_of_ble_eq_true rfl) (by omega) ?_
  refine Mth.mono ?_ h2
  rintro v2 S2 ⟨rfl, hST⟩
  refine Ev_icmp_eq dL_law_208 (fun _ => ?_) (fun c => absurd rfl c)
  exact ih S2 hST

set_option maxHeartbeats 4000000 in
set_option maxRecDepth 100000 in
theorem lc_ofStretch {d b i L : Nat} {xs : Nat → Int32} {S : aS} {Q : Option Value → aS → Prop} (hL : i + 6 ≤ L) (hL2 : L ≤ 384) (hO : ∃ lf, S[0]? = some (co lf)) (hP : PrI mX11_ofStretch mX12_ofStretch 0 [.int (xs (i + 1)), .int (xs (i + 2))] S) (ih : ∀ S2, ST S2 → LawAt L xs d b 1129 i [] S2 Q) : LawAt L xs d b 213 i [] S Q := by
  obtain ⟨lf, hO⟩ := hO
  refine Ev_aload_n dL_law_213 rfl ?_
  refine Ev_aload_nX dL_law_214 rfl ?_
  refine Ev_iload_n dL_law_215 rfl ?_
  refine Ev_iconst (v := 1) dL_law_216 (by decide) ?_
  refine Ev_iadd dL_law_217 ?_
  refine Ev_topi (y := nI (i + 1)) (nI_add _ _) ?_
  refine Ev_sldN (j := i + 1) rfl dL_law_218 (by omega) (by omega) ?_
  refine Ev_aload_nX dL_law_219 rfl ?_
  refine Ev_iload_n dL_law_220 rfl ?_
  refine Ev_iconst (v := 2) dL_law_221 (by decide) ?_
  refine Ev_iadd dL_law_222 ?_
  refine Ev_topi (y := nI (i + 2)) (nI_add _ _) ?_
  refine Ev_sldN (j := i + 2) rfl dL_law_223 (by omega) (by omega) ?_
  refine Ev_callV (bc := 0) (b := b) dL_law_224 cv_L_18 rfl hO (Nat.le_of_ble_eq_true rfl) (by omega) ?_
  refine Mth.mono ?_ (hP d)
  rintro v S1 ⟨r, rfl, ⟨fs, hm⟩, h2⟩
  refine Ev_aload_n dL_law_227 rfl ?_
  refine Ev_aload_nX dL_law_228 rfl ?_
  refine Ev_iload_n dL_law_229 rfl ?_
  refine Ev_iconst (v := 1) dL_law_230 (by decide) ?_
  refine Ev_iadd dL_law_231 ?_
  refine Ev_topi (y := nI (i + 1)) (nI_add _ _) ?_
  refine Ev_sldN (j := i + 1) rfl dL_law_232 (by omega) (by omega) ?_
  refine Ev_aload_nX dL_law_233 rfl ?_
  refine Ev_iload_n dL_law_234 rfl ?_
  refine Ev_iconst (v := 2) dL_law_235 (by decide) ?_
  refine Ev_iadd dL_law_236 ?_
  refine Ev_topi (y := nI (i + 2)) (nI_add _ _) ?_
  refine Ev_sldN (j := i + 2) rfl dL_law_237 (by omega) (by omega) ?_
  refine Ev_callV (bc := 0) (b := b) dL_law_238 cv_L_22 rfl hm (Nat.le_of_ble_eq_true rfl) (by omega) ?_
  refine Mth.mono ?_ h2
  rintro v2 S2 ⟨rfl, hST⟩
  refine Ev_icmp_eq dL_law_241 (fun _ => ?_) (fun c => absurd rfl c)
  exact ih S2 hST

set_option maxHeartbeats 4000000 in
set_option maxRecDepth 100000 in
theorem lc_due {d b i L : Nat} {xs : Nat → Int32} {S : aS} {Q : Option Value → aS → Prop} (hL : i + 6 ≤ L) (hL2 : L ≤ 384) (hO : ∃ lf, S[0]? = some (co lf)) (hP : PrI mX11_due mX12_due 0 [.int (xs (i + 1))] S) (ih : ∀ S2, ST S2 → LawAt L xs d b 1129 i [] S2 Q) : LawAt L xs d b 246 i [] S Q := by
  obtain ⟨lf, hO⟩ := hO
  refine Ev_aload_n dL_law_246 rfl ?_
  refine Ev_aload_nX dL_law_247 rfl ?_
  refine Ev_iload_n dL_law_248 rfl ?_
  refine Ev_iconst (v := 1) dL_law_249 (by decide) ?_
  refine Ev_iadd dL_law_250 ?_
  refine Ev_topi (y := nI (i + 1)) (nI_add _ _) ?_
  refine Ev_sldN (j := i + 1) rfl dL_law_251 (by omega) (by omega) ?_
  refine Ev_callV (bc := 0) (b := b) dL_law_252 cv_L_23 rfl hO (Nat.le_of_ble_eq_true rfl) (by omega) ?_
  refine Mth.mono ?_ (hP d)
  rintro v S1 ⟨r, rfl, ⟨fs, hm⟩, h2⟩
  refine Ev_aload_n dL_law_255 rfl ?_
  refine Ev_aload_nX dL_law_256 rfl ?_
  refine Ev_iload_n dL_law_257 rfl ?_
  refine Ev_iconst (v := 1) dL_law_258 (by decide) ?_
  refine Ev_iadd dL_law_259 ?_
  refine Ev_topi (y := nI (i + 1)) (nI_add _ _) ?_
  refine Ev_sldN (j := i + 1) rfl dL_law_260 (by omega) (by omega) ?_
  refine Ev_callV (bc := 0) (b := b) dL_law_261 cv_L_27 rfl hm (Nat.le_of_ble_eq_true rfl) (by omega) ?_
  refine Mth.mono ?_ h2
  rintro v2 S2 ⟨rfl, hST⟩
  refine Ev_icmp_eq dL_law_264 (fun _ => ?_) (fun c => absurd rfl c)
  exact ih S2 hST

set_option maxHeartbeats 4000000 in
set_option maxRecDepth 100000 in
theorem lc_law {d b i L : Nat} {xs : Nat → Int32} {S : aS} {Q : Option Value → aS → Prop} (hL : i + 6 ≤ L) (hL2 : L ≤ 384) (hO : ∃ lf, S[0]? = some (co lf)) (hP : PrI mX11_law mX12_law 0 [.int (xs (i + 1))] S) (ih : ∀ S2, ST S2 → LawAt L xs d b 1129 i [] S2 Q) : LawAt L xs d b 269 i [] S Q := by
  obtain ⟨lf, hO⟩ := hO
  refine Ev_aload_n dL_law_269 rfl ?_
  refine Ev_aload_nX dL_law_270 rfl ?_
  refine Ev_iload_n dL_law_271 rfl ?_
  refine Ev_iconst (v := 1) dL_law_272 (by decide) ?_
  refine Ev_iadd dL_law_273 ?_
  refine Ev_topi (y := nI (i + 1)) (nI_add _ _) ?_
  refine Ev_sldN (j := i + 1) rfl dL_law_274 (by omega) (by omega) ?_
  refine Ev_callV (bc := 0) (b := b) dL_law_275 cv_L_28 rfl hO (Nat.le_of_ble_eq_true rfl) (by omega) ?_
  refine Mth.mono ?_ (hP d)
  rintro v S1 ⟨r, rfl, ⟨fs, hm⟩, h2⟩
  refine Ev_aload_n dL_law_278 rfl ?_
  refine Ev_aload_nX dL_law_279 rfl ?_
  refine Ev_iload_n dL_law_280 rfl ?_
  refine Ev_iconst (v := 1) dL_law_281 (by decide) ?_
  refine Ev_iadd dL_law_282 ?_
  refine Ev_topi (y := nI (i + 1)) (nI_add _ _) ?_
  refine Ev_sldN (j := i + 1) rfl dL_law_283 (by omega) (by omega) ?_
  refine Ev_callV (bc := 0) (b := b) dL_law_284 cv_L_31 rfl hm (Nat.le_of_ble_eq_true rfl) (by omega) ?_
  refine Mth.mono ?_ h2
  rintro v2 S2 ⟨rfl, hST⟩
  refine Ev_icmp_eq dL_law_287 (fun _ => ?_) (fun c => absurd rfl c)
  exact ih S2 hST

set_option maxHeartbeats 4000000 in
set_option maxRecDepth 100000 in
theorem lc_friend {d b i L : Nat} {xs : Nat → Int32} {S : aS} {Q : Option Value → aS → Prop} (hL : i + 6 ≤ L) (hL2 : L ≤ 384) (hO : ∃ lf, S[0]? = some (co lf)) (hP : PrI mX11_friend mX12_friend 0 [.int (xs (i + 1))] S) (ih : ∀ S2, ST S2 → LawAt L xs d b 1129 i [] S2 Q) : LawAt L xs d b 292 i [] S Q := by
  obtain ⟨lf, hO⟩ := hO
  refine Ev_aload_n dL_law_292 rfl ?_
  refine Ev_aload_nX dL_law_293 rfl ?_
  refine Ev_iload_n dL_law_294 rfl ?_
  refine Ev_iconst (v := 1) dL_law_295 (by decide) ?_
  refine Ev_iadd dL_law_296 ?_
  refine Ev_topi (y := nI (i + 1)) (nI_add _ _) ?_
  refine Ev_sldN (j := i + 1) rfl dL_law_297 (by omega) (by omega) ?_
  refine Ev_callV (bc := 0) (b := b) dL_law_298 cv_L_32 rfl hO (Nat.le_of_ble_eq_true rfl) (by omega) ?_
  refine Mth.mono ?_ (hP d)
  rintro v S1 ⟨r, rfl, ⟨fs, hm⟩, h2⟩
  refine Ev_aload_n dL_law_301 rfl ?_
  refine Ev_aload_nX dL_law_302 rfl ?_
  refine Ev_iload_n dL_law_303 rfl ?_
  refine Ev_iconst (v := 1) dL_law_304 (by decide) ?_
  refine Ev_iadd dL_law_305 ?_
  refine Ev_topi (y := nI (i + 1)) (nI_add _ _) ?_
  refine Ev_sldN (j := i + 1) rfl dL_law_306 (by omega) (by omega) ?_
  refine Ev_callV (bc := 0) (b := b) dL_law_307 cv_L_35 rfl hm (Nat.le_of_ble_eq_true rfl) (by omega) ?_
  refine Mth.mono ?_ h2
  rintro v2 S2 ⟨rfl, hST⟩
  refine Ev_icmp_eq dL_law_310 (fun _ => ?_) (fun c => absurd rfl c)
  exact ih S2 hST

set_option maxHeartbeats 4000000 in
set_option maxRecDepth 100000 in
theorem lc_close0 {d b i L : Nat} {xs : Nat → Int32} {S : aS} {Q : Option Value → aS → Prop} (hL : i + 6 ≤ L) (hL2 : L ≤ 384) (hO : ∃ lf, S[0]? = some (co lf)) (hb : xs (i + 2) = 0) (hP : PrI mX11_close mX12_close 0 [.int (xs (i + 1)), .int 0] S) (ih : ∀ S2, ST S2 → LawAt L xs d b 1129 i [] S2 Q) : LawAt L xs d b 315 i [] S Q := by
  obtain ⟨lf, hO⟩ := hO
  refine Ev_aload_n dL_law_315 rfl ?_
  refine Ev_aload_nX dL_law_316 rfl ?_
  refine Ev_iload_n dL_law_317 rfl ?_
  refine Ev_iconst (v := 1) dL_law_318 (by decide) ?_
  refine Ev_iadd dL_law_319 ?_
  refine Ev_topi (y := nI (i + 1)) (nI_add _ _) ?_
  refine Ev_sldN (j := i + 1) rfl dL_law_320 (by omega) (by omega) ?_
  refine Ev_aload_nX dL_law_321 rfl ?_
  refine Ev_iload_n dL_law_322 rfl ?_
  refine Ev_iconst (v := 2) dL_law_323 (by decide) ?_
  refine Ev_iadd dL_law_324 ?_
  refine Ev_topi (y := nI (i + 2)) (nI_add _ _) ?_
  refine Ev_sldN (j := i + 2) rfl dL_law_325 (by omega) (by omega) ?_
  refine Ev_if_eq dL_law_326 (fun _ => ?_) (fun c => absurd hb c)
  refine Ev_iconst (v := 0) dL_law_333 (by decide) ?_
  refine Ev_callV (bc := 0) (b := b) dL_law_334 cv_L_36 rfl hO (Nat.le_of_ble_eq_true rfl) (by omega) ?_
  refine Mth.mono ?_ (hP d)
  rintro v S1 ⟨r, rfl, ⟨fs, hm⟩, h2⟩
  refine Ev_aload_n dL_law_337 rfl ?_
  refine Ev_aload_nX dL_law_338 rfl ?_
  refine Ev_iload_n dL_law_339 rfl ?_
  refine Ev_iconst (v := 1) dL_law_340 (by decide) ?_
  refine Ev_iadd dL_law_341 ?_
  refine Ev_topi (y := nI (i + 1)) (nI_add _ _) ?_
  refine Ev_sldN (j := i + 1) rfl dL_law_342 (by omega) (by omega) ?_
  refine Ev_aload_nX dL_law_343 rfl ?_
  refine Ev_iload_n dL_law_344 rfl ?_
  refine Ev_iconst (v := 2) dL_law_345 (by decide) ?_
  refine Ev_iadd dL_law_346 ?_
  refine Ev_topi (y := nI (i + 2)) (nI_add _ _) ?_
  refine Ev_sldN (j := i + 2) rfl dL_law_347 (by omega) (by omega) ?_
  refine Ev_if_eq dL_law_348 (fun _ => ?_) (fun c => absurd hb c)
  refine Ev_iconst (v := 0) dL_law_355 (by decide) ?_
  refine Ev_callV (bc := 0) (b := b) dL_law_356 cv_L_40 rfl hm (Nat.le_of_ble_eq_true rfl) (by omega) ?_
  refine Mth.mono ?_ h2
  rintro v2 S2 ⟨rfl, hST⟩
  refine Ev_icmp_eq dL_law_359 (fun _ => ?_) (fun c => absurd rfl c)
  exact ih S2 hST

set_option maxHeartbeats 4000000 in
set_option maxRecDepth 100000 in
theorem lc_close1 {d b i L : Nat} {xs : Nat → Int32} {S : aS} {Q : Option Value → aS → Prop} (hL : i + 6 ≤ L) (hL2 : L ≤ 384) (hO : ∃ lf, S[0]? = some (co lf)) (hb : ¬ xs (i + 2) = 0) (hP : PrI mX11_close mX12_close 0 [.int (xs (i + 1)), .int 1] S) (ih : ∀ S2, ST S2 → LawAt L xs d b 1129 i [] S2 Q) : LawAt L xs d b 315 i [] S Q := by
  obtain ⟨lf, hO⟩ := hO
  refine Ev_aload_n dL_law_315 rfl ?_
  refine Ev_aload_nX dL_law_316 rfl ?_
  refine Ev_iload_n dL_law_317 rfl ?_
  refine Ev_iconst (v := 1) dL_law_318 (by decide) ?_
  refine Ev_iadd dL_law_319 ?_
  refine Ev_topi (y := nI (i + 1)) (nI_add _ _) ?_
  refine Ev_sldN (j := i + 1) rfl dL_law_320 (by omega) (by omega) ?_
  refine Ev_aload_nX dL_law_321 rfl ?_
  refine Ev_iload_n dL_law_322 rfl ?_
  refine Ev_iconst (v := 2) dL_law_323 (by decide) ?_
  refine Ev_iadd dL_law_324 ?_
  refine Ev_topi (y := nI (i + 2)) (nI_add _ _) ?_
  refine Ev_sldN (j := i + 2) rfl dL_law_325 (by omega) (by omega) ?_
  refine Ev_if_eq dL_law_326 (fun c => absurd c hb) (fun _ => ?_)
  refine Ev_iconst (v := 1) dL_law_329 (by decide) ?_
  refine Ev_goto dL_law_330 ?_
  refine Ev_callV (bc := 0) (b := b) dL_law_334 cv_L_36 rfl hO (Nat.le_of_ble_eq_true rfl) (by omega) ?_
  refine Mth.mono ?_ (hP d)
  rintro v S1 ⟨r, rfl, ⟨fs, hm⟩, h2⟩
  refine Ev_aload_n dL_law_337 rfl ?_
  refine Ev_aload_nX dL_law_338 rfl ?_
  refine Ev_iload_n dL_law_339 rfl ?_
  refine Ev_iconst (v := 1) dL_law_340 (by decide) ?_
  refine Ev_iadd dL_law_341 ?_
  refine Ev_topi (y := nI (i + 1)) (nI_add _ _) ?_
  refine Ev_sldN (j := i + 1) rfl dL_law_342 (by omega) (by omega) ?_
  refine Ev_aload_nX dL_law_343 rfl ?_
  refine Ev_iload_n dL_law_344 rfl ?_
  refine Ev_iconst (v := 2) dL_law_345 (by decide) ?_
  refine Ev_iadd dL_law_346 ?_
  refine Ev_topi (y := nI (i + 2)) (nI_add _ _) ?_
  refine Ev_sldN (j := i + 2) rfl dL_law_347 (by omega) (by omega) ?_
  refine Ev_if_eq dL_law_348 (fun c => absurd c hb) (fun _ => ?_)
  refine Ev_iconst (v := 1) dL_law_351 (by decide) ?_
  refine Ev_goto dL_law_352 ?_
  refine Ev_callV (bc := 0) (b := b) dL_law_356 cv_L_40 rfl hm (Nat.le_of_ble_eq_true rfl) (by omega) ?_
  refine Mth.mono ?_ h2
  rintro v2 S2 ⟨rfl, hST⟩
  refine Ev_icmp_eq dL_law_359 (fun _ => ?_) (fun c => absurd rfl c)
  exact ih S2 hST

set_option maxHeartbeats 4000000 in
set_option maxRecDepth 100000 in
theorem lc_walk {d b i L : Nat} {xs : Nat → Int32} {S : aS} {Q : Option Value → aS → Prop} (hL : i + 6 ≤ L) (hL2 : L ≤ 384) (hO : ∃ lf, S[0]? = some (co lf)) (hP : PrI mX11_walk mX12_walk 0 [.int (xs (i + 1)), .int (xs (i + 2)), .int (xs (i + 3)), .int (xs (i + 4)), .int (xs (i + 5))] S) (ih : ∀ S2, ST S2 → LawAt L xs d b 1129 i [] S2 Q) : LawAt L xs d b 364 i [] S Q := by
  obtain ⟨lf, hO⟩ := hO
  refine Ev_aload_n dL_law_364 rfl ?_
  refine Ev_aload_nX dL_law_365 rfl ?_
  refine Ev_iload_n dL_law_366 rfl ?_
  refine Ev_iconst (v := 1) dL_law_367 (by decide) ?_
  refine Ev_iadd dL_law_368 ?_
  refine Ev_topi (y := nI (i + 1)) (nI_add _ _) ?_
  refine Ev_sldN (j := i + 1) rfl dL_law_369 (by omega) (by omega) ?_
  refine Ev_aload_nX dL_law_370 rfl ?_
  refine Ev_iload_n dL_law_371 rfl ?_
  refine Ev_iconst (v := 2) dL_law_372 (by decide) ?_
  refine Ev_iadd dL_law_373 ?_
  refine Ev_topi (y := nI (i + 2)) (nI_add _ _) ?_
  refine Ev_sldN (j := i + 2) rfl dL_law_374 (by omega) (by omega) ?_
  refine Ev_aload_nX dL_law_375 rfl ?_
  refine Ev_iload_n dL_law_376 rfl ?_
  refine Ev_iconst (v := 3) dL_law_377 (by decide) ?_
  refine Ev_iadd dL_law_378 ?_
  refine Ev_topi (y := nI (i + 3)) (nI_add _ _) ?_
  refine Ev_sldN (j := i + 3) rfl dL_law_379 (by omega) (by omega) ?_
  refine Ev_aload_nX dL_law_380 rfl ?_
  refine Ev_iload_n dL_law_381 rfl ?_
  refine Ev_iconst (v := 4) dL_law_382 (by decide) ?_
  refine Ev_iadd dL_law_383 ?_
  refine Ev_topi (y := nI (i + 4)) (nI_add _ _) ?_
  refine Ev_sldN (j := i + 4) rfl dL_law_384 (by omega) (by omega) ?_
  refine Ev_aload_nX dL_law_385 rfl ?_
  refine Ev_iload_n dL_law_386 rfl ?_
  refine Ev_iconst (v := 5) dL_law_387 (by decide) ?_
  refine Ev_iadd dL_law_388 ?_
  refine Ev_topi (y := nI (i + 5)) (nI_add _ _) ?_
  refine Ev_sldN (j := i + 5) rfl dL_law_389 (by omega) (by omega) ?_
  refine Ev_callV (bc := 0) (b := b) dL_law_390 cv_L_41 rfl hO (Nat.le_of_ble_eq_true rfl) (by omega) ?_
  refine Mth.mono ?_ (hP d)
  rintro v S1 ⟨r, rfl, ⟨fs, hm⟩, h2⟩
  refine Ev_aload_n dL_law_393 rfl ?_
  refine Ev_aload_nX dL_law_394 rfl ?_
  refine Ev_iload_n dL_law_395 rfl ?_
  refine Ev_iconst (v := 1) dL_law_396 (by decide) ?_
  refine Ev_iadd dL_law_397 ?_
  refine Ev_topi (y := nI (i + 1)) (nI_add _ _) ?_
  refine Ev_sldN (j := i + 1) rfl dL_law_398 (by omega) (by omega) ?_
  refine Ev_aload_nX dL_law_399 rfl ?_
  refine Ev_iload_n dL_law_400 rfl ?_
  refine Ev_iconst (v := 2) dL_law_401 (by decide) ?_
  refine Ev_iadd dL_law_402 ?_
  refine Ev_topi (y := nI (i + 2)) (nI_add _ _) ?_
  refine Ev_sldN (j := i + 2) rfl dL_law_403 (by omega) (by omega) ?_
  refine Ev_aload_nX dL_law_404 rfl ?_
  refine Ev_iload_n dL_law_405 rfl ?_
  refine Ev_iconst (v := 3) dL_law_406 (by decide) ?_
  refine Ev_iadd dL_law_407 ?_
  refine Ev_topi (y := nI (i + 3)) (nI_add _ _) ?_
  refine Ev_sldN (j := i + 3) rfl dL_law_408 (by omega) (by omega) ?_
  refine Ev_aload_nX dL_law_409 rfl ?_
  refine Ev_iload_n dL_law_410 rfl ?_
  refine Ev_iconst (v := 4) dL_law_411 (by decide) ?_
  refine Ev_iadd dL_law_412 ?_
  refine Ev_topi (y := nI (i + 4)) (nI_add _ _) ?_
  refine Ev_sldN (j := i + 4) rfl dL_law_413 (by omega) (by omega) ?_
  refine Ev_aload_nX dL_law_414 rfl ?_
  refine Ev_iload_n dL_law_415 rfl ?_
  refine Ev_iconst (v := 5) dL_law_416 (by decide) ?_
  refine Ev_iadd dL_law_417 ?_
  refine Ev_topi (y := nI (i + 5)) (nI_add _ _) ?_
  refine Ev_sldN (j := i + 5) rfl dL_law_418 (by omega) (by omega) ?_
  refine Ev_callV (bc := 0) (b := b) dL_law_419 cv_L_45 rfl hm (Nat.le_of_ble_eq_true rfl) (by omega) ?_
  refine Mth.mono ?_ h2
  rintro v2 S2 ⟨rfl, hST⟩
  refine Ev_icmp_eq dL_law_422 (fun _ => ?_) (fun c => absurd rfl c)
  exact ih S2 hST

set_option maxHeartbeats 4000000 in
set_option maxRecDepth 100000 in
theorem lc_safe {d b i L : Nat} {xs : Nat → Int32} {S : aS} {Q : Option Value → aS → Prop} (hL : i + 6 ≤ L) (hL2 : L ≤ 384) (hO : ∃ lf, S[0]? = some (co lf)) (hP : PrL mX11_safe mX12_safe 0 [.int (xs (i + 1)), .int (xs (i + 2)), .int (xs (i + 3)), .int (xs (i + 4)), .int (xs (i + 5))] S) (ih : ∀ S2, ST S2 → LawAt L xs d b 1129 i [] S2 Q) : LawAt L xs d b 427 i [] S Q := by
  obtain ⟨lf, hO⟩ := hO
  refine Ev_aload_n dL_law_427 rfl ?_
  refine Ev_aload_nX dL_law_428 rfl ?_
  refine Ev_iload_n dL_law_429 rfl ?_
  refine Ev_iconst (v := 1) dL_law_430 (by decide) ?_
  refine Ev_iadd dL_law_431 ?_
  refine Ev_topi (y := nI (i + 1)) (nI_add _ _) ?_
  refine Ev_sldN (j := i + 1) rfl dL_law_432 (by omega) (by omega) ?_
  refine Ev_aload_nX dL_law_433 rfl ?_
  refine Ev_iload_n dL_law_434 rfl ?_
  refine Ev_iconst (v := 2) dL_law_435 (by decide) ?_
  refine Ev_iadd dL_law_436 ?_
  refine Ev_topi (y := nI (i + 2)) (nI_add _ _) ?_
  refine Ev_sldN (j := i + 2) rfl dL_law_437 (by omega) (by omega) ?_
  refine Ev_aload_nX dL_law_438 rfl ?_
  refine Ev_iload_n dL_law_439 rfl ?_
  refine Ev_iconst (v := 3) dL_law_440 (by decide) ?_
  refine Ev_iadd dL_law_441 ?_
  refine Ev_topi (y := nI (i + 3)) (nI_add _ _) ?_
  refine Ev_sldN (j := i + 3) rfl dL_law_442 (by omega) (by omega) ?_
  refine Ev_aload_nX dL_law_443 rfl ?_
  refine Ev_iload_n dL_law_444 rfl ?_
  refine Ev_iconst (v := 4) dL_law_445 (by decide) ?_
  refine Ev_iadd dL_law_446 ?_
  refine Ev_topi (y := nI (i + 4)) (nI_add _ _) ?_
  refine Ev_sldN (j := i + 4) rfl dL_law_447 (by omega) (by omega) ?_
  refine Ev_aload_nX dL_law_448 rfl ?_
  refine Ev_iload_n dL_law_449 rfl ?_
  refine Ev_iconst (v := 5) dL_law_450 (by decide) ?_
  refine Ev_iadd dL_law_451 ?_
  refine Ev_topi (y := nI (i + 5)) (nI_add _ _) ?_
  refine Ev_sldN (j := i + 5) rfl dL_law_452 (by omega) (by omega) ?_
  refine Ev_callV (bc := 0) (b := b) dL_law_453 cv_L_46 rfl hO (Nat.le_of_ble_eq_true rfl) (by omega) ?_
  refine Mth.mono ?_ (hP d)
  rintro v S1 ⟨r, rfl, ⟨fs, hm⟩, h2⟩
  refine Ev_aload_n dL_law_456 rfl ?_
  refine Ev_aload_nX dL_law_457 rfl ?_
  refine Ev_iload_n dL_law_458 rfl ?_
  refine Ev_iconst (v := 1) dL_law_459 (by decide) ?_
  refine Ev_iadd dL_law_460 ?_
  refine Ev_topi (y := nI (i + 1)) (nI_add _ _) ?_
  refine Ev_sldN (j := i + 1) rfl dL_law_461 (by omega) (by omega) ?_
  refine Ev_aload_nX dL_law_462 rfl ?_
  refine Ev_iload_n dL_law_463 rfl ?_
  refine Ev_iconst (v := 2) dL_law_464 (by decide) ?_
  refine Ev_iadd dL_law_465 ?_
  refine Ev_topi (y := nI (i + 2)) (nI_add _ _) ?_
  refine Ev_sldN (j := i + 2) rfl dL_law_466 (by omega) (by omega) ?_
  refine Ev_aload_nX dL_law_467 rfl ?_
  refine Ev_iload_n dL_law_468 rfl ?_
  refine Ev_iconst (v := 3) dL_law_469 (by decide) ?_
  refine Ev_iadd dL_law_470 ?_
  refine Ev_topi (y := nI (i + 3)) (nI_add _ _) ?_
  refine Ev_sldN (j := i + 3) rfl dL_law_471 (by omega) (by omega) ?_
  refine Ev_aload_nX dL_law_472 rfl ?_
  refine Ev_iload_n dL_law_473 rfl ?_
  refine Ev_iconst (v := 4) dL_law_474 (by decide) ?_
  refine Ev_iadd dL_law_475 ?_
  refine Ev_topi (y := nI (i + 4)) (nI_add _ _) ?_
  refine Ev_sldN (j := i + 4) rfl dL_law_476 (by omega) (by omega) ?_
  refine Ev_aload_nX dL_law_477 rfl ?_
  refine Ev_iload_n dL_law_478 rfl ?_
  refine Ev_iconst (v := 5) dL_law_479 (by decide) ?_
  refine Ev_iadd dL_law_480 ?_
  refine Ev_topi (y := nI (i + 5)) (nI_add _ _) ?_
  refine Ev_sldN (j := i + 5) rfl dL_law_481 (by omega) (by omega) ?_
  refine Ev_callV (bc := 0) (b := b) dL_law_482 cv_L_50 rfl hm (Nat.le_of_ble_eq_true rfl) (by omega) ?_
  refine Mth.mono ?_ h2
  rintro v2 S2 ⟨rfl, hST⟩
  refine Ev_lcmp dL_law_485 ?_
  refine Ev_if_eq dL_law_486 (fun _ => ?_) (fun c => absurd (lg_eq.mpr rfl) c)
  exact ih S2 hST

set_option maxHeartbeats 4000000 in
set_option maxRecDepth 100000 in
theorem lc_quickest {d b i L : Nat} {xs : Nat → Int32} {S : aS} {Q : Option Value → aS → Prop} (hL : i + 6 ≤ L) (hL2 : L ≤ 384) (hO : ∃ lf, S[0]? = some (co lf)) (hP : PrI mX11_quickest mX12_quickest 0 [.int (xs (i + 1))] S) (ih : ∀ S2, ST S2 → LawAt L xs d b 1129 i [] S2 Q) : LawAt L xs d b 491 i [] S Q := by
  obtain ⟨lf, hO⟩ := hO
  refine Ev_aload_n dL_law_491 rfl ?_
  refine Ev_aload_nX dL_law_492 rfl ?_
  refine Ev_iload_n dL_law_493 rfl ?_
  refine Ev_iconst (v := 1) dL_law_494 (by decide) ?_
  refine Ev_iadd dL_law_495 ?_
  refine Ev_topi (y := nI (i + 1)) (nI_add _ _) ?_
  refine Ev_sldN (j := i + 1) rfl dL_law_496 (by omega) (by omega) ?_
  refine Ev_callV (bc := 0) (b := b) dL_law_497 cv_L_51 rfl hO (Nat.le_of_ble_eq_true rfl) (by omega) ?_
  refine Mth.mono ?_ (hP d)
  rintro v S1 ⟨r, rfl, ⟨fs, hm⟩, h2⟩
  refine Ev_aload_n dL_law_500 rfl ?_
  refine Ev_aload_nX dL_law_501 rfl ?_
  refine Ev_iload_n dL_law_502 rfl ?_
  refine Ev_iconst (v := 1) dL_law_503 (by decide) ?_
  refine Ev_iadd dL_law_504 ?_
  refine Ev_topi (y := nI (i + 1)) (nI_add _ _) ?_
  refine Ev_sldN (j := i + 1) rfl dL_law_505 (by omega) (by omega) ?_
  refine Ev_callV (bc := 0) (b := b) dL_law_506 cv_L_54 rfl hm (Nat.le_of_ble_eq_true rfl) (by omega) ?_
  refine Mth.mono ?_ h2
  rintro v2 S2 ⟨rfl, hST⟩
  refine Ev_icmp_eq dL_law_509 (fun _ => ?_) (fun c => absurd rfl c)
  exact ih S2 hST

set_option maxHeartbeats 4000000 in
set_option maxRecDepth 100000 in
theorem lc_via {d b i L : Nat} {xs : Nat → Int32} {S : aS} {Q : Option Value → aS → Prop} (hL : i + 6 ≤ L) (hL2 : L ≤ 384) (hO : ∃ lf, S[0]? = some (co lf)) (hP : PrI mX11_via mX12_via 0 [.int (xs (i + 1))] S) (ih : ∀ S2, ST S2 → LawAt L xs d b 1129 i [] S2 Q) : LawAt L xs d b 514 i [] S Q := by
  obtain ⟨lf, hO⟩ := hO
  refine Ev_aload_n dL_law_514 rfl ?_
  refine Ev_aload_nX dL_law_515 rfl ?_
  refine Ev_iload_n dL_law_516 rfl ?_
  refine Ev_iconst (v := 1) dL_law_517 (by decide) ?_
  refine Ev_iadd dL_law_518 ?_
  refine Ev_topi (y := nI (i + 1)) (nI_add _ _) ?_
  refine Ev_sldN (j := i + 1) rfl dL_law_519 (by omega) (by omega) ?_
  refine Ev_callV (bc := 0) (b := b) dL_law_520 cv_L_55 rfl hO (Nat.le_of_ble_eq_true rfl) (by omega) ?_
  refine Mth.mono ?_ (hP d)
  rintro v S1 ⟨r, rfl, ⟨fs, hm⟩, h2⟩
  refine Ev_aload_n dL_law_523 rfl ?_
  refine Ev_aload_nX dL_law_524 rfl ?_
  refine Ev_iload_n dL_law_525 rfl ?_
  refine Ev_iconst (v := 1) dL_law_526 (by decide) ?_
  refine Ev_iadd dL_law_527 ?_
  refine Ev_topi (y := nI (i + 1)) (nI_add _ _) ?_
  refine Ev_sldN (j := i + 1) rfl dL_law_528 (by omega) (by omega) ?_
  refine Ev_callV (bc := 0) (b := b) dL_law_529 cv_L_58 rfl hm (Nat.le_of_ble_eq_true rfl) (by omega) ?_
  refine Mth.mono ?_ h2
  rintro v2 S2 ⟨rfl, hST⟩
  refine Ev_icmp_eq dL_law_532 (fun _ => ?_) (fun c => absurd rfl c)
  exact ih S2 hST

set_option maxHeartbeats 4000000 in
set_option maxRecDepth 100000 in
theorem lc_best {d b i L : Nat} {xs : Nat → Int32} {S : aS} {Q : Option Value → aS → Prop} (hL : i + 6 ≤ L) (hL2 : L ≤ 384) (hO : ∃ lf, S[0]? = some (co lf)) (hP : PrI mX11_best mX12_best 0 [.int (xs (i + 1)), .int (xs (i + 2))] S) (ih : ∀ S2, ST S2 → LawAt L xs d b 1129 i [] S2 Q) : LawAt L xs d b 537 i [] S Q := by
  obtain ⟨lf, hO⟩ := hO
  refine Ev_aload_n dL_law_537 rfl ?_
  refine Ev_aload_nX dL_law_538 rfl ?_
  refine Ev_iload_n dL_law_539 rfl ?_
  refine Ev_iconst (v := 1) dL_law_540 (by decide) ?_
  refine Ev_iadd dL_law_541 ?_
  refine Ev_topi (y := nI (i + 1)) (nI_add _ _) ?_
  refine Ev_sldN (j := i + 1) rfl dL_law_542 (by omega) (by omega) ?_
  refine Ev_aload_nX dL_law_543 rfl ?_
  refine Ev_iload_n dL_law_544 rfl ?_
  refine Ev_iconst (v := 2) dL_law_545 (by decide) ?_
  refine Ev_iadd dL_law_546 ?_
  refine Ev_topi (y := nI (i + 2)) (nI_add _ _) ?_
  refine Ev_sldN (j := i + 2) rfl dL_law_547 (by omega) (by omega) ?_
  refine Ev_callV (bc := 0) (b := b) dL_law_548 cv_L_59 rfl hO (Nat.le_of_ble_eq_true rfl) (by omega) ?_
  refine Mth.mono ?_ (hP d)
  rintro v S1 ⟨r, rfl, ⟨fs, hm⟩, h2⟩
  refine Ev_aload_n dL_law_551 rfl ?_
  refine Ev_aload_nX dL_law_552 rfl ?_
  refine Ev_iload_n dL_law_553 rfl ?_
  refine Ev_iconst (v := 1) dL_law_554 (by decide) ?_
  refine Ev_iadd dL_law_555 ?_
  refine Ev_topi (y := nI (i + 1)) (nI_add _ _) ?_
  refine Ev_sldN (j := i + 1) rfl dL_law_556 (by omega) (by omega) ?_
  refine Ev_aload_nX dL_law_557 rfl ?_
  refine Ev_iload_n dL_law_558 rfl ?_
  refine Ev_iconst (v := 2) dL_law_559 (by decide) ?_
  refine Ev_iadd dL_law_560 ?_
  refine Ev_topi (y := nI (i + 2)) (nI_add _ _) ?_
  refine Ev_sldN (j := i + 2) rfl dL_law_561 (by omega) (by omega) ?_
  refine Ev_callV (bc := 0) (b := b) dL_law_562 cv_L_62 rfl hm (Nat.le_of_ble_eq_true rfl) (by omega) ?_
  refine Mth.mono ?_ h2
  rintro v2 S2 ⟨rfl, hST⟩
  refine Ev_icmp_eq dL_law_565 (fun _ => ?_) (fun c => absurd rfl c)
  exact ih S2 hST

set_option maxHeartbeats 4000000 in
set_option maxRecDepth 100000 in
theorem lc_safest {d b i L : Nat} {xs : Nat → Int32} {S : aS} {Q : Option Value → aS → Prop} (hL : i + 6 ≤ L) (hL2 : L ≤ 384) (hO : ∃ lf, S[0]? = some (co lf)) (hP : PrI mX11_safest mX12_safest 0 [.int (xs (i + 1)), .int (xs (i + 2))] S) (ih : ∀ S2, ST S2 → LawAt L xs d b 1129 i [] S2 Q) : LawAt L xs d b 570 i [] S Q := by
  obtain ⟨lf, hO⟩ := hO
  refine Ev_aload_n dL_law_570 rfl ?_
  refine Ev_aload_nX dL_law_571 rfl ?_
  refine Ev_iload_n dL_law_572 rfl ?_
  refine Ev_iconst (v := 1) dL_law_573 (by decide) ?_
  refine Ev_iadd dL_law_574 ?_
  refine Ev_topi (y := nI (i + 1)) (nI_add _ _) ?_
  refine Ev_sldN (j := i + 1) rfl dL_law_575 (by omega) (by omega) ?_
  refine Ev_aload_nX dL_law_576 rfl ?_
  refine Ev_iload_n dL_law_577 rfl ?_
  refine Ev_iconst (v := 2) dL_law_578 (by decide) ?_
  refine Ev_iadd dL_law_579 ?_
  refine Ev_topi (y := nI (i + 2)) (nI_add _ _) ?_
  refine Ev_sldN (j := i + 2) rfl dL_law_580 (by omega) (by omega) ?_
  refine Ev_callV (bc := 0) (b := b) dL_law_581 cv_L_63 rfl hO (Nat.le_of_ble_eq_true rfl) (by omega) ?_
  refine Mth.mono ?_ (hP d)
  rintro v S1 ⟨r, rfl, ⟨fs, hm⟩, h2⟩
  refine Ev_aload_n dL_law_584 rfl ?_
  refine Ev_aload_nX dL_law_585 rfl ?_
  refine Ev_iload_n dL_law_586 rfl ?_
  refine Ev_iconst (v := 1) dL_law_587 (by decide) ?_
  refine Ev_iadd dL_law_588 ?_
  refine Ev_topi (y := nI (i + 1)) (nI_add _ _) ?_
  refine Ev_sldN (j := i + 1) rfl dL_law_589 (by omega) (by omega) ?_
  refine Ev_aload_nX dL_law_590 rfl ?_
  refine Ev_iload_n dL_law_591 rfl ?_
  refine Ev_iconst (v := 2) dL_law_592 (by decide) ?_
  refine Ev_iadd dL_law_593 ?_
  refine Ev_topi (y := nI (i + 2)) (nI_add _ _) ?_
  refine Ev_sldN (j := i + 2) rfl dL_law_594 (by omega) (by omega) ?_
  refine Ev_callV (bc := 0) (b := b) dL_law_595 cv_L_66 rfl hm (Nat.le_of_ble_eq_true rfl) (by omega) ?_
  refine Mth.mono ?_ h2
  rintro v2 S2 ⟨rfl, hST⟩
  refine Ev_icmp_eq dL_law_598 (fun _ => ?_) (fun c => absurd rfl c)
  exact ih S2 hST

set_option maxHeartbeats 4000000 in
set_option maxRecDepth 100000 in
theorem lc_worth {d b i L : Nat} {xs : Nat → Int32} {S : aS} {Q : Option Value → aS → Prop} (hL : i + 6 ≤ L) (hL2 : L ≤ 384) (hO : ∃ lf, S[0]? = some (co lf)) (hP : PrI mX11_worth mX12_worth 0 [.int (xs (i + 1))] S) (ih : ∀ S2, ST S2 → LawAt L xs d b 1129 i [] S2 Q) : LawAt L xs d b 603 i [] S Q := by
  obtain ⟨lf, hO⟩ := hO
  refine Ev_aload_n dL_law_603 rfl ?_
  refine Ev_aload_nX dL_law_604 rfl ?_
  refine Ev_iload_n dL_law_605 rfl ?_
  refine Ev_iconst (v := 1) dL_law_606 (by decide) ?_
  refine Ev_iadd dL_law_607 ?_
  refine Ev_topi (y := nI (i + 1)) (nI_add _ _) ?_
  refine Ev_sldN (j := i + 1) rfl dL_law_608 (by omega) (by omega) ?_
  refine Ev_callV (bc := 0) (b := b) dL_law_609 cv_L_67 rfl hO (Nat.le_of_ble_eq_true rfl) (by omega) ?_
  refine Mth.mono ?_ (hP d)
  rintro v S1 ⟨r, rfl, ⟨fs, hm⟩, h2⟩
  refine Ev_aload_n dL_law_612 rfl ?_
  refine Ev_aload_nX dL_law_613 rfl ?_
  refine Ev_iload_n dL_law_614 rfl ?_
  refine Ev_iconst (v := 1) dL_law_615 (by decide) ?_
  refine Ev_iadd dL_law_616 ?_
  refine Ev_topi (y := nI (i + 1)) (nI_add _ _) ?_
  refine Ev_sldN (j := i + 1) rfl dL_law_617 (by omega) (by omega) ?_
  refine Ev_callV (bc := 0) (b := b) dL_law_618 cv_L_70 rfl hm (Nat.le_of_ble_eq_true rfl) (by omega) ?_
  refine Mth.mono ?_ h2
  rintro v2 S2 ⟨rfl, hST⟩
  refine Ev_icmp_eq dL_law_621 (fun _ => ?_) (fun c => absurd rfl c)
  exact ih S2 hST

set_option maxHeartbeats 4000000 in
set_option maxRecDepth 100000 in
theorem lc_reading0 {d b i L : Nat} {xs : Nat → Int32} {S : aS} {Q : Option Value → aS → Prop} (hL : i + 6 ≤ L) (hL2 : L ≤ 384) (hO : ∃ lf, S[0]? = some (co lf)) (hb : xs (i + 2) = 0) (hP : PrI mX11_reading mX12_reading 0 [.int (xs (i + 1)), .int 0] S) (ih : ∀ S2, ST S2 → LawAt L xs d b 1129 i [] S2 Q) : LawAt L xs d b 626 i [] S Q := by
  obtain ⟨lf, hO⟩ := hO
  refine Ev_aload_n dL_law_626 rfl ?_
  refine Ev_aload_nX dL_law_627 rfl ?_
  refine Ev_iload_n dL_law_628 rfl ?_
  refine Ev_iconst (v := 1) dL_law_629 (by decide) ?_
  refine Ev_iadd dL_law_630 ?_
  refine Ev_topi (y := nI (i + 1)) (nI_add _ _) ?_
  refine Ev_sldN (j := i + 1) rfl dL_law_631 (by omega) (by omega) ?_
  refine Ev_aload_nX dL_law_632 rfl ?_
  refine Ev_iload_n dL_law_633 rfl ?_
  refine Ev_iconst (v := 2) dL_law_634 (by decide) ?_
  refine Ev_iadd dL_law_635 ?_
  refine Ev_topi (y := nI (i + 2)) (nI_add _ _) ?_
  refine Ev_sldN (j := i + 2) rfl dL_law_636 (by omega) (by omega) ?_
  refine Ev_if_eq dL_law_637 (fun _ => ?_) (fun c => absurd hb c)
  refine Ev_iconst (v := 0) dL_law_644 (by decide) ?_
  refine Ev_callV (bc := 0) (b := b) dL_law_645 cv_L_71 rfl hO (Nat.le_of_ble_eq_true rfl) (by omega) ?_
  refine Mth.mono ?_ (hP d)
  rintro v S1 ⟨r, rfl, ⟨fs, hm⟩, h2⟩
  refine Ev_aload_n dL_law_648 rfl ?_
  refine Ev_aload_nX dL_law_649 rfl ?_
  refine Ev_iload_n dL_law_650 rfl ?_
  refine Ev_iconst (v := 1) dL_law_651 (by decide) ?_
  refine Ev_iadd dL_law_652 ?_
  refine Ev_topi (y := nI (i + 1)) (nI_add _ _) ?_
  refine Ev_sldN (j := i + 1) rfl dL_law_653 (by omega) (by omega) ?_
  refine Ev_aload_nX dL_law_654 rfl ?_
  refine Ev_iload_n dL_law_655 rfl ?_
  refine Ev_iconst (v := 2) dL_law_656 (by decide) ?_
  refine Ev_iadd dL_law_657 ?_
  refine Ev_topi (y := nI (i + 2)) (nI_add _ _) ?_
  refine Ev_sldN (j := i + 2) rfl dL_law_658 (by omega) (by omega) ?_
  refine Ev_if_eq dL_law_659 (fun _ => ?_) (fun c => absurd hb c)
  refine Ev_iconst (v := 0) dL_law_666 (by decide) ?_
  refine Ev_callV (bc := 0) (b := b) dL_law_667 cv_L_74 rfl hm (Nat.le_of_ble_eq_true rfl) (by omega) ?_
  refine Mth.mono ?_ h2
  rintro v2 S2 ⟨rfl, hST⟩
  refine Ev_icmp_eq dL_law_670 (fun _ => ?_) (fun c => absurd rfl c)
  exact ih S2 hST

set_option maxHeartbeats 4000000 in
set_option maxRecDepth 100000 in
theorem lc_reading1 {d b i L : Nat} {xs : Nat → Int32} {S : aS} {Q : Option Value → aS → Prop} (hL : i + 6 ≤ L) (hL2 : L ≤ 384) (hO : ∃ lf, S[0]? = some (co lf)) (hb : ¬ xs (i + 2) = 0) (hP : PrI mX11_reading mX12_reading 0 [.int (xs (i + 1)), .int 1] S) (ih : ∀ S2, ST S2 → LawAt L xs d b 1129 i [] S2 Q) : LawAt L xs d b 626 i [] S Q := by
  obtain ⟨lf, hO⟩ := hO
  refine Ev_aload_n dL_law_626 rfl ?_
  refine Ev_aload_nX dL_law_627 rfl ?_
  refine Ev_iload_n dL_law_628 rfl ?_
  refine Ev_iconst (v := 1) dL_law_629 (by decide) ?_
  refine Ev_iadd dL_law_630 ?_
  refine Ev_topi (y := nI (i + 1)) (nI_add _ _) ?_
  refine Ev_sldN (j := i + 1) rfl dL_law_631 (by omega) (by omega) ?_
  refine Ev_aload_nX dL_law_632 rfl ?_
  refine Ev_iload_n dL_law_633 rfl ?_
  refine Ev_iconst (v := 2) dL_law_634 (by decide) ?_
  refine Ev_iadd dL_law_635 ?_
  refine Ev_topi (y := nI (i + 2)) (nI_add _ _) ?_
  refine Ev_sldN (j := i + 2) rfl dL_law_636 (by omega) (by omega) ?_
  refine Ev_if_eq dL_law_637 (fun c => absurd c hb) (fun _ => ?_)
  refine Ev_iconst (v := 1) dL_law_640 (by decide) ?_
  refine Ev_goto dL_law_641 ?_
  refine Ev_callV (bc := 0) (b := b) dL_law_645 cv_L_71 rfl hO (Nat.le_of_ble_eq_true rfl) (by omega) ?_
  refine Mth.mono ?_ (hP d)
  rintro v S1 ⟨r, rfl, ⟨fs, hm⟩, h2⟩
  refine Ev_aload_n dL_law_648 rfl ?_
  refine Ev_aload_nX dL_law_649 rfl ?_
  refine Ev_iload_n dL_law_650 rfl ?_
  refine Ev_iconst (v := 1) dL_law_651 (by decide) ?_
  refine Ev_iadd dL_law_652 ?_
  refine Ev_topi (y := nI (i + 1)) (nI_add _ _) ?_
  refine Ev_sldN (j := i + 1) rfl dL_law_653 (by omega) (by omega) ?_
  refine Ev_aload_nX dL_law_654 rfl ?_
  refine Ev_iload_n dL_law_655 rfl ?_
  refine Ev_iconst (v := 2) dL_law_656 (by decide) ?_
  refine Ev_iadd dL_law_657 ?_
  refine Ev_topi (y := nI (i + 2)) (nI_add _ _) ?_
  refine Ev_sldN (j := i + 2) rfl dL_law_658 (by omega) (by omega) ?_
  refine Ev_if_eq dL_law_659 (fun c => absurd c hb) (fun _ => ?_)
  refine Ev_iconst (v := 1) dL_law_662 (by decide) ?_
  refine Ev_goto dL_law_663 ?_
  refine Ev_callV (bc := 0) (b := b) dL_law_667 cv_L_74 rfl hm (Nat.le_of_ble_eq_true rfl) (by omega) ?_
  refine Mth.mono ?_ h2
  rintro v2 S2 ⟨rfl, hST⟩
  refine Ev_icmp_eq dL_law_670 (fun _ => ?_) (fun c => absurd rfl c)
  exact ih S2 hST

set_option maxHeartbeats 4000000 in
set_option maxRecDepth 100000 in
theorem lc_back {d b i L : Nat} {xs : Nat → Int32} {S : aS} {Q : Option Value → aS → Prop} (hL : i + 6 ≤ L) (hL2 : L ≤ 384) (hO : ∃ lf, S[0]? = some (co lf)) (hP : PrI mX11_back mX12_back 0 [.int (xs (i + 1))] S) (ih : ∀ S2, ST S2 → LawAt L xs d b 1129 i [] S2 Q) : LawAt L xs d b 675 i [] S Q := by
  obtain ⟨lf, hO⟩ := hO
  refine Ev_aload_n dL_law_675 rfl ?_
  refine Ev_aload_nX dL_law_676 rfl ?_
  refine Ev_iload_n dL_law_677 rfl ?_
  refine Ev_iconst (v := 1) dL_law_678 (by decide) ?_
  refine Ev_iadd dL_law_679 ?_
  refine Ev_topi (y := nI (i + 1)) (nI_add _ _) ?_
  refine Ev_sldN (j := i + 1) rfl dL_law_680 (by omega) (by omega) ?_
  refine Ev_callV (bc := 0) (b := b) dL_law_681 cv_L_75 rfl hO (Nat.le_of_ble_eq_true rfl) (by omega) ?_
  refine Mth.mono ?_ (hP d)
  rintro v S1 ⟨r, rfl, ⟨fs, hm⟩, h2⟩
  refine Ev_aload_n dL_law_684 rfl ?_
  refine Ev_aload_nX dL_law_685 rfl ?_
  refine Ev_iload_n dL_law_686 rfl ?_
  refine Ev_iconst (v := 1) dL_law_687 (by decide) ?_
  refine Ev_iadd dL_law_688 ?_
  refine Ev_topi (y := nI (i + 1)) (nI_add _ _) ?_
  refine Ev_sldN (j := i + 1) rfl dL_law_689 (by omega) (by omega) ?_
  refine Ev_callV (bc := 0) (b := b) dL_law_690 cv_L_78 rfl hm (Nat.le_of_ble_eq_true rfl) (by omega) ?_
  refine Mth.mono ?_ h2
  rintro v2 S2 ⟨rfl, hST⟩
  refine Ev_icmp_eq dL_law_693 (fun _ => ?_) (fun c => absurd rfl c)
  exact ih S2 hST

set_option maxHeartbeats 4000000 in
set_option maxRecDepth 100000 in
theorem lc_trails {d b i L : Nat} {xs : Nat → Int32} {S : aS} {Q : Option Value → aS → Prop} (hL : i + 6 ≤ L) (hL2 : L ≤ 384) (hO : ∃ lf, S[0]? = some (co lf)) (hP : PrI mX11_trails mX12_trails 0 [.int (xs (i + 1)), .int (xs (i + 2)), .int (xs (i + 3))] S) (ih : ∀ S2, ST S2 → LawAt L xs d b 1129 i [] S2 Q) : LawAt L xs d b 698 i [] S Q := by
  obtain ⟨lf, hO⟩ := hO
  refine Ev_aload_n dL_law_698 rfl ?_
  refine Ev_aload_nX dL_law_699 rfl ?_
  refine Ev_iload_n dL_law_700 rfl ?_
  refine Ev_iconst (v := 1) dL_law_701 (by decide) ?_
  refine Ev_iadd dL_law_702 ?_
  refine Ev_topi (y := nI (i + 1)) (nI_add _ _) ?_
  refine Ev_sldN (j := i + 1) rfl dL_law_703 (by omega) (by omega) ?_
  refine Ev_aload_nX dL_law_704 rfl ?_
  refine Ev_iload_n dL_law_705 rfl ?_
  refine Ev_iconst (v := 2) dL_law_706 (by decide) ?_
  refine Ev_iadd dL_law_707 ?_
  refine Ev_topi (y := nI (i + 2)) (nI_add _ _) ?_
  refine Ev_sldN (j := i + 2) rfl dL_law_708 (by omega) (by omega) ?_
  refine Ev_aload_nX dL_law_709 rfl ?_
  refine Ev_iload_n dL_law_710 rfl ?_
  refine Ev_iconst (v := 3) dL_law_711 (by decide) ?_
  refine Ev_iadd dL_law_712 ?_
  refine Ev_topi (y := nI (i + 3)) (nI_add _ _) ?_
  refine Ev_sldN (j := i + 3) rfl dL_law_713 (by omega) (by omega) ?_
  refine Ev_callV (bc := 0) (b := b) dL_law_714 cv_L_79 rfl hO (Nat.le_of_ble_eq_true rfl) (by omega) ?_
  refine Mth.mono ?_ (hP d)
  rintro v S1 ⟨r, rfl, ⟨fs, hm⟩, h2⟩
  refine Ev_aload_n dL_law_717 rfl ?_
  refine Ev_aload_nX dL_law_718 rfl ?_
  refine Ev_iload_n dL_law_719 rfl ?_
  refine Ev_iconst (v := 1) dL_law_720 (by decide) ?_
  refine Ev_iadd dL_law_721 ?_
  refine Ev_topi (y := nI (i + 1)) (nI_add _ _) ?_
  refine Ev_sldN (j := i + 1) rfl dL_law_722 (by omega) (by omega) ?_
  refine Ev_aload_nX dL_law_723 rfl ?_
  refine Ev_iload_n dL_law_724 rfl ?_
  refine Ev_iconst (v := 2) dL_law_725 (by decide) ?_
  refine Ev_iadd dL_law_726 ?_
  refine Ev_topi (y := nI (i + 2)) (nI_add _ _) ?_
  refine Ev_sldN (j := i + 2) rfl dL_law_727 (by omega) (by omega) ?_
  refine Ev_aload_nX dL_law_728 rfl ?_
  refine Ev_iload_n dL_law_729 rfl ?_
  refine Ev_iconst (v := 3) dL_law_730 (by decide) ?_
  refine Ev_iadd dL_law_731 ?_
  refine Ev_topi (y := nI (i + 3)) (nI_add _ _) ?_
  refine Ev_sldN (j := i + 3) rfl dL_law_732 (by omega) (by omega) ?_
  refine Ev_callV (bc := 0) (b := b) dL_law_733 cv_L_83 rfl hm (Nat.le_of_ble_eq_true rfl) (by omega) ?_
  refine Mth.mono ?_ h2
  rintro v2 S2 ⟨rfl, hST⟩
  refine Ev_icmp_eq dL_law_736 (fun _ => ?_) (fun c => absurd rfl c)
  exact ih S2 hST

set_option maxHeartbeats 4000000 in
set_option maxRecDepth 100000 in
theorem lc_dawdle {d b i L : Nat} {xs : Nat → Int32} {S : aS} {Q : Option Value → aS → Prop} (hL : i + 6 ≤ L) (hL2 : L ≤ 384) (hO : ∃ lf, S[0]? = some (co lf)) (hP : PrL mX11_dawdle mX12_dawdle 0 [.int (xs (i + 1)), .int (xs (i + 2)), .int (xs (i + 3))] S) (ih : ∀ S2, ST S2 → LawAt L xs d b 1129 i [] S2 Q) : LawAt L xs d b 741 i [] S Q := by
  obtain ⟨lf, hO⟩ := hO
  refine Ev_aload_n dL_law_741 rfl ?_
  refine Ev_aload_nX dL_law_742 rfl ?_
  refine Ev_iload_n dL_law_743 rfl ?_
  refine Ev_iconst (v := 1) dL_law_744 (by decide) ?_
  refine Ev_iadd dL_law_745 ?_
  refine Ev_topi (y := nI (i + 1)) (nI_add _ _) ?_
  refine Ev_sldN (j := i + 1) rfl dL_law_746 (by omega) (by omega) ?_
  refine Ev_aload_nX dL_law_747 rfl ?_
  refine Ev_iload_n dL_law_748 rfl ?_
  refine Ev_iconst (v := 2) dL_law_749 (by decide) ?_
  refine Ev_iadd dL_law_750 ?_
  refine Ev_topi (y := nI (i + 2)) (nI_add _ _) ?_
  refine Ev_sldN (j := i + 2) rfl dL_law_751 (by omega) (by omega) ?_
  refine Ev_aload_nX dL_law_752 rfl ?_
  refine Ev_iload_n dL_law_753 rfl ?_
  refine Ev_iconst (v := 3) dL_law_754 (by decide) ?_
  refine Ev_iadd dL_law_755 ?_
  refine Ev_topi (y := nI (i + 3)) (nI_add _ _) ?_
  refine Ev_sldN (j := i + 3) rfl dL_law_756 (by omega) (by omega) ?_
  refine Ev_callV (bc := 0) (b := b) dL_law_757 cv_L_84 rfl hO (Nat.le_of_ble_eq_true rfl) (by omega) ?_
  refine Mth.mono ?_ (hP d)
  rintro v S1 ⟨r, rfl, ⟨fs, hm⟩, h2⟩
  refine Ev_aload_n dL_law_760 rfl ?_
  refine Ev_aload_nX dL_law_761 rfl ?_
  refine Ev_iload_n dL_law_762 rfl ?_
  refine Ev_iconst (v := 1) dL_law_763 (by decide) ?_
  refine Ev_iadd dL_law_764 ?_
  refine Ev_topi (y := nI (i + 1)) (nI_add _ _) ?_
  refine Ev_sldN (j := i + 1) rfl dL_law_765 (by omega) (by omega) ?_
  refine Ev_aload_nX dL_law_766 rfl ?_
  refine Ev_iload_n dL_law_767 rfl ?_
  refine Ev_iconst (v := 2) dL_law_768 (by decide) ?_
  refine Ev_iadd dL_law_769 ?_
  refine Ev_topi (y := nI (i + 2)) (nI_add _ _) ?_
  refine Ev_sldN (j := i + 2) rfl dL_law_770 (by omega) (by omega) ?_
  refine Ev_aload_nX dL_law_771 rfl ?_
  refine Ev_iload_n dL_law_772 rfl ?_
  refine Ev_iconst (v := 3) dL_law_773 (by decide) ?_
  refine Ev_iadd dL_law_774 ?_
  refine Ev_topi (y := nI (i + 3)) (nI_add _ _) ?_
  refine Ev_sldN (j := i + 3) rfl dL_law_775 (by omega) (by omega) ?_
  refine Ev_callV (bc := 0) (b := b) dL_law_776 cv_L_88 rfl hm (Nat.le_of_ble_eq_true rfl) (by omega) ?_
  refine Mth.mono ?_ h2
  rintro v2 S2 ⟨rfl, hST⟩
  refine Ev_lcmp dL_law_779 ?_
  refine Ev_if_eq dL_law_780 (fun _ => ?_) (fun c => absurd (lg_eq.mpr rfl) c)
  exact ih S2 hST

set_option maxHeartbeats 4000000 in
set_option maxRecDepth 100000 in
theorem lc_sheet {d b i L : Nat} {xs : Nat → Int32} {S : aS} {Q : Option Value → aS → Prop} (hL : i + 6 ≤ L) (hL2 : L ≤ 384) (hO : ∃ lf, S[0]? = some (co lf)) (hP : PrI mX11_sheet mX12_sheet 0 [.int (xs (i + 1)), .int (xs (i + 2)), .int (xs (i + 3))] S) (ih : ∀ S2, ST S2 → LawAt L xs d b 1129 i [] S2 Q) : LawAt L xs d b 785 i [] S Q := by
  obtain ⟨lf, hO⟩ := hO
  refine Ev_aload_n dL_law_785 rfl ?_
  refine Ev_aload_nX dL_law_786 rfl ?_
  refine Ev_iload_n dL_law_787 rfl ?_
  refine Ev_iconst (v := 1) dL_law_788 (by decide) ?_
  refine Ev_iadd dL_law_789 ?_
  refine Ev_topi (y := nI (i + 1)) (nI_add _ _) ?_
  refine Ev_sldN (j := i + 1) rfl dL_law_790 (by omega) (by omega) ?_
  refine Ev_aload_nX dL_law_791 rfl ?_
  refine Ev_iload_n dL_law_792 rfl ?_
  refine Ev_iconst (v := 2) dL_law_793 (by decide) ?_
  refine Ev_iadd dL_law_794 ?_
  refine Ev_topi (y := nI (i + 2)) (nI_add _ _) ?_
  refine Ev_sldN (j := i + 2) rfl dL_law_795 (by omega) (by omega) ?_
  refine Ev_aload_nX dL_law_796 rfl ?_
  refine Ev_iload_n dL_law_797 rfl ?_
  refine Ev_iconst (v := 3) dL_law_798 (by decide) ?_
  refine Ev_iadd dL_law_799 ?_
  refine Ev_topi (y := nI (i + 3)) (nI_add _ _) ?_
  refine Ev_sldN (j := i + 3) rfl dL_law_800 (by omega) (by omega) ?_
  refine Ev_callV (bc := 0) (b := b) dL_law_801 cv_L_89 rfl hO (Nat.le_of_ble_eq_true rfl) (by omega) ?_
  refine Mth.mono ?_ (hP d)
  rintro v S1 ⟨r, rfl, ⟨fs, hm⟩, h2⟩
  refine Ev_aload_n dL_law_804 rfl ?_
  refine Ev_aload_nX dL_law_805 rfl ?_
  refine Ev_iload_n dL_law_806 rfl ?_
  refine Ev_iconst (v := 1) dL_law_807 (by decide) ?_
  refine Ev_iadd dL_law_808 ?_
  refine Ev_topi (y := nI (i + 1)) (nI_add _ _) ?_
  refine Ev_sldN (j := i + 1) rfl dL_law_809 (by omega) (by omega) ?_
  refine Ev_aload_nX dL_law_810 rfl ?_
  refine Ev_iload_n dL_law_811 rfl ?_
  refine Ev_iconst (v := 2) dL_law_812 (by decide) ?_
  refine Ev_iadd dL_law_813 ?_
  refine Ev_topi (y := nI (i + 2)) (nI_add _ _) ?_
  refine Ev_sldN (j := i + 2) rfl dL_law_814 (by omega) (by omega) ?_
  refine Ev_aload_nX dL_law_815 rfl ?_
  refine Ev_iload_n dL_law_816 rfl ?_
  refine Ev_iconst (v := 3) dL_law_817 (by decide) ?_
  refine Ev_iadd dL_law_818 ?_
  refine Ev_topi (y := nI (i + 3)) (nI_add _ _) ?_
  refine Ev_sldN (j := i + 3) rfl dL_law_819 (by omega) (by omega) ?_
  refine Ev_callV (bc := 0) (b := b) dL_law_820 cv_L_92 rfl hm (Nat.le_of_ble_eq_true rfl) (by omega) ?_
  refine Mth.mono ?_ h2
  rintro v2 S2 ⟨rfl, hST⟩
  refine Ev_icmp_eq dL_law_823 (fun _ => ?_) (fun c => absurd rfl c)
  exact ih S2 hST

set_option maxHeartbeats 4000000 in
set_option maxRecDepth 100000 in
theorem lc_lose {d b i L : Nat} {xs : Nat → Int32} {S : aS} {Q : Option Value → aS → Prop} (hL : i + 6 ≤ L) (hL2 : L ≤ 384) (hO : ∃ lf, S[0]? = some (co lf)) (hP : PrI mX11_lose mX12_lose 0 [.int (xs (i + 1))] S) (ih : ∀ S2, ST S2 → LawAt L xs d b 1129 i [] S2 Q) : LawAt L xs d b 828 i [] S Q := by
  obtain ⟨lf, hO⟩ := hO
  refine Ev_aload_n dL_law_828 rfl ?_
  refine Ev_aload_nX dL_law_829 rfl ?_
  refine Ev_iload_n dL_law_830 rfl ?_
  refine Ev_iconst (v := 1) dL_law_831 (by decide) ?_
  refine Ev_iadd dL_law_832 ?_
  refine Ev_topi (y := nI (i + 1)) (nI_add _ _) ?_
  refine Ev_sldN (j := i + 1) rfl dL_law_833 (by omega) (by omega) ?_
  refine Ev_callV (bc := 0) (b := b) dL_law_834 cv_L_93 rfl hO (Nat.le_of_ble_eq_true rfl) (by omega) ?_
  refine Mth.mono ?_ (hP d)
  rintro v S1 ⟨r, rfl, ⟨fs, hm⟩, h2⟩
  refine Ev_aload_n dL_law_837 rfl ?_
  refine Ev_aload_nX dL_law_838 rfl ?_
  refine Ev_iload_n dL_law_839 rfl ?_
  refine Ev_iconst (v := 1) dL_law_840 (by decide) ?_
  refine Ev_iadd dL_law_841 ?_
  refine Ev_topi (y := nI (i + 1)) (nI_add _ _) ?_
  refine Ev_sldN (j := i + 1) rfl dL_law_842 (by omega) (by omega) ?_
  refine Ev_callV (bc := 0) (b := b) dL_law_843 cv_L_96 rfl hm (Nat.le_of_ble_eq_true rfl) (by omega) ?_
  refine Mth.mono ?_ h2
  rintro v2 S2 ⟨rfl, hST⟩
  refine Ev_icmp_eq dL_law_846 (fun _ => ?_) (fun c => absurd rfl c)
  exact ih S2 hST

set_option maxHeartbeats 4000000 in
set_option maxRecDepth 100000 in
theorem lc_put {d b i L : Nat} {xs : Nat → Int32} {S : aS} {Q : Option Value → aS → Prop} (hL : i + 6 ≤ L) (hL2 : L ≤ 384) (hO : ∃ lf, S[0]? = some (co lf)) (hP : PrI mX11_put mX12_put 0 [.int (xs (i + 1)), .int (xs (i + 2)), .int (xs (i + 3))] S) (ih : ∀ S2, ST S2 → LawAt L xs d b 1129 i [] S2 Q) : LawAt L xs d b 851 i [] S Q := by
  obtain ⟨lf, hO⟩ := hO
  refine Ev_aload_n dL_law_851 rfl ?_
  refine Ev_aload_nX dL_law_852 rfl ?_
  refine Ev_iload_n dL_law_853 rfl ?_
  refine Ev_iconst (v := 1) dL_law_854 (by decide) ?_
  refine Ev_iadd dL_law_855 ?_
  refine Ev_topi (y := nI (i + 1)) (nI_add _ _) ?_
  refine Ev_sldN (j := i + 1) rfl dL_law_856 (by omega) (by omega) ?_
  refine Ev_aload_nX dL_law_857 rfl ?_
  refine Ev_iload_n dL_law_858 rfl ?_
  refine Ev_iconst (v := 2) dL_law_859 (by decide) ?_
  refine Ev_iadd dL_law_860 ?_
  refine Ev_topi (y := nI (i + 2)) (nI_add _ _) ?_
  refine Ev_sldN (j := i + 2) rfl dL_law_861 (by omega) (by omega) ?_
  refine Ev_aload_nX dL_law_862 rfl ?_
  refine Ev_iload_n dL_law_863 rfl ?_
  refine Ev_iconst (v := 3) dL_law_864 (by decide) ?_
  refine Ev_iadd dL_law_865 ?_
  refine Ev_topi (y := nI (i + 3)) (nI_add _ _) ?_
  refine Ev_sldN (j := i + 3) rfl dL_law_866 (by omega) (by omega) ?_
  refine Ev_callV (bc := 0) (b := b) dL_law_867 cv_L_97 rfl hO (Nat.le_of_ble_eq_true rfl) (by omega) ?_
  refine Mth.mono ?_ (hP d)
  rintro v S1 ⟨r, rfl, ⟨fs, hm⟩, h2⟩
  refine Ev_aload_n dL_law_870 rfl ?_
  refine Ev_aload_nX dL_law_871 rfl ?_
  refine Ev_iload_n dL_law_872 rfl ?_
  refine Ev_iconst (v := 1) dL_law_873 (by decide) ?_
  refine Ev_iadd dL_law_874 ?_
  refine Ev_topi (y := nI (i + 1)) (nI_add _ _) ?_
  refine Ev_sldN (j := i + 1) rfl dL_law_875 (by omega) (by omega) ?_
  refine Ev_aload_nX dL_law_876 rfl ?_
  refine Ev_iload_n dL_law_877 rfl ?_
  refine Ev_iconst (v := 2) dL_law_878 (by decide) ?_
  refine Ev_iadd dL_law_879 ?_
  refine Ev_topi (y := nI (i + 2)) (nI_add _ _) ?_
  refine Ev_sldN (j := i + 2) rfl dL_law_880 (by omega) (by omega) ?_
  refine Ev_aload_nX dL_law_881 rfl ?_
  refine Ev_iload_n dL_law_882 rfl ?_
  refine Ev_iconst (v := 3) dL_law_883 (by decide) ?_
  refine Ev_iadd dL_law_884 ?_
  refine Ev_topi (y := nI (i + 3)) (nI_add _ _) ?_
  refine Ev_sldN (j := i + 3) rfl dL_law_885 (by omega) (by omega) ?_
  refine Ev_callV (bc := 0) (b := b) dL_law_886 cv_L_100 rfl hm (Nat.le_of_ble_eq_true rfl) (by omega) ?_
  refine Mth.mono ?_ h2
  rintro v2 S2 ⟨rfl, hST⟩
  refine Ev_icmp_eq dL_law_889 (fun _ => ?_) (fun c => absurd rfl c)
  exact ih S2 hST

set_option maxHeartbeats 4000000 in
set_option maxRecDepth 100000 in
theorem lc_cell {d b i L : Nat} {xs : Nat → Int32} {S : aS} {Q : Option Value → aS → Prop} (hL : i + 6 ≤ L) (hL2 : L ≤ 384) (hO : ∃ lf, S[0]? = some (co lf)) (hP : PrL mX11_cell mX12_cell 0 [.int (xs (i + 1)), .int (xs (i + 2)), .int (xs (i + 3))] S) (ih : ∀ S2, ST S2 → LawAt L xs d b 1129 i [] S2 Q) : LawAt L xs d b 894 i [] S Q := by
  obtain ⟨lf, hO⟩ := hO
  refine Ev_aload_n dL_law_894 rfl ?_
  refine Ev_aload_nX dL_law_895 rfl ?_
  refine Ev_iload_n dL_law_896 rfl ?_
  refine Ev_iconst (v := 1) dL_law_897 (by decide) ?_
  refine Ev_iadd dL_law_898 ?_
  refine Ev_topi (y := nI (i + 1)) (nI_add _ _) ?_
  refine Ev_sldN (j := i + 1) rfl dL_law_899 (by omega) (by omega) ?_
  refine Ev_aload_nX dL_law_900 rfl ?_
  refine Ev_iload_n dL_law_901 rfl ?_
  refine Ev_iconst (v := 2) dL_law_902 (by decide) ?_
  refine Ev_iadd dL_law_903 ?_
  refine Ev_topi (y := nI (i + 2)) (nI_add _ _) ?_
  refine Ev_sldN (j := i + 2) rfl dL_law_904 (by omega) (by omega) ?_
  refine Ev_aload_nX dL_law_905 rfl ?_
  refine Ev_iload_n dL_law_906 rfl ?_
  refine Ev_iconst (v := 3) dL_law_907 (by decide) ?_
  refine Ev_iadd dL_law_908 ?_
  refine Ev_topi (y := nI (i + 3)) (nI_add _ _) ?_
  refine Ev_sldN (j := i + 3) rfl dL_law_909 (by omega) (by omega) ?_
  refine Ev_callV (bc := 0) (b := b) dL_law_910 cv_L_101 rfl hO (Nat.le_of_ble_eq_true rfl) (by omega) ?_
  refine Mth.mono ?_ (hP d)
  rintro v S1 ⟨r, rfl, ⟨fs, hm⟩, h2⟩
  refine Ev_aload_n dL_law_913 rfl ?_
  refine Ev_aload_nX dL_law_914 rfl ?_
  refine Ev_iload_n dL_law_915 rfl ?_
  refine Ev_iconst (v := 1) dL_law_916 (by decide) ?_
  refine Ev_iadd dL_law_917 ?_
  refine Ev_topi (y := nI (i + 1)) (nI_add _ _) ?_
  refine Ev_sldN (j := i + 1) rfl dL_law_918 (by omega) (by omega) ?_
  refine Ev_aload_nX dL_law_919 rfl ?_
  refine Ev_iload_n dL_law_920 rfl ?_
  refine Ev_iconst (v := 2) dL_law_921 (by decide) ?_
  refine Ev_iadd dL_law_922 ?_
  refine Ev_topi (y := nI (i + 2)) (nI_add _ _) ?_
  refine Ev_sldN (j := i + 2) rfl dL_law_923 (by omega) (by omega) ?_
  refine Ev_aload_nX dL_law_924 rfl ?_
  refine Ev_iload_n dL_law_925 rfl ?_
  refine Ev_iconst (v := 3) dL_law_926 (by decide) ?_
  refine Ev_iadd dL_law_927 ?_
  refine Ev_topi (y := nI (i + 3)) (nI_add _ _) ?_
  refine Ev_sldN (j := i + 3) rfl dL_law_928 (by omega) (by omega) ?_
  refine Ev_callV (bc := 0) (b := b) dL_law_929 cv_L_104 rfl hm (Nat.le_of_ble_eq_true rfl) (by omega) ?_
  refine Mth.mono ?_ h2
  rintro v2 S2 ⟨rfl, hST⟩
  refine Ev_lcmp dL_law_932 ?_
  refine Ev_if_eq dL_law_933 (fun _ => ?_) (fun c => absurd (lg_eq.mpr rfl) c)
  exact ih S2 hST

set_option maxHeartbeats 4000000 in
set_option maxRecDepth 100000 in
theorem lc_copy {d b i L : Nat} {xs : Nat → Int32} {S : aS} {Q : Option Value → aS → Prop} (hL : i + 6 ≤ L) (hL2 : L ≤ 384) (hO : ∃ lf, S[0]? = some (co lf)) (hP : PrI mX11_copy mX12_copy 0 [.int (xs (i + 1)), .int (xs (i + 2)), .int (xs (i + 3)), .int (xs (i + 4)), .int (xs (i + 5))] S) (ih : ∀ S2, ST S2 → LawAt L xs d b 1129 i [] S2 Q) : LawAt L xs d b 938 i [] S Q := by
  obtain ⟨lf, hO⟩ := hO
  refine Ev_aload_n dL_law_938 rfl ?_
  refine Ev_aload_nX dL_law_939 rfl ?_
  refine Ev_iload_n dL_law_940 rfl ?_
  refine Ev_iconst (v := 1) dL_law_941 (by decide) ?_
  refine Ev_iadd dL_law_942 ?_
  refine Ev_topi (y := nI (i + 1)) (nI_add _ _) ?_
  refine Ev_sldN (j := i + 1) rfl dL_law_943 (by omega) (by omega) ?_
  refine Ev_aload_nX dL_law_944 rfl ?_
  refine Ev_iload_n dL_law_945 rfl ?_
  refine Ev_iconst (v := 2) dL_law_946 (by decide) ?_
  refine Ev_iadd dL_law_947 ?_
  refine Ev_topi (y := nI (i + 2)) (nI_add _ _) ?_
  refine Ev_sldN (j := i + 2) rfl dL_law_948 (by omega) (by omega) ?_
  refine Ev_aload_nX dL_law_949 rfl ?_
  refine Ev_iload_n dL_law_950 rfl ?_
  refine Ev_iconst (v := 3) dL_law_951 (by decide) ?_
  refine Ev_iadd dL_law_952 ?_
  refine Ev_topi (y := nI (i + 3)) (nI_add _ _) ?_
  refine Ev_sldN (j := i + 3) rfl dL_law_953 (by omega) (by omega) ?_
  refine Ev_aload_nX dL_law_954 rfl ?_
  refine Ev_iload_n dL_law_955 rfl ?_
  refine Ev_iconst (v := 4) dL_law_956 (by decide) ?_
  refine Ev_iadd dL_law_957 ?_
  refine Ev_topi (y := nI (i + 4)) (nI_add _ _) ?_
  refine Ev_sldN (j := i + 4) rfl dL_law_958 (by omega) (by omega) ?_
  refine Ev_aload_nX dL_law_959 rfl ?_
  refine Ev_iload_n dL_law_960 rfl ?_
  refine Ev_iconst (v := 5) dL_law_961 (by decide) ?_
  refine Ev_iadd dL_law_962 ?_
  refine Ev_topi (y := nI (i + 5)) (nI_add _ _) ?_
  refine Ev_sldN (j := i + 5) rfl dL_law_963 (by omega) (by omega) ?_
  refine Ev_callV (bc := 0) (b := b) dL_law_964 cv_L_105 rfl hO (Nat.le_of_ble_eq_true rfl) (by omega) ?_
  refine Mth.mono ?_ (hP d)
  rintro v S1 ⟨r, rfl, ⟨fs, hm⟩, h2⟩
  refine Ev_aload_n dL_law_967 rfl ?_
  refine Ev_aload_nX dL_law_968 rfl ?_
  refine Ev_iload_n dL_law_969 rfl ?_
  refine Ev_iconst (v := 1) dL_law_970 (by decide) ?_
  refine Ev_iadd dL_law_971 ?_
  refine Ev_topi (y := nI (i + 1)) (nI_add _ _) ?_
  refine Ev_sldN (j := i + 1) rfl dL_law_972 (by omega) (by omega) ?_
  refine Ev_aload_nX dL_law_973 rfl ?_
  refine Ev_iload_n dL_law_974 rfl ?_
  refine Ev_iconst (v := 2) dL_law_975 (by decide) ?_
  refine Ev_iadd dL_law_976 ?_
  refine Ev_topi (y := nI (i + 2)) (nI_add _ _) ?_
  refine Ev_sldN (j := i + 2) rfl dL_law_977 (by omega) (by omega) ?_
  refine Ev_aload_nX dL_law_978 rfl ?_
  refine Ev_iload_n dL_law_979 rfl ?_
  refine Ev_iconst (v := 3) dL_law_980 (by decide) ?_
  refine Ev_iadd dL_law_981 ?_
  refine Ev_topi (y := nI (i + 3)) (nI_add _ _) ?_
  refine Ev_sldN (j := i + 3) rfl dL_law_982 (by omega) (by omega) ?_
  refine Ev_aload_nX dL_law_983 rfl ?_
  refine Ev_iload_n dL_law_984 rfl ?_
  refine Ev_iconst (v := 4) dL_law_985 (by decide) ?_
  refine Ev_iadd dL_law_986 ?_
  refine Ev_topi (y := nI (i + 4)) (nI_add _ _) ?_
  refine Ev_sldN (j := i + 4) rfl dL_law_987 (by omega) (by omega) ?_
  refine Ev_aload_nX dL_law_988 rfl ?_
  refine Ev_iload_n dL_law_989 rfl ?_
  refine Ev_iconst (v := 5) dL_law_990 (by decide) ?_
  refine Ev_iadd dL_law_991 ?_
  refine Ev_topi (y := nI (i + 5)) (nI_add _ _) ?_
  refine Ev_sldN (j := i + 5) rfl dL_law_992 (by omega) (by omega) ?_
  refine Ev_callV (bc := 0) (b := b) dL_law_993 cv_L_108 rfl hm (Nat.le_of_ble_eq_true rfl) (by omega) ?_
  refine Mth.mono ?_ h2
  rintro v2 S2 ⟨rfl, hST⟩
  refine Ev_icmp_eq dL_law_996 (fun _ => ?_) (fun c => absurd rfl c)
  exact ih S2 hST

set_option maxHeartbeats 4000000 in
set_option maxRecDepth 100000 in
theorem lc_tell {d b i L : Nat} {xs : Nat → Int32} {S : aS} {Q : Option Value → aS → Prop} (hL : i + 6 ≤ L) (hL2 : L ≤ 384) (hO : ∃ lf, S[0]? = some (co lf)) (hP : PrI mX11_tell mX12_tell 0 [.int (xs (i + 1))] S) (ih : ∀ S2, ST S2 → LawAt L xs d b 1129 i [] S2 Q) : LawAt L xs d b 1001 i [] S Q := by
  obtain ⟨lf, hO⟩ := hO
  refine Ev_aload_n dL_law_1001 rfl ?_
  refine Ev_aload_nX dL_law_1002 rfl ?_
  refine Ev_iload_n dL_law_1003 rfl ?_
  refine Ev_iconst (v := 1) dL_law_1004 (by decide) ?_
  refine Ev_iadd dL_law_1005 ?_
  refine Ev_topi (y := nI (i + 1)) (nI_add _ _) ?_
  refine Ev_sldN (j := i + 1) rfl dL_law_1006 (by omega) (by omega) ?_
  refine Ev_callV (bc := 0) (b := b) dL_law_1007 cv_L_109 rfl hO (Nat.le_of_ble_eq_true rfl) (by omega) ?_
  refine Mth.mono ?_ (hP d)
  rintro v S1 ⟨r, rfl, ⟨fs, hm⟩, h2⟩
  refine Ev_aload_n dL_law_1010 rfl ?_
  refine Ev_aload_nX dL_law_1011 rfl ?_
  refine Ev_iload_n dL_law_1012 rfl ?_
  refine Ev_iconst (v := 1) dL_law_1013 (by decide) ?_
  refine Ev_iadd dL_law_1014 ?_
  refine Ev_topi (y := nI (i + 1)) (nI_add _ _) ?_
  refine Ev_sldN (j := i + 1) rfl dL_law_1015 (by omega) (by omega) ?_
  refine Ev_callV (bc := 0) (b := b) dL_law_1016 cv_L_112 rfl hm (Nat.le_of_ble_eq_true rfl) (by omega) ?_
  refine Mth.mono ?_ h2
  rintro v2 S2 ⟨rfl, hST⟩
  refine Ev_icmp_eq dL_law_1019 (fun _ => ?_) (fun c => absurd rfl c)
  exact ih S2 hST

set_option maxHeartbeats 4000000 in
set_option maxRecDepth 100000 in
theorem lc_sing {d b i L : Nat} {xs : Nat → Int32} {S : aS} {Q : Option Value → aS → Prop} (hL : i + 6 ≤ L) (hL2 : L ≤ 384) (hO : ∃ lf, S[0]? = some (co lf)) (hP : PrI mX11_sing mX12_sing 0 [.int (xs (i + 1))] S) (ih : ∀ S2, ST S2 → LawAt L xs d b 1129 i [] S2 Q) : LawAt L xs d b 1024 i [] S Q := by
  obtain ⟨lf, hO⟩ := hO
  refine Ev_aload_n dL_law_1024 rfl ?_
  refine Ev_aload_nX dL_law_1025 rfl ?_
  refine Ev_iload_n dL_law_1026 rfl ?_
  refine Ev_iconst (v := 1) dL_law_1027 (by decide) ?_
  refine Ev_iadd dL_law_1028 ?_
  refine Ev_topi (y := nI (i + 1)) (nI_add _ _) ?_
  refine Ev_sldN (j := i + 1) rfl dL_law_1029 (by omega) (by omega) ?_
  refine Ev_callV (bc := 0) (b := b) dL_law_1030 cv_L_113 rfl hO (Nat.le_of_ble_eq_true rfl) (by omega) ?_
  refine Mth.mono ?_ (hP d)
  rintro v S1 ⟨r, rfl, ⟨fs, hm⟩, h2⟩
  refine Ev_aload_n dL_law_1033 rfl ?_
  refine Ev_aload_nX dL_law_1034 rfl ?_
  refine Ev_iload_n dL_law_1035 rfl ?_
  refine Ev_iconst (v := 1) dL_law_1036 (by decide) ?_
  refine Ev_iadd dL_law_1037 ?_
  refine Ev_topi (y := nI (i + 1)) (nI_add _ _) ?_
  refine Ev_sldN (j := i + 1) rfl dL_law_1038 (by omega) (by omega) ?_
  refine Ev_callV (bc := 0) (b := b) dL_law_1039 cv_L_116 rfl hm (Nat.le_of_ble_eq_true rfl) (by omega) ?_
  refine Mth.mono ?_ h2
  rintro v2 S2 ⟨rfl, hST⟩
  refine Ev_icmp_eq dL_law_1042 (fun _ => ?_) (fun c => absurd rfl c)
  exact ih S2 hST

set_option maxHeartbeats 4000000 in
set_option maxRecDepth 100000 in
theorem lc_as {d b i L : Nat} {xs : Nat → Int32} {S : aS} {Q : Option Value → aS → Prop} (hL : i + 6 ≤ L) (hL2 : L ≤ 384) (hO : ∃ lf, S[0]? = some (co lf)) (hP : PrI mX11_as mX12_as 0 [.int (xs (i + 1)), .int (xs (i + 2))] S) (ih : ∀ S2, ST S2 → LawAt L xs d b 1129 i [] S2 Q) : LawAt L xs d b 1047 i [] S Q := by
  obtain ⟨lf, hO⟩ := hO
  refine Ev_aload_n dL_law_1047 rfl ?_
  refine Ev_aload_nX dL_law_1048 rfl ?_
  refine Ev_iload_n dL_law_1049 rfl ?_
  refine Ev_iconst (v := 1) dL_law_1050 (by decide) ?_
  refine Ev_iadd dL_law_1051 ?_
  refine Ev_topi (y := nI (i + 1)) (nI_add _ _) ?_
  refine Ev_sldN (j := i + 1) rfl dL_law_1052 (by omega) (by omega) ?_
  refine Ev_aload_nX dL_law_1053 rfl ?_
  refine Ev_iload_n dL_law_1054 rfl ?_
  refine Ev_iconst (v := 2) dL_law_1055 (by decide) ?_
  refine Ev_iadd dL_law_1056 ?_
  refine Ev_topi (y := nI (i + 2)) (nI_add _ _) ?_
  refine Ev_sldN (j := i + 2) rfl dL_law_1057 (by omega) (by omega) ?_
  refine Ev_callV (bc := 0) (b := b) dL_law_1058 cv_L_117 rfl hO (Nat.le_of_ble_eq_true rfl) (by omega) ?_
  refine Mth.mono ?_ (hP d)
  rintro v S1 ⟨r, rfl, ⟨fs, hm⟩, h2⟩
  refine Ev_aload_n dL_law_1061 rfl ?_
  refine Ev_aload_nX dL_law_1062 rfl ?_
  refine Ev_iload_n dL_law_1063 rfl ?_
  refine Ev_iconst (v := 1) dL_law_1064 (by decide) ?_
  refine Ev_iadd dL_law_1065 ?_
  refine Ev_topi (y := nI (i + 1)) (nI_add _ _) ?_
  refine Ev_sldN (j := i + 1) rfl dL_law_1066 (by omega) (by omega) ?_
  refine Ev_aload_nX dL_law_1067 rfl ?_
  refine Ev_iload_n dL_law_1068 rfl ?_
  refine Ev_iconst (v := 2) dL_law_1069 (by decide) ?_
  refine Ev_iadd dL_law_1070 ?_
  refine Ev_topi (y := nI (i + 2)) (nI_add _ _) ?_
  refine Ev_sldN (j := i + 2) rfl dL_law_1071 (by omega) (by omega) ?_
  refine Ev_callV (bc := 0) (b := b) dL_law_1072 cv_L_120 rfl hm (Nat.le_of_ble_eq_true rfl) (by omega) ?_
  refine Mth.mono ?_ h2
  rintro v2 S2 ⟨rfl, hST⟩
  refine Ev_icmp_eq dL_law_1075 (fun _ => ?_) (fun c => absurd rfl c)
  exact ih S2 hST

set_option maxHeartbeats 4000000 in
set_option maxRecDepth 100000 in
theorem lc_trace {d b i L : Nat} {xs : Nat → Int32} {S : aS} {Q : Option Value → aS → Prop} (hL : i + 6 ≤ L) (hL2 : L ≤ 384) (hO : ∃ lf, S[0]? = some (co lf)) (hP : PrI mX11_trace mX12_trace 0 [] S) (ih : ∀ S2, ST S2 → LawAt L xs d b 1129 i [] S2 Q) : LawAt L xs d b 1080 i [] S Q := by
  obtain ⟨lf, hO⟩ := hO
  refine Ev_aload_n dL_law_1080 rfl ?_
  refine Ev_callV (bc := 0) (b := b) dL_law_1081 cv_L_121 rfl hO (Nat.le_of_ble_eq_true rfl) (by omega) ?_
  refine Mth.mono ?_ (hP d)
  rintro v S1 ⟨r, rfl, ⟨fs, hm⟩, h2⟩
  refine Ev_aload_n dL_law_1084 rfl ?_
  refine Ev_callV (bc := 0) (b := b) dL_law_1085 cv_L_125 rfl hm (Nat.le_of_ble_eq_true rfl) (by omega) ?_
  refine Mth.mono ?_ h2
  rintro v2 S2 ⟨rfl, hST⟩
  refine Ev_icmp_eq dL_law_1088 (fun _ => ?_) (fun c => absurd rfl c)
  exact ih S2 hST

set_option maxHeartbeats 4000000 in
set_option maxRecDepth 100000 in
theorem lc_fault {d b i L : Nat} {xs : Nat → Int32} {S : aS} {Q : Option Value → aS → Prop} (hL : i + 6 ≤ L) (hL2 : L ≤ 384) (hO : ∃ lf, S[0]? = some (co lf)) (hP : PrI mX11_fault mX12_fault 0 [] S) (ih : ∀ S2, ST S2 → LawAt L xs d b 1129 i [] S2 Q) : LawAt L xs d b 1093 i [] S Q := by
  obtain ⟨lf, hO⟩ := hO
  refine Ev_aload_n dL_law_1093 rfl ?_
  refine Ev_callV (bc := 0) (b := b) dL_law_1094 cv_L_126 rfl hO (Nat.le_of_ble_eq_true rfl) (by omega) ?_
  refine Mth.mono ?_ (hP d)
  rintro v S1 ⟨r, rfl, ⟨fs, hm⟩, h2⟩
  refine Ev_aload_n dL_law_1097 rfl ?_
  refine Ev_callV (bc := 0) (b := b) dL_law_1098 cv_L_129 rfl hm (Nat.le_of_ble_eq_true rfl) (by omega) ?_
  refine Mth.mono ?_ h2
  rintro v2 S2 ⟨rfl, hST⟩
  refine Ev_icmp_eq dL_law_1101 (fun _ => ?_) (fun c => absurd rfl c)
  exact ih S2 hST

set_option maxHeartbeats 4000000 in
set_option maxRecDepth 100000 in
theorem lc_many {d b i L : Nat} {xs : Nat → Int32} {S : aS} {Q : Option Value → aS → Prop} (hL : i + 6 ≤ L) (hL2 : L ≤ 384) (hO : ∃ lf, S[0]? = some (co lf)) (hP : PrI mX11_many mX12_many 0 [.int (xs (i + 1))] S) (ih : ∀ S2, ST S2 → LawAt L xs d b 1129 i [] S2 Q) : LawAt L xs d b 1106 i [] S Q := by
  obtain ⟨lf, hO⟩ := hO
  refine Ev_aload_n dL_law_1106 rfl ?_
  refine Ev_aload_nX dL_law_1107 rfl ?_
  refine Ev_iload_n dL_law_1108 rfl ?_
  refine Ev_iconst (v := 1) dL_law_1109 (by decide) ?_
  refine Ev_iadd dL_law_1110 ?_
  refine Ev_topi (y := nI (i + 1)) (nI_add _ _) ?_
  refine Ev_sldN (j := i + 1) rfl dL_law_1111 (by omega) (by omega) ?_
  refine Ev_callV (bc := 0) (b := b) dL_law_1112 cv_L_130 rfl hO (Nat.le_of_ble_eq_true rfl) (by omega) ?_
  refine Mth.mono ?_ (hP d)
  rintro v S1 ⟨r, rfl, ⟨fs, hm⟩, h2⟩
  refine Ev_aload_n dL_law_1115 rfl ?_
  refine Ev_aload_nX dL_law_1116 rfl ?_
  refine Ev_iload_n dL_law_1117 rfl ?_
  refine Ev_iconst (v := 1) dL_law_1118 (by decide) ?_
  refine Ev_iadd dL_law_1119 ?_
  refine Ev_topi (y := nI (i + 1)) (nI_add _ _) ?_
  refine Ev_sldN (j := i + 1) rfl dL_law_1120 (by omega) (by omega) ?_
  refine Ev_callV (bc := 0) (b := b) dL_law_1121 cv_L_133 rfl hm (Nat.le_of_ble_eq_true rfl) (by omega) ?_
  refine Mth.mono ?_ h2
  rintro v2 S2 ⟨rfl, hST⟩
  refine Ev_icmp_eq dL_law_1124 (fun _ => ?_) (fun c => absurd rfl c)
  exact ih S2 hST

