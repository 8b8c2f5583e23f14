theorem g_rolen {cc : ByteArray} {own : String} {lev nL : Nat} {ro : Nat → Option (Nat × (Nat → Int32))} {G : Nat → List (Option Value) → List Value → Hp → Prop} {pc : Nat} {ls : List (Option Value)} {st : List Value} {σ : Hp} (h : Rules cc own lev nL ro G) {t n : Nat} {f : Nat → Int32} (hr : ro t = some (n, f)) (hd : decode cc pc = .ok (.arraylength, 1)) (kk : G (pc + 1) ls (.int (nI n) :: st) σ) : G pc ls (.ref t :: st) σ := by
  obtain ⟨p, l, e, R, s, m, args, below, meth, c, ad, D, cA, A0, cells, slots, Q, ⟨hx, hb, hml, hown, hts, hE, hA, hR, hT⟩, rfl⟩ := h
  intro H locs la hP hS hl0
  exact va_tlen hx hb (hT t n f hr) hS rfl hd (kk H locs la hP hS hl0)
set_option maxHeartbeats 4000000 in
theorem lg_ball {ro : Nat → Option (Nat × (Nat → Int32))} {G : Nat → List (Option Value) → List Value → Hp → Prop} {L : Nat} {xs : Nat → Int32} (hR : Rules code "ParcelBallLaw" 12 4 ro G) (hro : ro 45 = some (L, xs)) (hL : L ≤ 3072) {j : Nat} (hj : 6 * j + 6 ≤ L) {σ : Hp} {d : Int} (h : Jx σ d) (hd0 : 0 ≤ d) (hd : d ≤ 30720) (kk : ∀ σ', Jx σ' (d + 60) → G 1366 [some (.ref 45), some (.ref 0), some (.ref 18), some (.int (nI (6 * j)))] [] σ') : G 212 [some (.ref 45), some (.ref 0), some (.ref 18), some (.int (nI (6 * j)))] [] σ := by
  obtain ⟨v, X, c1, c2⟩ := op_ball (xs (6 * j + 1)) h hd0 hd
  refine g_al_1 hR dL_law_212 ?_
  refine g_al_0 hR dL_law_213 ?_
  refine g_il_3 hR dL_law_214 ?_
  refine g_iconst_1 hR dL_law_215 ?_
  refine g_iadd hR dL_law_216 ?_
  refine g_roald hR (6 * j + 1) hro (by omega) (by omega) (nI_add (6 * j) 1) dL_law_217 ?_
  refine g_cvP hR ciX4_ball dL_law_218 ml_L_13 (Nat.le_of_ble_eq_true rfl) (by decide) rfl rfl rfl (c1) rfl (Nat.le_of_ble_eq_true rfl) rfl (fun σ1 h1 => ?_)
  obtain ⟨M, c3, hM⟩ := c2 σ1 h1
  refine g_al_2 hR dL_law_221 ?_
  refine g_al_0 hR dL_law_222 ?_
  refine g_il_3 hR dL_law_223 ?_
  refine g_iconst_1 hR dL_law_224 ?_
  refine g_iadd hR dL_law_225 ?_
  refine g_roald hR (6 * j + 1) hro (by omega) (by omega) (nI_add (6 * j) 1) dL_law_226 ?_
  refine g_cvP hR ciX5_ball dL_law_227 ml_L_17 (Nat.le_of_ble_eq_true rfl) (by decide) rfl rfl rfl (c3) rfl (Nat.le_of_ble_eq_true rfl) rfl (fun σ2 h2 => ?_)
  refine g_icmp_eq (tgt := 1366) hR dL_law_230 (by decide) (fun _ => ?_) (fun h_c => absurd (rfl) h_c)
  exact kk σ2 (hM.eb h2)
set_option maxHeartbeats 4000000 in
theorem lg_drag {ro : Nat → Option (Nat × (Nat → Int32))} {G : Nat → List (Option Value) → List Value → Hp → Prop} {L : Nat} {xs : Nat → Int32} (hR : Rules code "ParcelBallLaw" 12 4 ro G) (hro : ro 45 = some (L, xs)) (hL : L ≤ 3072) {j : Nat} (hj : 6 * j + 6 ≤ L) {σ : Hp} {d : Int} (h : Jx σ d) (hd0 : 0 ≤ d) (hd : d ≤ 30720) (kk : ∀ σ', Jx σ' (d + 60) → G 1366 [some (.ref 45), some (.ref 0), some (.ref 18), some (.int (nI (6 * j)))] [] σ') : G 235 [some (.ref 45), some (.ref 0), some (.ref 18), some (.int (nI (6 * j)))] [] σ := by
  obtain ⟨v, X, c1, c2⟩ := op_drag (xs (6 * j + 1)) h hd0 hd
  refine g_al_1 hR dL_law_235 ?_
  refine g_al_0 hR dL_law_236 ?_
  refine g_il_3 hR dL_law_237 ?_
  refine g_iconst_1 hR dL_law_238 ?_
  refine g_iadd hR dL_law_239 ?_
  refine g_roald hR (6 * j + 1) hro (by omega) (by omega) (nI_add (6 * j) 1) dL_law_240 ?_
  refine g_cvP hR ciX4_drag dL_law_241 ml_L_18 (Nat.le_of_ble_eq_true rfl) (by decide) rfl rfl rfl (c1) rfl (Nat.le_of_ble_eq_true rfl) rfl (fun σ1 h1 => ?_)
  obtain ⟨M, c3, hM⟩ := c2 σ1 h1
  refine g_al_2 hR dL_law_244 ?_
  refine g_al_0 hR dL_law_245 ?_
  refine g_il_3 hR dL_law_246 ?_
  refine g_iconst_1 hR dL_law_247 ?_
  refine g_iadd hR dL_law_248 ?_
  refine g_roald hR (6 * j + 1) hro (by omega) (by omega) (nI_add (6 * j) 1) dL_law_249 ?_
  refine g_cvP hR ciX5_drag dL_law_250 ml_L_21 (Nat.le_of_ble_eq_true rfl) (by decide) rfl rfl rfl (c3) rfl (Nat.le_of_ble_eq_true rfl) rfl (fun σ2 h2 => ?_)
  refine g_icmp_eq (tgt := 1366) hR dL_law_253 (by decide) (fun _ => ?_) (fun h_c => absurd (rfl) h_c)
  exact kk σ2 (hM.eb h2)
set_option maxHeartbeats 4000000 in
theorem lg_wind {ro : Nat → Option (Nat × (Nat → Int32))} {G : Nat → List (Option Value) → List Value → Hp → Prop} {L : Nat} {xs : Nat → Int32} (hR : Rules code "ParcelBallLaw" 12 4 ro G) (hro : ro 45 = some (L, xs)) (hL : L ≤ 3072) {j : Nat} (hj : 6 * j + 6 ≤ L) {σ : Hp} {d : Int} (h : Jx σ d) (hd0 : 0 ≤ d) (hd : d ≤ 30720) (kk : ∀ σ', Jx σ' (d + 60) → G 1366 [some (.ref 45), some (.ref 0), some (.ref 18), some (.int (nI (6 * j)))] [] σ') : G 258 [some (.ref 45), some (.ref 0), some (.ref 18), some (.int (nI (6 * j)))] [] σ := by
  obtain ⟨v, X, c1, c2⟩ := op_wind (xs (6 * j + 1)) (xs (6 * j + 2)) h hd0 hd
  refine g_al_1 hR dL_law_258 ?_
  refine g_al_0 hR dL_law_259 ?_
  refine g_il_3 hR dL_law_260 ?_
  refine g_iconst_1 hR dL_law_261 ?_
  refine g_iadd hR dL_law_262 ?_
  refine g_roald hR (6 * j + 1) hro (by omega) (by omega) (nI_add (6 * j) 1) dL_law_263 ?_
  refine g_al_0 hR dL_law_264 ?_
  refine g_il_3 hR dL_law_265 ?_
  refine g_iconst_2 hR dL_law_266 ?_
  refine g_iadd hR dL_law_267 ?_
  refine g_roald hR (6 * j + 2) hro (by omega) (by omega) (nI_add (6 * j) 2) dL_law_268 ?_
  refine g_cvP hR ciX4_wind dL_law_269 ml_L_22 (Nat.le_of_ble_eq_true rfl) (by decide) rfl rfl rfl (c1) rfl (Nat.le_of_ble_eq_true rfl) rfl (fun σ1 h1 => ?_)
  obtain ⟨M, c3, hM⟩ := c2 σ1 h1
  refine g_al_2 hR dL_law_272 ?_
  refine g_al_0 hR dL_law_273 ?_
  refine g_il_3 hR dL_law_274 ?_
  refine g_iconst_1 hR dL_law_275 ?_
  refine g_iadd hR dL_law_276 ?_
  refine g_roald hR (6 * j + 1) hro (by omega) (by omega) (nI_add (6 * j) 1) dL_law_277 ?_
  refine g_al_0 hR dL_law_278 ?_
  refine g_il_3 hR dL_law_279 ?_
  refine g_iconst_2 hR dL_law_280 ?_
  refine g_iadd hR dL_law_281 ?_
  refine g_roald hR (6 * j + 2) hro (by omega) (by omega) (nI_add (6 * j) 2) dL_law_282 ?_
  refine g_cvP hR ciX5_wind dL_law_283 ml_L_26 (Nat.le_of_ble_eq_true rfl) (by decide) rfl rfl rfl (c3) rfl (Nat.le_of_ble_eq_true rfl) rfl (fun σ2 h2 => ?_)
  refine g_icmp_eq (tgt := 1366) hR dL_law_286 (by decide) (fun _ => ?_) (fun h_c => absurd (rfl) h_c)
  exact kk σ2 (hM.eb h2)
set_option maxHeartbeats 4000000 in
theorem lg_of {ro : Nat → Option (Nat × (Nat → Int32))} {G : Nat → List (Option Value) → List Value → Hp → Prop} {L : Nat} {xs : Nat → Int32} (hR : Rules code "ParcelBallLaw" 12 4 ro G) (hro : ro 45 = some (L, xs)) (hL : L ≤ 3072) {j : Nat} (hj : 6 * j + 6 ≤ L) {σ : Hp} {d : Int} (h : Jx σ d) (hd0 : 0 ≤ d) (hd : d ≤ 30720) (kk : ∀ σ', Jx σ' (d + 60) → G 1366 [some (.ref 45), some (.ref 0), some (.ref 18), some (.int (nI (6 * j)))] [] σ') : G 291 [some (.ref 45), some (.ref 0), some (.ref 18), some (.int (nI (6 * j)))] [] σ := by
  obtain ⟨v, X, c1, c2⟩ := op_of (xs (6 * j + 1)) (xs (6 * j + 2)) h hd0 hd
  refine g_al_1 hR dL_law_291 ?_
  refine g_al_0 hR dL_law_292 ?_
  refine g_il_3 hR dL_law_293 ?_
  refine g_iconst_1 hR dL_law_294 ?_
  refine g_iadd hR dL_law_295 ?_
  refine g_roald hR (6 * j + 1) hro (by omega) (by omega) (nI_add (6 * j) 1) dL_law_296 ?_
  refine g_al_0 hR dL_law_297 ?_
  refine g_il_3 hR dL_law_298 ?_
  refine g_iconst_2 hR dL_law_299 ?_
  refine g_iadd hR dL_law_300 ?_
  refine g_roald hR (6 * j + 2) hro (by omega) (by omega) (nI_add (6 * j) 2) dL_law_301 ?_
  refine g_cvP hR ciX4_of dL_law_302 ml_L_27 (Nat.le_of_ble_eq_true rfl) (by decide) rfl rfl rfl (c1) rfl (Nat.le_of_ble_eq_true rfl) rfl (fun σ1 h1 => ?_)
  obtain ⟨M, c3, hM⟩ := c2 σ1 h1
  refine g_al_2 hR dL_law_305 ?_
  refine g_al_0 hR dL_law_306 ?_
  refine g_il_3 hR dL_law_307 ?_
  refine g_iconst_1 hR dL_law_308 ?_
  refine g_iadd hR dL_law_309 ?_
  refine g_roald hR (6 * j + 1) hro (by omega) (by omega) (nI_add (6 * j) 1) dL_law_310 ?_
  refine g_al_0 hR dL_law_311 ?_
  refine g_il_3 hR dL_law_312 ?_
  refine g_iconst_2 hR dL_law_313 ?_
  refine g_iadd hR dL_law_314 ?_
  refine g_roald hR (6 * j + 2) hro (by omega) (by omega) (nI_add (6 * j) 2) dL_law_315 ?_
  refine g_cvP hR ciX5_of dL_law_316 ml_L_30 (Nat.le_of_ble_eq_true rfl) (by decide) rfl rfl rfl (c3) rfl (Nat.le_of_ble_eq_true rfl) rfl (fun σ2 h2 => ?_)
  refine g_icmp_eq (tgt := 1366) hR dL_law_319 (by decide) (fun _ => ?_) (fun h_c => absurd (rfl) h_c)
  exact kk σ2 (hM.eb h2)
set_option maxHeartbeats 4000000 in
theorem lg_change {ro : Nat → Option (Nat × (Nat → Int32))} {G : Nat → List (Option Value) → List Value → Hp → Prop} {L : Nat} {xs : Nat → Int32} (hR : Rules code "ParcelBallLaw" 12 4 ro G) (hro : ro 45 = some (L, xs)) (hL : L ≤ 3072) {j : Nat} (hj : 6 * j + 6 ≤ L) {σ : Hp} {d : Int} (h : Jx σ d) (hd0 : 0 ≤ d) (hd : d ≤ 30720) (kk : ∀ σ', Jx σ' (d + 60) → G 1366 [some (.ref 45), some (.ref 0), some (.ref 18), some (.int (nI (6 * j)))] [] σ') : G 324 [some (.ref 45), some (.ref 0), some (.ref 18), some (.int (nI (6 * j)))] [] σ := by
  obtain ⟨v, X, c1, c2⟩ := op_change (xs (6 * j + 1)) (xs (6 * j + 2)) (xs (6 * j + 3)) h hd0 hd
  refine g_al_1 hR dL_law_324 ?_
  refine g_al_0 hR dL_law_325 ?_
  refine g_il_3 hR dL_law_326 ?_
  refine g_iconst_1 hR dL_law_327 ?_
  refine g_iadd hR dL_law_328 ?_
  refine g_roald hR (6 * j + 1) hro (by omega) (by omega) (nI_add (6 * j) 1) dL_law_329 ?_
  refine g_al_0 hR dL_law_330 ?_
  refine g_il_3 hR dL_law_331 ?_
  refine g_iconst_2 hR dL_law_332 ?_
  refine g_iadd hR dL_law_333 ?_
  refine g_roald hR (6 * j + 2) hro (by omega) (by omega) (nI_add (6 * j) 2) dL_law_334 ?_
  refine g_al_0 hR dL_law_335 ?_
  refine g_il_3 hR dL_law_336 ?_
  refine g_iconst_3 hR dL_law_337 ?_
  refine g_iadd hR dL_law_338 ?_
  refine g_roald hR (6 * j + 3) hro (by omega) (by omega) (nI_add (6 * j) 3) dL_law_339 ?_
  refine g_cvP hR ciX4_change dL_law_340 ml_L_31 (Nat.le_of_ble_eq_true rfl) (by decide) rfl rfl rfl (c1) rfl (Nat.le_of_ble_eq_true rfl) rfl (fun σ1 h1 => ?_)
  obtain ⟨M, c3, hM⟩ := c2 σ1 h1
  refine g_al_2 hR dL_law_343 ?_
  refine g_al_0 hR dL_law_344 ?_
  refine g_il_3 hR dL_law_345 ?_
  refine g_iconst_1 hR dL_law_346 ?_
  refine g_iadd hR dL_law_347 ?_
  refine g_roald hR (6 * j + 1) hro (by omega) (by omega) (nI_add (6 * j) 1) dL_law_348 ?_
  refine g_al_0 hR dL_law_349 ?_
  refine g_il_3 hR dL_law_350 ?_
  refine g_iconst_2 hR dL_law_351 ?_
  refine g_iadd hR dL_law_352 ?_
  refine g_roald hR (6 * j + 2) hro (by omega) (by omega) (nI_add (6 * j) 2) dL_law_353 ?_
  refine g_al_0 hR dL_law_354 ?_
  refine g_il_3 hR dL_law_355 ?_
  refine g_iconst_3 hR dL_law_356 ?_
  refine g_iadd hR dL_law_357 ?_
  refine g_roald hR (6 * j + 3) hro (by omega) (by omega) (nI_add (6 * j) 3) dL_law_358 ?_
  refine g_cvP hR ciX5_change dL_law_359 ml_L_35 (Nat.le_of_ble_eq_true rfl) (by decide) rfl rfl rfl (c3) rfl (Nat.le_of_ble_eq_true rfl) rfl (fun σ2 h2 => ?_)
  refine g_icmp_eq (tgt := 1366) hR dL_law_362 (by decide) (fun _ => ?_) (fun h_c => absurd (rfl) h_c)
  exact kk σ2 (hM.eb h2)
set_option maxHeartbeats 4000000 in
theorem lg_lend {ro : Nat → Option (Nat × (Nat → Int32))} {G : Nat → List (Option Value) → List Value → Hp → Prop} {L : Nat} {xs : Nat → Int32} (hR : Rules code "ParcelBallLaw" 12 4 ro G) (hro : ro 45 = some (L, xs)) (hL : L ≤ 3072) {j : Nat} (hj : 6 * j + 6 ≤ L) {σ : Hp} {d : Int} (h : Jx σ d) (hd0 : 0 ≤ d) (hd : d ≤ 30720) (kk : ∀ σ', Jx σ' (d + 60) → G 1366 [some (.ref 45), some (.ref 0), some (.ref 18), some (.int (nI (6 * j)))] [] σ') : G 367 [some (.ref 45), some (.ref 0), some (.ref 18), some (.int (nI (6 * j)))] [] σ := by
  obtain ⟨v, X, c1, c2⟩ := op_lend (xs (6 * j + 1)) h hd0 hd
  refine g_al_1 hR dL_law_367 ?_
  refine g_al_0 hR dL_law_368 ?_
  refine g_il_3 hR dL_law_369 ?_
  refine g_iconst_1 hR dL_law_370 ?_
  refine g_iadd hR dL_law_371 ?_
  refine g_roald hR (6 * j + 1) hro (by omega) (by omega) (nI_add (6 * j) 1) dL_law_372 ?_
  refine g_cvP hR ciX4_lend dL_law_373 ml_L_36 (Nat.le_of_ble_eq_true rfl) (by decide) rfl rfl rfl (c1) rfl (Nat.le_of_ble_eq_true rfl) rfl (fun σ1 h1 => ?_)
  obtain ⟨M, c3, hM⟩ := c2 σ1 h1
  refine g_al_2 hR dL_law_376 ?_
  refine g_al_0 hR dL_law_377 ?_
  refine g_il_3 hR dL_law_378 ?_
  refine g_iconst_1 hR dL_law_379 ?_
  refine g_iadd hR dL_law_380 ?_
  refine g_roald hR (6 * j + 1) hro (by omega) (by omega) (nI_add (6 * j) 1) dL_law_381 ?_
  refine g_cvP hR ciX5_lend dL_law_382 ml_L_39 (Nat.le_of_ble_eq_true rfl) (by decide) rfl rfl rfl (c3) rfl (Nat.le_of_ble_eq_true rfl) rfl (fun σ2 h2 => ?_)
  refine g_icmp_eq (tgt := 1366) hR dL_law_385 (by decide) (fun _ => ?_) (fun h_c => absurd (rfl) h_c)
  exact kk σ2 (hM.eb h2)
set_option maxHeartbeats 4000000 in
theorem lg_felt {ro : Nat → Option (Nat × (Nat → Int32))} {G : Nat → List (Option Value) → List Value → Hp → Prop} {L : Nat} {xs : Nat → Int32} (hR : Rules code "ParcelBallLaw" 12 4 ro G) (hro : ro 45 = some (L, xs)) (hL : L ≤ 3072) {j : Nat} (hj : 6 * j + 6 ≤ L) {σ : Hp} {d : Int} (h : Jx σ d) (hd0 : 0 ≤ d) (hd : d ≤ 30720) (kk : ∀ σ', Jx σ' (d + 60) → G 1366 [some (.ref 45), some (.ref 0), some (.ref 18), some (.int (nI (6 * j)))] [] σ') : G 390 [some (.ref 45), some (.ref 0), some (.ref 18), some (.int (nI (6 * j)))] [] σ := by
  obtain ⟨v, X, c1, c2⟩ := op_felt (xs (6 * j + 1)) h hd0 hd
  refine g_al_1 hR dL_law_390 ?_
  refine g_al_0 hR dL_law_391 ?_
  refine g_il_3 hR dL_law_392 ?_
  refine g_iconst_1 hR dL_law_393 ?_
  refine g_iadd hR dL_law_394 ?_
  refine g_roald hR (6 * j + 1) hro (by omega) (by omega) (nI_add (6 * j) 1) dL_law_395 ?_
  refine g_cvP hR ciX4_felt dL_law_396 ml_L_40 (Nat.le_of_ble_eq_true rfl) (by decide) rfl rfl rfl (c1) rfl (Nat.le_of_ble_eq_true rfl) rfl (fun σ1 h1 => ?_)
  obtain ⟨M, c3, hM⟩ := c2 σ1 h1
  refine g_al_2 hR dL_law_399 ?_
  refine g_al_0 hR dL_law_400 ?_
  refine g_il_3 hR dL_law_401 ?_
  refine g_iconst_1 hR dL_law_402 ?_
  refine g_iadd hR dL_law_403 ?_
  refine g_roald hR (6 * j + 1) hro (by omega) (by omega) (nI_add (6 * j) 1) dL_law_404 ?_
  refine g_cvP hR ciX5_felt dL_law_405 ml_L_43 (Nat.le_of_ble_eq_true rfl) (by decide) rfl rfl rfl (c3) rfl (Nat.le_of_ble_eq_true rfl) rfl (fun σ2 h2 => ?_)
  refine g_icmp_eq (tgt := 1366) hR dL_law_408 (by decide) (fun _ => ?_) (fun h_c => absurd (rfl) h_c)
  exact kk σ2 (hM.eb h2)
set_option maxHeartbeats 4000000 in
theorem lg_go {ro : Nat → Option (Nat × (Nat → Int32))} {G : Nat → List (Option Value) → List Value → Hp → Prop} {L : Nat} {xs : Nat → Int32} (hR : Rules code "ParcelBallLaw" 12 4 ro G) (hro : ro 45 = some (L, xs)) (hL : L ≤ 3072) {j : Nat} (hj : 6 * j + 6 ≤ L) {σ : Hp} {d : Int} (h : Jx σ d) (hd0 : 0 ≤ d) (hd : d ≤ 30720) (kk : ∀ σ', Jx σ' (d + 60) → G 1366 [some (.ref 45), some (.ref 0), some (.ref 18), some (.int (nI (6 * j)))] [] σ') : G 413 [some (.ref 45), some (.ref 0), some (.ref 18), some (.int (nI (6 * j)))] [] σ := by
  obtain ⟨v, X, c1, c2⟩ := op_go (xs (6 * j + 1)) h hd0 hd
  refine g_al_1 hR dL_law_413 ?_
  refine g_al_0 hR dL_law_414 ?_
  refine g_il_3 hR dL_law_415 ?_
  refine g_iconst_1 hR dL_law_416 ?_
  refine g_iadd hR dL_law_417 ?_
  refine g_roald hR (6 * j + 1) hro (by omega) (by omega) (nI_add (6 * j) 1) dL_law_418 ?_
  refine g_cvP hR ciX4_go dL_law_419 ml_L_44 (Nat.le_of_ble_eq_true rfl) (by decide) rfl rfl rfl (c1) rfl (Nat.le_of_ble_eq_true rfl) rfl (fun σ1 h1 => ?_)
  obtain ⟨M, c3, hM⟩ := c2 σ1 h1
  refine g_al_2 hR dL_law_422 ?_
  refine g_al_0 hR dL_law_423 ?_
  refine g_il_3 hR dL_law_424 ?_
  refine g_iconst_1 hR dL_law_425 ?_
  refine g_iadd hR dL_law_426 ?_
  refine g_roald hR (6 * j + 1) hro (by omega) (by omega) (nI_add (6 * j) 1) dL_law_427 ?_
  refine g_cvP hR ciX5_go dL_law_428 ml_L_47 (Nat.le_of_ble_eq_true rfl) (by decide) rfl rfl rfl (c3) rfl (Nat.le_of_ble_eq_true rfl) rfl (fun σ2 h2 => ?_)
  refine g_icmp_eq (tgt := 1366) hR dL_law_431 (by decide) (fun _ => ?_) (fun h_c => absurd (rfl) h_c)
  exact kk σ2 (hM.eb h2)
set_option maxHeartbeats 4000000 in
theorem lg_now {ro : Nat → Option (Nat × (Nat → Int32))} {G : Nat → List (Option Value) → List Value → Hp → Prop} {L : Nat} {xs : Nat → Int32} (hR : Rules code "ParcelBallLaw" 12 4 ro G) (hro : ro 45 = some (L, xs)) (hL : L ≤ 3072) {j : Nat} (hj : 6 * j + 6 ≤ L) {σ : Hp} {d : Int} (h : Jx σ d) (hd0 : 0 ≤ d) (hd : d ≤ 30720) (kk : ∀ σ', Jx σ' (d + 60) → G 1366 [some (.ref 45), some (.ref 0), some (.ref 18), some (.int (nI (6 * j)))] [] σ') : G 436 [some (.ref 45), some (.ref 0), some (.ref 18), some (.int (nI (6 * j)))] [] σ := by
  obtain ⟨v, X, c1, c2⟩ := op_now (xs (6 * j + 1)) h hd0 hd
  refine g_al_1 hR dL_law_436 ?_
  refine g_al_0 hR dL_law_437 ?_
  refine g_il_3 hR dL_law_438 ?_
  refine g_iconst_1 hR dL_law_439 ?_
  refine g_iadd hR dL_law_440 ?_
  refine g_roald hR (6 * j + 1) hro (by omega) (by omega) (nI_add (6 * j) 1) dL_law_441 ?_
  refine g_cvP hR ciX4_now dL_law_442 ml_L_48 (Nat.le_of_ble_eq_true rfl) (by decide) rfl rfl rfl (c1) rfl (Nat.le_of_ble_eq_true rfl) rfl (fun σ1 h1 => ?_)
  obtain ⟨M, c3, hM⟩ := c2 σ1 h1
  refine g_al_2 hR dL_law_445 ?_
  refine g_al_0 hR dL_law_446 ?_
  refine g_il_3 hR dL_law_447 ?_
  refine g_iconst_1 hR dL_law_448 ?_
  refine g_iadd hR dL_law_449 ?_
  refine g_roald hR (6 * j + 1) hro (by omega) (by omega) (nI_add (6 * j) 1) dL_law_450 ?_
  refine g_cvP hR ciX5_now dL_law_451 ml_L_51 (Nat.le_of_ble_eq_true rfl) (by decide) rfl rfl rfl (c3) rfl (Nat.le_of_ble_eq_true rfl) rfl (fun σ2 h2 => ?_)
  refine g_icmp_eq (tgt := 1366) hR dL_law_454 (by decide) (fun _ => ?_) (fun h_c => absurd (rfl) h_c)
  exact kk σ2 (hM.eb h2)
set_option maxHeartbeats 4000000 in
theorem lg_ahead {ro : Nat → Option (Nat × (Nat → Int32))} {G : Nat → List (Option Value) → List Value → Hp → Prop} {L : Nat} {xs : Nat → Int32} (hR : Rules code "ParcelBallLaw" 12 4 ro G) (hro : ro 45 = some (L, xs)) (hL : L ≤ 3072) {j : Nat} (hj : 6 * j + 6 ≤ L) {σ : Hp} {d : Int} (h : Jx σ d) (hd0 : 0 ≤ d) (hd : d ≤ 30720) (kk : ∀ σ', Jx σ' (d + 60) → G 1366 [some (.ref 45), some (.ref 0), some (.ref 18), some (.int (nI (6 * j)))] [] σ') : G 459 [some (.ref 45), some (.ref 0), some (.ref 18), some (.int (nI (6 * j)))] [] σ := by
  obtain ⟨v, X, c1, c2⟩ := op_ahead (xs (6 * j + 1)) (xs (6 * j + 2)) (xs (6 * j + 3)) h hd0 hd
  refine g_al_1 hR dL_law_459 ?_
  refine g_al_0 hR dL_law_460 ?_
  refine g_il_3 hR dL_law_461 ?_
  refine g_iconst_1 hR dL_law_462 ?_
  refine g_iadd hR dL_law_463 ?_
  refine g_roald hR (6 * j + 1) hro (by omega) (by omega) (nI_add (6 * j) 1) dL_law_464 ?_
  refine g_al_0 hR dL_law_465 ?_
  refine g_il_3 hR dL_law_466 ?_
  refine g_iconst_2 hR dL_law_467 ?_
  refine g_iadd hR dL_law_468 ?_
  refine g_roald hR (6 * j + 2) hro (by omega) (by omega) (nI_add (6 * j) 2) dL_law_469 ?_
  refine g_al_0 hR dL_law_470 ?_
  refine g_il_3 hR dL_law_471 ?_
  refine g_iconst_3 hR dL_law_472 ?_
  refine g_iadd hR dL_law_473 ?_
  refine g_roald hR (6 * j + 3) hro (by omega) (by omega) (nI_add (6 * j) 3) dL_law_474 ?_
  refine g_cvP hR ciX4_ahead dL_law_475 ml_L_52 (Nat.le_of_ble_eq_true rfl) (by decide) rfl rfl rfl (c1) rfl (Nat.le_of_ble_eq_true rfl) rfl (fun σ1 h1 => ?_)
  obtain ⟨M, c3, hM⟩ := c2 σ1 h1
  refine g_al_2 hR dL_law_478 ?_
  refine g_al_0 hR dL_law_479 ?_
  refine g_il_3 hR dL_law_480 ?_
  refine g_iconst_1 hR dL_law_481 ?_
  refine g_iadd hR dL_law_482 ?_
  refine g_roald hR (6 * j + 1) hro (by omega) (by omega) (nI_add (6 * j) 1) dL_law_483 ?_
  refine g_al_0 hR dL_law_484 ?_
  refine g_il_3 hR dL_law_485 ?_
  refine g_iconst_2 hR dL_law_486 ?_
  refine g_iadd hR dL_law_487 ?_
  refine g_roald hR (6 * j + 2) hro (by omega) (by omega) (nI_add (6 * j) 2) dL_law_488 ?_
  refine g_al_0 hR dL_law_489 ?_
  refine g_il_3 hR dL_law_490 ?_
  refine g_iconst_3 hR dL_law_491 ?_
  refine g_iadd hR dL_law_492 ?_
  refine g_roald hR (6 * j + 3) hro (by omega) (by omega) (nI_add (6 * j) 3) dL_law_493 ?_
  refine g_cvP hR ciX5_ahead dL_law_494 ml_L_55 (Nat.le_of_ble_eq_true rfl) (by decide) rfl rfl rfl (c3) rfl (Nat.le_of_ble_eq_true rfl) rfl (fun σ2 h2 => ?_)
  refine g_icmp_eq (tgt := 1366) hR dL_law_497 (by decide) (fun _ => ?_) (fun h_c => absurd (rfl) h_c)
  exact kk σ2 (hM.eb h2)
set_option maxHeartbeats 4000000 in
theorem lg_where {ro : Nat → Option (Nat × (Nat → Int32))} {G : Nat → List (Option Value) → List Value → Hp → Prop} {L : Nat} {xs : Nat → Int32} (hR : Rules code "ParcelBallLaw" 12 4 ro G) (hro : ro 45 = some (L, xs)) (hL : L ≤ 3072) {j : Nat} (hj : 6 * j + 6 ≤ L) {σ : Hp} {d : Int} (h : Jx σ d) (hd0 : 0 ≤ d) (hd : d ≤ 30720) (kk : ∀ σ', Jx σ' (d + 60) → G 1366 [some (.ref 45), some (.ref 0), some (.ref 18), some (.int (nI (6 * j)))] [] σ') : G 502 [some (.ref 45), some (.ref 0), some (.ref 18), some (.int (nI (6 * j)))] [] σ := by
  obtain ⟨v, X, c1, c2⟩ := op_where (xs (6 * j + 1)) h hd0 hd
  refine g_al_1 hR dL_law_502 ?_
  refine g_al_0 hR dL_law_503 ?_
  refine g_il_3 hR dL_law_504 ?_
  refine g_iconst_1 hR dL_law_505 ?_
  refine g_iadd hR dL_law_506 ?_
  refine g_roald hR (6 * j + 1) hro (by omega) (by omega) (nI_add (6 * j) 1) dL_law_507 ?_
  refine g_cvP hR ciX4_where dL_law_508 ml_L_56 (Nat.le_of_ble_eq_true rfl) (by decide) rfl rfl rfl (c1) rfl (Nat.le_of_ble_eq_true rfl) rfl (fun σ1 h1 => ?_)
  obtain ⟨M, c3, hM⟩ := c2 σ1 h1
  refine g_al_2 hR dL_law_511 ?_
  refine g_al_0 hR dL_law_512 ?_
  refine g_il_3 hR dL_law_513 ?_
  refine g_iconst_1 hR dL_law_514 ?_
  refine g_iadd hR dL_law_515 ?_
  refine g_roald hR (6 * j + 1) hro (by omega) (by omega) (nI_add (6 * j) 1) dL_law_516 ?_
  refine g_cvP hR ciX5_where dL_law_517 ml_L_59 (Nat.le_of_ble_eq_true rfl) (by decide) rfl rfl rfl (c3) rfl (Nat.le_of_ble_eq_true rfl) rfl (fun σ2 h2 => ?_)
  refine g_icmp_eq (tgt := 1366) hR dL_law_520 (by decide) (fun _ => ?_) (fun h_c => absurd (rfl) h_c)
  exact kk σ2 (hM.eb h2)
set_option maxHeartbeats 4000000 in
theorem lg_when {ro : Nat → Option (Nat × (Nat → Int32))} {G : Nat → List (Option Value) → List Value → Hp → Prop} {L : Nat} {xs : Nat → Int32} (hR : Rules code "ParcelBallLaw" 12 4 ro G) (hro : ro 45 = some (L, xs)) (hL : L ≤ 3072) {j : Nat} (hj : 6 * j + 6 ≤ L) {σ : Hp} {d : Int} (h : Jx σ d) (hd0 : 0 ≤ d) (hd : d ≤ 30720) (kk : ∀ σ', Jx σ' (d + 60) → G 1366 [some (.ref 45), some (.ref 0), some (.ref 18), some (.int (nI (6 * j)))] [] σ') : G 525 [some (.ref 45), some (.ref 0), some (.ref 18), some (.int (nI (6 * j)))] [] σ := by
  obtain ⟨v, X, c1, c2⟩ := op_when (xs (6 * j + 1)) h hd0 hd
  refine g_al_1 hR dL_law_525 ?_
  refine g_al_0 hR dL_law_526 ?_
  refine g_il_3 hR dL_law_527 ?_
  refine g_iconst_1 hR dL_law_528 ?_
  refine g_iadd hR dL_law_529 ?_
  refine g_roald hR (6 * j + 1) hro (by omega) (by omega) (nI_add (6 * j) 1) dL_law_530 ?_
  refine g_cvP hR ciX4_when dL_law_531 ml_L_60 (Nat.le_of_ble_eq_true rfl) (by decide) rfl rfl rfl (c1) rfl (Nat.le_of_ble_eq_true rfl) rfl (fun σ1 h1 => ?_)
  obtain ⟨M, c3, hM⟩ := c2 σ1 h1
  refine g_al_2 hR dL_law_534 ?_
  refine g_al_0 hR dL_law_535 ?_
  refine g_il_3 hR dL_law_536 ?_
  refine g_iconst_1 hR dL_law_537 ?_
  refine g_iadd hR dL_law_538 ?_
  refine g_roald hR (6 * j + 1) hro (by omega) (by omega) (nI_add (6 * j) 1) dL_law_539 ?_
  refine g_cvP hR ciX5_when dL_law_540 ml_L_63 (Nat.le_of_ble_eq_true rfl) (by decide) rfl rfl rfl (c3) rfl (Nat.le_of_ble_eq_true rfl) rfl (fun σ2 h2 => ?_)
  refine g_icmp_eq (tgt := 1366) hR dL_law_543 (by decide) (fun _ => ?_) (fun h_c => absurd (rfl) h_c)
  exact kk σ2 (hM.eb h2)
set_option maxHeartbeats 4000000 in
theorem lg_comes {ro : Nat → Option (Nat × (Nat → Int32))} {G : Nat → List (Option Value) → List Value → Hp → Prop} {L : Nat} {xs : Nat → Int32} (hR : Rules code "ParcelBallLaw" 12 4 ro G) (hro : ro 45 = some (L, xs)) (hL : L ≤ 3072) {j : Nat} (hj : 6 * j + 6 ≤ L) {σ : Hp} {d : Int} (h : Jx σ d) (hd0 : 0 ≤ d) (hd : d ≤ 30720) (kk : ∀ σ', Jx σ' (d + 60) → G 1366 [some (.ref 45), some (.ref 0), some (.ref 18), some (.int (nI (6 * j)))] [] σ') : G 548 [some (.ref 45), some (.ref 0), some (.ref 18), some (.int (nI (6 * j)))] [] σ := by
  obtain ⟨v, X, c1, c2⟩ := op_comes (xs (6 * j + 1)) h hd0 hd
  refine g_al_1 hR dL_law_548 ?_
  refine g_al_0 hR dL_law_549 ?_
  refine g_il_3 hR dL_law_550 ?_
  refine g_iconst_1 hR dL_law_551 ?_
  refine g_iadd hR dL_law_552 ?_
  refine g_roald hR (6 * j + 1) hro (by omega) (by omega) (nI_add (6 * j) 1) dL_law_553 ?_
  refine g_cvP hR ciX4_comes dL_law_554 ml_L_64 (Nat.le_of_ble_eq_true rfl) (by decide) rfl rfl rfl (c1) rfl (Nat.le_of_ble_eq_true rfl) rfl (fun σ1 h1 => ?_)
  obtain ⟨M, c3, hM⟩ := c2 σ1 h1
  refine g_al_2 hR dL_law_557 ?_
  refine g_al_0 hR dL_law_558 ?_
  refine g_il_3 hR dL_law_559 ?_
  refine g_iconst_1 hR dL_law_560 ?_
  refine g_iadd hR dL_law_561 ?_
  refine g_roald hR (6 * j + 1) hro (by omega) (by omega) (nI_add (6 * j) 1) dL_law_562 ?_
  refine g_cvP hR ciX5_comes dL_law_563 ml_L_67 (Nat.le_of_ble_eq_true rfl) (by decide) rfl rfl rfl (c3) rfl (Nat.le_of_ble_eq_true rfl) rfl (fun σ2 h2 => ?_)
  refine g_icmp_eq (tgt := 1366) hR dL_law_566 (by decide) (fun _ => ?_) (fun h_c => absurd (rfl) h_c)
  exact kk σ2 (hM.eb h2)
set_option maxHeartbeats 4000000 in
theorem lg_off {ro : Nat → Option (Nat × (Nat → Int32))} {G : Nat → List (Option Value) → List Value → Hp → Prop} {L : Nat} {xs : Nat → Int32} (hR : Rules code "ParcelBallLaw" 12 4 ro G) (hro : ro 45 = some (L, xs)) (hL : L ≤ 3072) {j : Nat} (hj : 6 * j + 6 ≤ L) {σ : Hp} {d : Int} (h : Jx σ d) (hd0 : 0 ≤ d) (hd : d ≤ 30720) (kk : ∀ σ', Jx σ' (d + 60) → G 1366 [some (.ref 45), some (.ref 0), some (.ref 18), some (.int (nI (6 * j)))] [] σ') : G 571 [some (.ref 45), some (.ref 0), some (.ref 18), some (.int (nI (6 * j)))] [] σ := by
  obtain ⟨v, X, c1, c2⟩ := op_off h hd0 hd
  refine g_al_1 hR dL_law_571 ?_
  refine g_cvP hR ciX4_off dL_law_572 ml_L_68 (Nat.le_of_ble_eq_true rfl) (by decide) rfl rfl rfl (c1) rfl (Nat.le_of_ble_eq_true rfl) rfl (fun σ1 h1 => ?_)
  obtain ⟨M, c3, hM⟩ := c2 σ1 h1
  refine g_al_2 hR dL_law_575 ?_
  refine g_cvP hR ciX5_off dL_law_576 ml_L_72 (Nat.le_of_ble_eq_true rfl) (by decide) rfl rfl rfl (c3) rfl (Nat.le_of_ble_eq_true rfl) rfl (fun σ2 h2 => ?_)
  refine g_icmp_eq (tgt := 1366) hR dL_law_579 (by decide) (fun _ => ?_) (fun h_c => absurd (rfl) h_c)
  exact kk σ2 (hM.eb h2)
set_option maxHeartbeats 4000000 in
theorem lg_unwind {ro : Nat → Option (Nat × (Nat → Int32))} {G : Nat → List (Option Value) → List Value → Hp → Prop} {L : Nat} {xs : Nat → Int32} (hR : Rules code "ParcelBallLaw" 12 4 ro G) (hro : ro 45 = some (L, xs)) (hL : L ≤ 3072) {j : Nat} (hj : 6 * j + 6 ≤ L) {σ : Hp} {d : Int} (h : Jx σ d) (hd0 : 0 ≤ d) (hd : d ≤ 30720) (kk : ∀ σ', Jx σ' (d + 60) → G 1366 [some (.ref 45), some (.ref 0), some (.ref 18), some (.int (nI (6 * j)))] [] σ') : G 584 [some (.ref 45), some (.ref 0), some (.ref 18), some (.int (nI (6 * j)))] [] σ := by
  obtain ⟨v, X, c1, c2⟩ := op_unwind (xs (6 * j + 1)) h hd0 hd
  refine g_al_1 hR dL_law_584 ?_
  refine g_al_0 hR dL_law_585 ?_
  refine g_il_3 hR dL_law_586 ?_
  refine g_iconst_1 hR dL_law_587 ?_
  refine g_iadd hR dL_law_588 ?_
  refine g_roald hR (6 * j + 1) hro (by omega) (by omega) (nI_add (6 * j) 1) dL_law_589 ?_
  refine g_cvP hR ciX4_unwind dL_law_590 ml_L_73 (Nat.le_of_ble_eq_true rfl) (by decide) rfl rfl rfl (c1) rfl (Nat.le_of_ble_eq_true rfl) rfl (fun σ1 h1 => ?_)
  obtain ⟨M, c3, hM⟩ := c2 σ1 h1
  refine g_al_2 hR dL_law_593 ?_
  refine g_al_0 hR dL_law_594 ?_
  refine g_il_3 hR dL_law_595 ?_
  refine g_iconst_1 hR dL_law_596 ?_
  refine g_iadd hR dL_law_597 ?_
  refine g_roald hR (6 * j + 1) hro (by omega) (by omega) (nI_add (6 * j) 1) dL_law_598 ?_
  refine g_cvP hR ciX5_unwind dL_law_599 ml_L_76 (Nat.le_of_ble_eq_true rfl) (by decide) rfl rfl rfl (c3) rfl (Nat.le_of_ble_eq_true rfl) rfl (fun σ2 h2 => ?_)
  refine g_icmp_eq (tgt := 1366) hR dL_law_602 (by decide) (fun _ => ?_) (fun h_c => absurd (rfl) h_c)
  exact kk σ2 (hM.eb h2)
set_option maxHeartbeats 4000000 in
theorem lg_had {ro : Nat → Option (Nat × (Nat → Int32))} {G : Nat → List (Option Value) → List Value → Hp → Prop} {L : Nat} {xs : Nat → Int32} (hR : Rules code "ParcelBallLaw" 12 4 ro G) (hro : ro 45 = some (L, xs)) (hL : L ≤ 3072) {j : Nat} (hj : 6 * j + 6 ≤ L) {σ : Hp} {d : Int} (h : Jx σ d) (hd0 : 0 ≤ d) (hd : d ≤ 30720) (kk : ∀ σ', Jx σ' (d + 60) → G 1366 [some (.ref 45), some (.ref 0), some (.ref 18), some (.int (nI (6 * j)))] [] σ') : G 607 [some (.ref 45), some (.ref 0), some (.ref 18), some (.int (nI (6 * j)))] [] σ := by
  obtain ⟨v, X, c1, c2⟩ := op_had (xs (6 * j + 1)) h hd0 hd
  refine g_al_1 hR dL_law_607 ?_
  refine g_al_0 hR dL_law_608 ?_
  refine g_il_3 hR dL_law_609 ?_
  refine g_iconst_1 hR dL_law_610 ?_
  refine g_iadd hR dL_law_611 ?_
  refine g_roald hR (6 * j + 1) hro (by omega) (by omega) (nI_add (6 * j) 1) dL_law_612 ?_
  refine g_cvP hR ciX4_had dL_law_613 ml_L_77 (Nat.le_of_ble_eq_true rfl) (by decide) rfl rfl rfl (c1) rfl (Nat.le_of_ble_eq_true rfl) rfl (fun σ1 h1 => ?_)
  obtain ⟨M, c3, hM⟩ := c2 σ1 h1
  refine g_al_2 hR dL_law_616 ?_
  refine g_al_0 hR dL_law_617 ?_
  refine g_il_3 hR dL_law_618 ?_
  refine g_iconst_1 hR dL_law_619 ?_
  refine g_iadd hR dL_law_620 ?_
  refine g_roald hR (6 * j + 1) hro (by omega) (by omega) (nI_add (6 * j) 1) dL_law_621 ?_
  refine g_cvP hR ciX5_had dL_law_622 ml_L_80 (Nat.le_of_ble_eq_true rfl) (by decide) rfl rfl rfl (c3) rfl (Nat.le_of_ble_eq_true rfl) rfl (fun σ2 h2 => ?_)
  refine g_icmp_eq (tgt := 1366) hR dL_law_625 (by decide) (fun _ => ?_) (fun h_c => absurd (rfl) h_c)
  exact kk σ2 (hM.eb h2)
set_option maxHeartbeats 4000000 in
theorem lg_drawTo {ro : Nat → Option (Nat × (Nat → Int32))} {G : Nat → List (Option Value) → List Value → Hp → Prop} {L : Nat} {xs : Nat → Int32} (hR : Rules code "ParcelBallLaw" 12 4 ro G) (hro : ro 45 = some (L, xs)) (hL : L ≤ 3072) {j : Nat} (hj : 6 * j + 6 ≤ L) {σ : Hp} {d : Int} (h : Jx σ d) (hd0 : 0 ≤ d) (hd : d ≤ 30720) (kk : ∀ σ', Jx σ' (d + 60) → G 1366 [some (.ref 45), some (.ref 0), some (.ref 18), some (.int (nI (6 * j)))] [] σ') : G 630 [some (.ref 45), some (.ref 0), some (.ref 18), some (.int (nI (6 * j)))] [] σ := by
  obtain ⟨v, X, c1, c2⟩ := op_drawTo (xs (6 * j + 1)) (xs (6 * j + 2)) (xs (6 * j + 3)) h hd0 hd
  refine g_al_1 hR dL_law_630 ?_
  refine g_al_0 hR dL_law_631 ?_
  refine g_il_3 hR dL_law_632 ?_
  refine g_iconst_1 hR dL_law_633 ?_
  refine g_iadd hR dL_law_634 ?_
  refine g_roald hR (6 * j + 1) hro (by omega) (by omega) (nI_add (6 * j) 1) dL_law_635 ?_
  refine g_al_0 hR dL_law_636 ?_
  refine g_il_3 hR dL_law_637 ?_
  refine g_iconst_2 hR dL_law_638 ?_
  refine g_iadd hR dL_law_639 ?_
  refine g_roald hR (6 * j + 2) hro (by omega) (by omega) (nI_add (6 * j) 2) dL_law_640 ?_
  refine g_al_0 hR dL_law_641 ?_
  refine g_il_3 hR dL_law_642 ?_
  refine g_iconst_3 hR dL_law_643 ?_
  refine g_iadd hR dL_law_644 ?_
  refine g_roald hR (6 * j + 3) hro (by omega) (by omega) (nI_add (6 * j) 3) dL_law_645 ?_
  refine g_cvP hR ciX4_drawTo dL_law_646 ml_L_81 (Nat.le_of_ble_eq_true rfl) (by decide) rfl rfl rfl (c1) rfl (Nat.le_of_ble_eq_true rfl) rfl (fun σ1 h1 => ?_)
  obtain ⟨M, c3, hM⟩ := c2 σ1 h1
  refine g_al_2 hR dL_law_649 ?_
  refine g_al_0 hR dL_law_650 ?_
  refine g_il_3 hR dL_law_651 ?_
  refine g_iconst_1 hR dL_law_652 ?_
  refine g_iadd hR dL_law_653 ?_
  refine g_roald hR (6 * j + 1) hro (by omega) (by omega) (nI_add (6 * j) 1) dL_law_654 ?_
  refine g_al_0 hR dL_law_655 ?_
  refine g_il_3 hR dL_law_656 ?_
  refine g_iconst_2 hR dL_law_657 ?_
  refine g_iadd hR dL_law_658 ?_
  refine g_roald hR (6 * j + 2) hro (by omega) (by omega) (nI_add (6 * j) 2) dL_law_659 ?_
  refine g_al_0 hR dL_law_660 ?_
  refine g_il_3 hR dL_law_661 ?_
  refine g_iconst_3 hR dL_law_662 ?_
  refine g_iadd hR dL_law_663 ?_
  refine g_roald hR (6 * j + 3) hro (by omega) (by omega) (nI_add (6 * j) 3) dL_law_664 ?_
  refine g_cvP hR ciX5_drawTo dL_law_665 ml_L_84 (Nat.le_of_ble_eq_true rfl) (by decide) rfl rfl rfl (c3) rfl (Nat.le_of_ble_eq_true rfl) rfl (fun σ2 h2 => ?_)
  refine g_icmp_eq (tgt := 1366) hR dL_law_668 (by decide) (fun _ => ?_) (fun h_c => absurd (rfl) h_c)
  exact kk σ2 (hM.eb h2)
set_option maxHeartbeats 4000000 in
theorem lg_longFor {ro : Nat → Option (Nat × (Nat → Int32))} {G : Nat → List (Option Value) → List Value → Hp → Prop} {L : Nat} {xs : Nat → Int32} (hR : Rules code "ParcelBallLaw" 12 4 ro G) (hro : ro 45 = some (L, xs)) (hL : L ≤ 3072) {j : Nat} (hj : 6 * j + 6 ≤ L) {σ : Hp} {d : Int} (h : Jx σ d) (hd0 : 0 ≤ d) (hd : d ≤ 30720) (kk : ∀ σ', Jx σ' (d + 60) → G 1366 [some (.ref 45), some (.ref 0), some (.ref 18), some (.int (nI (6 * j)))] [] σ') : G 673 [some (.ref 45), some (.ref 0), some (.ref 18), some (.int (nI (6 * j)))] [] σ := by
  obtain ⟨v, X, c1, c2⟩ := op_longFor (xs (6 * j + 1)) (xs (6 * j + 2)) (xs (6 * j + 3)) h hd0 hd
  refine g_al_1 hR dL_law_673 ?_
  refine g_al_0 hR dL_law_674 ?_
  refine g_il_3 hR dL_law_675 ?_
  refine g_iconst_1 hR dL_law_676 ?_
  refine g_iadd hR dL_law_677 ?_
  refine g_roald hR (6 * j + 1) hro (by omega) (by omega) (nI_add (6 * j) 1) dL_law_678 ?_
  refine g_al_0 hR dL_law_679 ?_
  refine g_il_3 hR dL_law_680 ?_
  refine g_iconst_2 hR dL_law_681 ?_
  refine g_iadd hR dL_law_682 ?_
  refine g_roald hR (6 * j + 2) hro (by omega) (by omega) (nI_add (6 * j) 2) dL_law_683 ?_
  refine g_al_0 hR dL_law_684 ?_
  refine g_il_3 hR dL_law_685 ?_
  refine g_iconst_3 hR dL_law_686 ?_
  refine g_iadd hR dL_law_687 ?_
  refine g_roald hR (6 * j + 3) hro (by omega) (by omega) (nI_add (6 * j) 3) dL_law_688 ?_
  refine g_cvP hR ciX4_longFor dL_law_689 ml_L_85 (Nat.le_of_ble_eq_true rfl) (by decide) rfl rfl rfl (c1) rfl (Nat.le_of_ble_eq_true rfl) rfl (fun σ1 h1 => ?_)
  obtain ⟨M, c3, hM⟩ := c2 σ1 h1
  refine g_al_2 hR dL_law_692 ?_
  refine g_al_0 hR dL_law_693 ?_
  refine g_il_3 hR dL_law_694 ?_
  refine g_iconst_1 hR dL_law_695 ?_
  refine g_iadd hR dL_law_696 ?_
  refine g_roald hR (6 * j + 1) hro (by omega) (by omega) (nI_add (6 * j) 1) dL_law_697 ?_
  refine g_al_0 hR dL_law_698 ?_
  refine g_il_3 hR dL_law_699 ?_
  refine g_iconst_2 hR dL_law_700 ?_
  refine g_iadd hR dL_law_701 ?_
  refine g_roald hR (6 * j + 2) hro (by omega) (by omega) (nI_add (6 * j) 2) dL_law_702 ?_
  refine g_al_0 hR dL_law_703 ?_
  refine g_il_3 hR dL_law_704 ?_
  refine g_iconst_3 hR dL_law_705 ?_
  refine g_iadd hR dL_law_706 ?_
  refine g_roald hR (6 * j + 3) hro (by omega) (by omega) (nI_add (6 * j) 3) dL_law_707 ?_
  refine g_cvP hR ciX5_longFor dL_law_708 ml_L_88 (Nat.le_of_ble_eq_true rfl) (by decide) rfl rfl rfl (c3) rfl (Nat.le_of_ble_eq_true rfl) rfl (fun σ2 h2 => ?_)
  refine g_icmp_eq (tgt := 1366) hR dL_law_711 (by decide) (fun _ => ?_) (fun h_c => absurd (rfl) h_c)
  exact kk σ2 (hM.eb h2)
set_option maxHeartbeats 4000000 in
theorem lg_kindFor {ro : Nat → Option (Nat × (Nat → Int32))} {G : Nat → List (Option Value) → List Value → Hp → Prop} {L : Nat} {xs : Nat → Int32} (hR : Rules code "ParcelBallLaw" 12 4 ro G) (hro : ro 45 = some (L, xs)) (hL : L ≤ 3072) {j : Nat} (hj : 6 * j + 6 ≤ L) {σ : Hp} {d : Int} (h : Jx σ d) (hd0 : 0 ≤ d) (hd : d ≤ 30720) (kk : ∀ σ', Jx σ' (d + 60) → G 1366 [some (.ref 45), some (.ref 0), some (.ref 18), some (.int (nI (6 * j)))] [] σ') : G 716 [some (.ref 45), some (.ref 0), some (.ref 18), some (.int (nI (6 * j)))] [] σ := by
  obtain ⟨v, X, c1, c2⟩ := op_kindFor (xs (6 * j + 1)) (xs (6 * j + 2)) h hd0 hd
  refine g_al_1 hR dL_law_716 ?_
  refine g_al_0 hR dL_law_717 ?_
  refine g_il_3 hR dL_law_718 ?_
  refine g_iconst_1 hR dL_law_719 ?_
  refine g_iadd hR dL_law_720 ?_
  refine g_roald hR (6 * j + 1) hro (by omega) (by omega) (nI_add (6 * j) 1) dL_law_721 ?_
  refine g_al_0 hR dL_law_722 ?_
  refine g_il_3 hR dL_law_723 ?_
  refine g_iconst_2 hR dL_law_724 ?_
  refine g_iadd hR dL_law_725 ?_
  refine g_roald hR (6 * j + 2) hro (by omega) (by omega) (nI_add (6 * j) 2) dL_law_726 ?_
  refine g_cvP hR ciX4_kindFor dL_law_727 ml_L_89 (Nat.le_of_ble_eq_true rfl) (by decide) rfl rfl rfl (c1) rfl (Nat.le_of_ble_eq_true rfl) rfl (fun σ1 h1 => ?_)
  obtain ⟨M, c3, hM⟩ := c2 σ1 h1
  refine g_al_2 hR dL_law_730 ?_
  refine g_al_0 hR dL_law_731 ?_
  refine g_il_3 hR dL_law_732 ?_
  refine g_iconst_1 hR dL_law_733 ?_
  refine g_iadd hR dL_law_734 ?_
  refine g_roald hR (6 * j + 1) hro (by omega) (by omega) (nI_add (6 * j) 1) dL_law_735 ?_
  refine g_al_0 hR dL_law_736 ?_
  refine g_il_3 hR dL_law_737 ?_
  refine g_iconst_2 hR dL_law_738 ?_
  refine g_iadd hR dL_law_739 ?_
  refine g_roald hR (6 * j + 2) hro (by omega) (by omega) (nI_add (6 * j) 2) dL_law_740 ?_
  refine g_cvP hR ciX5_kindFor dL_law_741 ml_L_92 (Nat.le_of_ble_eq_true rfl) (by decide) rfl rfl rfl (c3) rfl (Nat.le_of_ble_eq_true rfl) rfl (fun σ2 h2 => ?_)
  refine g_icmp_eq (tgt := 1366) hR dL_law_744 (by decide) (fun _ => ?_) (fun h_c => absurd (rfl) h_c)
  exact kk σ2 (hM.eb h2)
set_option maxHeartbeats 4000000 in
theorem lg_dragFor {ro : Nat → Option (Nat × (Nat → Int32))} {G : Nat → List (Option Value) → List Value → Hp → Prop} {L : Nat} {xs : Nat → Int32} (hR : Rules code "ParcelBallLaw" 12 4 ro G) (hro : ro 45 = some (L, xs)) (hL : L ≤ 3072) {j : Nat} (hj : 6 * j + 6 ≤ L) {σ : Hp} {d : Int} (h : Jx σ d) (hd0 : 0 ≤ d) (hd : d ≤ 30720) (kk : ∀ σ', Jx σ' (d + 60) → G 1366 [some (.ref 45), some (.ref 0), some (.ref 18), some (.int (nI (6 * j)))] [] σ') : G 749 [some (.ref 45), some (.ref 0), some (.ref 18), some (.int (nI (6 * j)))] [] σ := by
  obtain ⟨v, X, c1, c2⟩ := op_dragFor (xs (6 * j + 1)) (xs (6 * j + 2)) h hd0 hd
  refine g_al_1 hR dL_law_749 ?_
  refine g_al_0 hR dL_law_750 ?_
  refine g_il_3 hR dL_law_751 ?_
  refine g_iconst_1 hR dL_law_752 ?_
  refine g_iadd hR dL_law_753 ?_
  refine g_roald hR (6 * j + 1) hro (by omega) (by omega) (nI_add (6 * j) 1) dL_law_754 ?_
  refine g_al_0 hR dL_law_755 ?_
  refine g_il_3 hR dL_law_756 ?_
  refine g_iconst_2 hR dL_law_757 ?_
  refine g_iadd hR dL_law_758 ?_
  refine g_roald hR (6 * j + 2) hro (by omega) (by omega) (nI_add (6 * j) 2) dL_law_759 ?_
  refine g_cvP hR ciX4_dragFor dL_law_760 ml_L_93 (Nat.le_of_ble_eq_true rfl) (by decide) rfl rfl rfl (c1) rfl (Nat.le_of_ble_eq_true rfl) rfl (fun σ1 h1 => ?_)
  obtain ⟨M, c3, hM⟩ := c2 σ1 h1
  refine g_al_2 hR dL_law_763 ?_
  refine g_al_0 hR dL_law_764 ?_
  refine g_il_3 hR dL_law_765 ?_
  refine g_iconst_1 hR dL_law_766 ?_
  refine g_iadd hR dL_law_767 ?_
  refine g_roald hR (6 * j + 1) hro (by omega) (by omega) (nI_add (6 * j) 1) dL_law_768 ?_
  refine g_al_0 hR dL_law_769 ?_
  refine g_il_3 hR dL_law_770 ?_
  refine g_iconst_2 hR dL_law_771 ?_
  refine g_iadd hR dL_law_772 ?_
  refine g_roald hR (6 * j + 2) hro (by omega) (by omega) (nI_add (6 * j) 2) dL_law_773 ?_
  refine g_cvP hR ciX5_dragFor dL_law_774 ml_L_96 (Nat.le_of_ble_eq_true rfl) (by decide) rfl rfl rfl (c3) rfl (Nat.le_of_ble_eq_true rfl) rfl (fun σ2 h2 => ?_)
  refine g_icmp_eq (tgt := 1366) hR dL_law_777 (by decide) (fun _ => ?_) (fun h_c => absurd (rfl) h_c)
  exact kk σ2 (hM.eb h2)
set_option maxHeartbeats 4000000 in
theorem lg_loosen {ro : Nat → Option (Nat × (Nat → Int32))} {G : Nat → List (Option Value) → List Value → Hp → Prop} {L : Nat} {xs : Nat → Int32} (hR : Rules code "ParcelBallLaw" 12 4 ro G) (hro : ro 45 = some (L, xs)) (hL : L ≤ 3072) {j : Nat} (hj : 6 * j + 6 ≤ L) {σ : Hp} {d : Int} (h : Jx σ d) (hd0 : 0 ≤ d) (hd : d ≤ 30720) (kk : ∀ σ', Jx σ' (d + 60) → G 1366 [some (.ref 45), some (.ref 0), some (.ref 18), some (.int (nI (6 * j)))] [] σ') : G 782 [some (.ref 45), some (.ref 0), some (.ref 18), some (.int (nI (6 * j)))] [] σ := by
  obtain ⟨v, X, c1, c2⟩ := op_loosen (xs (6 * j + 1)) (xs (6 * j + 2)) h hd0 hd
  refine g_al_1 hR dL_law_782 ?_
  refine g_al_0 hR dL_law_783 ?_
  refine g_il_3 hR dL_law_784 ?_
  refine g_iconst_1 hR dL_law_785 ?_
  refine g_iadd hR dL_law_786 ?_
  refine g_roald hR (6 * j + 1) hro (by omega) (by omega) (nI_add (6 * j) 1) dL_law_787 ?_
  refine g_al_0 hR dL_law_788 ?_
  refine g_il_3 hR dL_law_789 ?_
  refine g_iconst_2 hR dL_law_790 ?_
  refine g_iadd hR dL_law_791 ?_
  refine g_roald hR (6 * j + 2) hro (by omega) (by omega) (nI_add (6 * j) 2) dL_law_792 ?_
  refine g_cvP hR ciX4_loosen dL_law_793 ml_L_97 (Nat.le_of_ble_eq_true rfl) (by decide) rfl rfl rfl (c1) rfl (Nat.le_of_ble_eq_true rfl) rfl (fun σ1 h1 => ?_)
  obtain ⟨M, c3, hM⟩ := c2 σ1 h1
  refine g_al_2 hR dL_law_796 ?_
  refine g_al_0 hR dL_law_797 ?_
  refine g_il_3 hR dL_law_798 ?_
  refine g_iconst_1 hR dL_law_799 ?_
  refine g_iadd hR dL_law_800 ?_
  refine g_roald hR (6 * j + 1) hro (by omega) (by omega) (nI_add (6 * j) 1) dL_law_801 ?_
  refine g_al_0 hR dL_law_802 ?_
  refine g_il_3 hR dL_law_803 ?_
  refine g_iconst_2 hR dL_law_804 ?_
  refine g_iadd hR dL_law_805 ?_
  refine g_roald hR (6 * j + 2) hro (by omega) (by omega) (nI_add (6 * j) 2) dL_law_806 ?_
  refine g_cvP hR ciX5_loosen dL_law_807 ml_L_100 (Nat.le_of_ble_eq_true rfl) (by decide) rfl rfl rfl (c3) rfl (Nat.le_of_ble_eq_true rfl) rfl (fun σ2 h2 => ?_)
  refine g_icmp_eq (tgt := 1366) hR dL_law_810 (by decide) (fun _ => ?_) (fun h_c => absurd (rfl) h_c)
  exact kk σ2 (hM.eb h2)
set_option maxHeartbeats 4000000 in
theorem lg_fits {ro : Nat → Option (Nat × (Nat → Int32))} {G : Nat → List (Option Value) → List Value → Hp → Prop} {L : Nat} {xs : Nat → Int32} (hR : Rules code "ParcelBallLaw" 12 4 ro G) (hro : ro 45 = some (L, xs)) (hL : L ≤ 3072) {j : Nat} (hj : 6 * j + 6 ≤ L) {σ : Hp} {d : Int} (h : Jx σ d) (hd0 : 0 ≤ d) (hd : d ≤ 30720) (kk : ∀ σ', Jx σ' (d + 60) → G 1366 [some (.ref 45), some (.ref 0), some (.ref 18), some (.int (nI (6 * j)))] [] σ') : G 815 [some (.ref 45), some (.ref 0), some (.ref 18), some (.int (nI (6 * j)))] [] σ := by
  obtain ⟨v, X, c1, c2⟩ := op_fits (xs (6 * j + 1)) (xs (6 * j + 2)) h hd0 hd
  refine g_al_1 hR dL_law_815 ?_
  refine g_al_0 hR dL_law_816 ?_
  refine g_il_3 hR dL_law_817 ?_
  refine g_iconst_1 hR dL_law_818 ?_
  refine g_iadd hR dL_law_819 ?_
  refine g_roald hR (6 * j + 1) hro (by omega) (by omega) (nI_add (6 * j) 1) dL_law_820 ?_
  refine g_al_0 hR dL_law_821 ?_
  refine g_il_3 hR dL_law_822 ?_
  refine g_iconst_2 hR dL_law_823 ?_
  refine g_iadd hR dL_law_824 ?_
  refine g_roald hR (6 * j + 2) hro (by omega) (by omega) (nI_add (6 * j) 2) dL_law_825 ?_
  refine g_cvP hR ciX4_fits dL_law_826 ml_L_101 (Nat.le_of_ble_eq_true rfl) (by decide) rfl rfl rfl (c1) rfl (Nat.le_of_ble_eq_true rfl) rfl (fun σ1 h1 => ?_)
  obtain ⟨M, c3, hM⟩ := c2 σ1 h1
  refine g_al_2 hR dL_law_829 ?_
  refine g_al_0 hR dL_law_830 ?_
  refine g_il_3 hR dL_law_831 ?_
  refine g_iconst_1 hR dL_law_832 ?_
  refine g_iadd hR dL_law_833 ?_
  refine g_roald hR (6 * j + 1) hro (by omega) (by omega) (nI_add (6 * j) 1) dL_law_834 ?_
  refine g_al_0 hR dL_law_835 ?_
  refine g_il_3 hR dL_law_836 ?_
  refine g_iconst_2 hR dL_law_837 ?_
  refine g_iadd hR dL_law_838 ?_
  refine g_roald hR (6 * j + 2) hro (by omega) (by omega) (nI_add (6 * j) 2) dL_law_839 ?_
  refine g_cvP hR ciX5_fits dL_law_840 ml_L_104 (Nat.le_of_ble_eq_true rfl) (by decide) rfl rfl rfl (c3) rfl (Nat.le_of_ble_eq_true rfl) rfl (fun σ2 h2 => ?_)
  refine g_icmp_eq (tgt := 1366) hR dL_law_843 (by decide) (fun _ => ?_) (fun h_c => absurd (rfl) h_c)
  exact kk σ2 (hM.eb h2)
set_option maxHeartbeats 4000000 in
theorem lg_kinds {ro : Nat → Option (Nat × (Nat → Int32))} {G : Nat → List (Option Value) → List Value → Hp → Prop} {L : Nat} {xs : Nat → Int32} (hR : Rules code "ParcelBallLaw" 12 4 ro G) (hro : ro 45 = some (L, xs)) (hL : L ≤ 3072) {j : Nat} (hj : 6 * j + 6 ≤ L) {σ : Hp} {d : Int} (h : Jx σ d) (hd0 : 0 ≤ d) (hd : d ≤ 30720) (kk : ∀ σ', Jx σ' (d + 60) → G 1366 [some (.ref 45), some (.ref 0), some (.ref 18), some (.int (nI (6 * j)))] [] σ') : G 848 [some (.ref 45), some (.ref 0), some (.ref 18), some (.int (nI (6 * j)))] [] σ := by
  obtain ⟨v, X, c1, c2⟩ := op_kinds (xs (6 * j + 1)) (xs (6 * j + 2)) h hd0 hd
  refine g_al_1 hR dL_law_848 ?_
  refine g_al_0 hR dL_law_849 ?_
  refine g_il_3 hR dL_law_850 ?_
  refine g_iconst_1 hR dL_law_851 ?_
  refine g_iadd hR dL_law_852 ?_
  refine g_roald hR (6 * j + 1) hro (by omega) (by omega) (nI_add (6 * j) 1) dL_law_853 ?_
  refine g_al_0 hR dL_law_854 ?_
  refine g_il_3 hR dL_law_855 ?_
  refine g_iconst_2 hR dL_law_856 ?_
  refine g_iadd hR dL_law_857 ?_
  refine g_roald hR (6 * j + 2) hro (by omega) (by omega) (nI_add (6 * j) 2) dL_law_858 ?_
  refine g_cvP hR ciX4_kinds dL_law_859 ml_L_105 (Nat.le_of_ble_eq_true rfl) (by decide) rfl rfl rfl (c1) rfl (Nat.le_of_ble_eq_true rfl) rfl (fun σ1 h1 => ?_)
  obtain ⟨M, c3, hM⟩ := c2 σ1 h1
  refine g_al_2 hR dL_law_862 ?_
  refine g_al_0 hR dL_law_863 ?_
  refine g_il_3 hR dL_law_864 ?_
  refine g_iconst_1 hR dL_law_865 ?_
  refine g_iadd hR dL_law_866 ?_
  refine g_roald hR (6 * j + 1) hro (by omega) (by omega) (nI_add (6 * j) 1) dL_law_867 ?_
  refine g_al_0 hR dL_law_868 ?_
  refine g_il_3 hR dL_law_869 ?_
  refine g_iconst_2 hR dL_law_870 ?_
  refine g_iadd hR dL_law_871 ?_
  refine g_roald hR (6 * j + 2) hro (by omega) (by omega) (nI_add (6 * j) 2) dL_law_872 ?_
  refine g_cvP hR ciX5_kinds dL_law_873 ml_L_108 (Nat.le_of_ble_eq_true rfl) (by decide) rfl rfl rfl (c3) rfl (Nat.le_of_ble_eq_true rfl) rfl (fun σ2 h2 => ?_)
  refine g_icmp_eq (tgt := 1366) hR dL_law_876 (by decide) (fun _ => ?_) (fun h_c => absurd (rfl) h_c)
  exact kk σ2 (hM.eb h2)
set_option maxHeartbeats 4000000 in
theorem lg_parcels {ro : Nat → Option (Nat × (Nat → Int32))} {G : Nat → List (Option Value) → List Value → Hp → Prop} {L : Nat} {xs : Nat → Int32} (hR : Rules code "ParcelBallLaw" 12 4 ro G) (hro : ro 45 = some (L, xs)) (hL : L ≤ 3072) {j : Nat} (hj : 6 * j + 6 ≤ L) {σ : Hp} {d : Int} (h : Jx σ d) (hd0 : 0 ≤ d) (hd : d ≤ 30720) (kk : ∀ σ', Jx σ' (d + 60) → G 1366 [some (.ref 45), some (.ref 0), some (.ref 18), some (.int (nI (6 * j)))] [] σ') : G 881 [some (.ref 45), some (.ref 0), some (.ref 18), some (.int (nI (6 * j)))] [] σ := by
  obtain ⟨v, X, c1, c2⟩ := op_parcels (xs (6 * j + 1)) h hd0 hd
  refine g_al_1 hR dL_law_881 ?_
  refine g_al_0 hR dL_law_882 ?_
  refine g_il_3 hR dL_law_883 ?_
  refine g_iconst_1 hR dL_law_884 ?_
  refine g_iadd hR dL_law_885 ?_
  refine g_roald hR (6 * j + 1) hro (by omega) (by omega) (nI_add (6 * j) 1) dL_law_886 ?_
  refine g_cvP hR ciX4_parcels dL_law_887 ml_L_109 (Nat.le_of_ble_eq_true rfl) (by decide) rfl rfl rfl (c1) rfl (Nat.le_of_ble_eq_true rfl) rfl (fun σ1 h1 => ?_)
  obtain ⟨M, c3, hM⟩ := c2 σ1 h1
  refine g_al_2 hR dL_law_890 ?_
  refine g_al_0 hR dL_law_891 ?_
  refine g_il_3 hR dL_law_892 ?_
  refine g_iconst_1 hR dL_law_893 ?_
  refine g_iadd hR dL_law_894 ?_
  refine g_roald hR (6 * j + 1) hro (by omega) (by omega) (nI_add (6 * j) 1) dL_law_895 ?_
  refine g_cvP hR ciX5_parcels dL_law_896 ml_L_112 (Nat.le_of_ble_eq_true rfl) (by decide) rfl rfl rfl (c3) rfl (Nat.le_of_ble_eq_true rfl) rfl (fun σ2 h2 => ?_)
  refine g_icmp_eq (tgt := 1366) hR dL_law_899 (by decide) (fun _ => ?_) (fun h_c => absurd (rfl) h_c)
  exact kk σ2 (hM.eb h2)
set_option maxHeartbeats 4000000 in
theorem lg_odds {ro : Nat → Option (Nat × (Nat → Int32))} {G : Nat → List (Option Value) → List Value → Hp → Prop} {L : Nat} {xs : Nat → Int32} (hR : Rules code "ParcelBallLaw" 12 4 ro G) (hro : ro 45 = some (L, xs)) (hL : L ≤ 3072) {j : Nat} (hj : 6 * j + 6 ≤ L) {σ : Hp} {d : Int} (h : Jx σ d) (hd0 : 0 ≤ d) (hd : d ≤ 30720) (kk : ∀ σ', Jx σ' (d + 60) → G 1366 [some (.ref 45), some (.ref 0), some (.ref 18), some (.int (nI (6 * j)))] [] σ') : G 904 [some (.ref 45), some (.ref 0), some (.ref 18), some (.int (nI (6 * j)))] [] σ := by
  obtain ⟨v, X, c1, c2⟩ := op_odds (xs (6 * j + 1)) (xs (6 * j + 2)) h hd0 hd
  refine g_al_1 hR dL_law_904 ?_
  refine g_al_0 hR dL_law_905 ?_
  refine g_il_3 hR dL_law_906 ?_
  refine g_iconst_1 hR dL_law_907 ?_
  refine g_iadd hR dL_law_908 ?_
  refine g_roald hR (6 * j + 1) hro (by omega) (by omega) (nI_add (6 * j) 1) dL_law_909 ?_
  refine g_al_0 hR dL_law_910 ?_
  refine g_il_3 hR dL_law_911 ?_
  refine g_iconst_2 hR dL_law_912 ?_
  refine g_iadd hR dL_law_913 ?_
  refine g_roald hR (6 * j + 2) hro (by omega) (by omega) (nI_add (6 * j) 2) dL_law_914 ?_
  refine g_cv hR ciX4_odds dL_law_915 ml_L_113 (Nat.le_of_ble_eq_true rfl) (by decide) rfl rfl rfl c1 rfl (Nat.le_of_ble_eq_true rfl) rfl (fun r σ1 hp => ?_)
  obtain ⟨rfl, h1⟩ := hp
  obtain ⟨M, c3, hM⟩ := c2 σ1 h1
  refine g_al_2 hR dL_law_918 ?_
  refine g_al_0 hR dL_law_919 ?_
  refine g_il_3 hR dL_law_920 ?_
  refine g_iconst_1 hR dL_law_921 ?_
  refine g_iadd hR dL_law_922 ?_
  refine g_roald hR (6 * j + 1) hro (by omega) (by omega) (nI_add (6 * j) 1) dL_law_923 ?_
  refine g_al_0 hR dL_law_924 ?_
  refine g_il_3 hR dL_law_925 ?_
  refine g_iconst_2 hR dL_law_926 ?_
  refine g_iadd hR dL_law_927 ?_
  refine g_roald hR (6 * j + 2) hro (by omega) (by omega) (nI_add (6 * j) 2) dL_law_928 ?_
  refine g_cv hR ciX5_odds dL_law_929 ml_L_117 (Nat.le_of_ble_eq_true rfl) (by decide) rfl rfl rfl c3 rfl (Nat.le_of_ble_eq_true rfl) rfl (fun r σ2 hp => ?_)
  obtain ⟨rfl, h2⟩ := hp
  refine g_lcmp hR dL_law_932 ?_
  refine g_if_eq (tgt := 1366) hR dL_law_933 (by decide) (fun _ => ?_) (fun h_c => absurd (lc_eq.mpr rfl) h_c)
  exact kk σ2 (hM.eb h2)
set_option maxHeartbeats 4000000 in
theorem lg_seed {ro : Nat → Option (Nat × (Nat → Int32))} {G : Nat → List (Option Value) → List Value → Hp → Prop} {L : Nat} {xs : Nat → Int32} (hR : Rules code "ParcelBallLaw" 12 4 ro G) (hro : ro 45 = some (L, xs)) (hL : L ≤ 3072) {j : Nat} (hj : 6 * j + 6 ≤ L) {σ : Hp} {d : Int} (h : Jx σ d) (hd0 : 0 ≤ d) (hd : d ≤ 30720) (kk : ∀ σ', Jx σ' (d + 60) → G 1366 [some (.ref 45), some (.ref 0), some (.ref 18), some (.int (nI (6 * j)))] [] σ') : G 938 [some (.ref 45), some (.ref 0), some (.ref 18), some (.int (nI (6 * j)))] [] σ := by
  obtain ⟨v, X, c1, c2⟩ := op_seed (xs (6 * j + 1)) h hd0 hd
  refine g_al_1 hR dL_law_938 ?_
  refine g_al_0 hR dL_law_939 ?_
  refine g_il_3 hR dL_law_940 ?_
  refine g_iconst_1 hR dL_law_941 ?_
  refine g_iadd hR dL_law_942 ?_
  refine g_roald hR (6 * j + 1) hro (by omega) (by omega) (nI_add (6 * j) 1) dL_law_943 ?_
  refine g_cvP hR ciX4_seed dL_law_944 ml_L_118 (Nat.le_of_ble_eq_true rfl) (by decide) rfl rfl rfl (c1) rfl (Nat.le_of_ble_eq_true rfl) rfl (fun σ1 h1 => ?_)
  obtain ⟨M, c3, hM⟩ := c2 σ1 h1
  refine g_al_2 hR dL_law_947 ?_
  refine g_al_0 hR dL_law_948 ?_
  refine g_il_3 hR dL_law_949 ?_
  refine g_iconst_1 hR dL_law_950 ?_
  refine g_iadd hR dL_law_951 ?_
  refine g_roald hR (6 * j + 1) hro (by omega) (by omega) (nI_add (6 * j) 1) dL_law_952 ?_
  refine g_cvP hR ciX5_seed dL_law_953 ml_L_121 (Nat.le_of_ble_eq_true rfl) (by decide) rfl rfl rfl (c3) rfl (Nat.le_of_ble_eq_true rfl) rfl (fun σ2 h2 => ?_)
  refine g_icmp_eq (tgt := 1366) hR dL_law_956 (by decide) (fun _ => ?_) (fun h_c => absurd (rfl) h_c)
  exact kk σ2 (hM.eb h2)
set_option maxHeartbeats 4000000 in
theorem lg_feed {ro : Nat → Option (Nat × (Nat → Int32))} {G : Nat → List (Option Value) → List Value → Hp → Prop} {L : Nat} {xs : Nat → Int32} (hR : Rules code "ParcelBallLaw" 12 4 ro G) (hro : ro 45 = some (L, xs)) (hL : L ≤ 3072) {j : Nat} (hj : 6 * j + 6 ≤ L) {σ : Hp} {d : Int} (h : Jx σ d) (hd0 : 0 ≤ d) (hd : d ≤ 30720) (kk : ∀ σ', Jx σ' (d + 60) → G 1366 [some (.ref 45), some (.ref 0), some (.ref 18), some (.int (nI (6 * j)))] [] σ') : G 961 [some (.ref 45), some (.ref 0), some (.ref 18), some (.int (nI (6 * j)))] [] σ := by
  obtain ⟨v, X, c1, c2⟩ := op_feed (xs (6 * j + 1)) (xs (6 * j + 2)) h hd0 hd
  refine g_al_1 hR dL_law_961 ?_
  refine g_al_0 hR dL_law_962 ?_
  refine g_il_3 hR dL_law_963 ?_
  refine g_iconst_1 hR dL_law_964 ?_
  refine g_iadd hR dL_law_965 ?_
  refine g_roald hR (6 * j + 1) hro (by omega) (by omega) (nI_add (6 * j) 1) dL_law_966 ?_
  refine g_al_0 hR dL_law_967 ?_
  refine g_il_3 hR dL_law_968 ?_
  refine g_iconst_2 hR dL_law_969 ?_
  refine g_iadd hR dL_law_970 ?_
  refine g_roald hR (6 * j + 2) hro (by omega) (by omega) (nI_add (6 * j) 2) dL_law_971 ?_
  refine g_cvP hR ciX4_feed dL_law_972 ml_L_122 (Nat.le_of_ble_eq_true rfl) (by decide) rfl rfl rfl (c1) rfl (Nat.le_of_ble_eq_true rfl) rfl (fun σ1 h1 => ?_)
  obtain ⟨M, c3, hM⟩ := c2 σ1 h1
  refine g_al_2 hR dL_law_975 ?_
  refine g_al_0 hR dL_law_976 ?_
  refine g_il_3 hR dL_law_977 ?_
  refine g_iconst_1 hR dL_law_978 ?_
  refine g_iadd hR dL_law_979 ?_
  refine g_roald hR (6 * j + 1) hro (by omega) (by omega) (nI_add (6 * j) 1) dL_law_980 ?_
  refine g_al_0 hR dL_law_981 ?_
  refine g_il_3 hR dL_law_982 ?_
  refine g_iconst_2 hR dL_law_983 ?_
  refine g_iadd hR dL_law_984 ?_
  refine g_roald hR (6 * j + 2) hro (by omega) (by omega) (nI_add (6 * j) 2) dL_law_985 ?_
  refine g_cvP hR ciX5_feed dL_law_986 ml_L_125 (Nat.le_of_ble_eq_true rfl) (by decide) rfl rfl rfl (c3) rfl (Nat.le_of_ble_eq_true rfl) rfl (fun σ2 h2 => ?_)
  refine g_icmp_eq (tgt := 1366) hR dL_law_989 (by decide) (fun _ => ?_) (fun h_c => absurd (rfl) h_c)
  exact kk σ2 (hM.eb h2)
set_option maxHeartbeats 4000000 in
theorem lg_wipe {ro : Nat → Option (Nat × (Nat → Int32))} {G : Nat → List (Option Value) → List Value → Hp → Prop} {L : Nat} {xs : Nat → Int32} (hR : Rules code "ParcelBallLaw" 12 4 ro G) (hro : ro 45 = some (L, xs)) (hL : L ≤ 3072) {j : Nat} (hj : 6 * j + 6 ≤ L) {σ : Hp} {d : Int} (h : Jx σ d) (hd0 : 0 ≤ d) (hd : d ≤ 30720) (kk : ∀ σ', Jx σ' (d + 60) → G 1366 [some (.ref 45), some (.ref 0), some (.ref 18), some (.int (nI (6 * j)))] [] σ') : G 994 [some (.ref 45), some (.ref 0), some (.ref 18), some (.int (nI (6 * j)))] [] σ := by
  obtain ⟨v, X, c1, c2⟩ := op_wipe h hd0 hd
  refine g_al_1 hR dL_law_994 ?_
  refine g_cvP hR ciX4_wipe dL_law_995 ml_L_126 (Nat.le_of_ble_eq_true rfl) (by decide) rfl rfl rfl (c1) rfl (Nat.le_of_ble_eq_true rfl) rfl (fun σ1 h1 => ?_)
  obtain ⟨M, c3, hM⟩ := c2 σ1 h1
  refine g_al_2 hR dL_law_998 ?_
  refine g_cvP hR ciX5_wipe dL_law_999 ml_L_129 (Nat.le_of_ble_eq_true rfl) (by decide) rfl rfl rfl (c3) rfl (Nat.le_of_ble_eq_true rfl) rfl (fun σ2 h2 => ?_)
  refine g_icmp_eq (tgt := 1366) hR dL_law_1002 (by decide) (fun _ => ?_) (fun h_c => absurd (rfl) h_c)
  exact kk σ2 (hM.eb h2)
set_option maxHeartbeats 4000000 in
theorem lg_text {ro : Nat → Option (Nat × (Nat → Int32))} {G : Nat → List (Option Value) → List Value → Hp → Prop} {L : Nat} {xs : Nat → Int32} (hR : Rules code "ParcelBallLaw" 12 4 ro G) (hro : ro 45 = some (L, xs)) (hL : L ≤ 3072) {j : Nat} (hj : 6 * j + 6 ≤ L) {σ : Hp} {d : Int} (h : Jx σ d) (hd0 : 0 ≤ d) (hd : d ≤ 30720) (kk : ∀ σ', Jx σ' (d + 60) → G 1366 [some (.ref 45), some (.ref 0), some (.ref 18), some (.int (nI (6 * j)))] [] σ') : G 1007 [some (.ref 45), some (.ref 0), some (.ref 18), some (.int (nI (6 * j)))] [] σ := by
  obtain ⟨v, X, c1, c2⟩ := op_text h hd0 hd
  refine g_al_1 hR dL_law_1007 ?_
  refine g_cvP hR ciX4_text dL_law_1008 ml_L_130 (Nat.le_of_ble_eq_true rfl) (by decide) rfl rfl rfl (c1) rfl (Nat.le_of_ble_eq_true rfl) rfl (fun σ1 h1 => ?_)
  obtain ⟨M, c3, hM⟩ := c2 σ1 h1
  refine g_al_2 hR dL_law_1011 ?_
  refine g_cvP hR ciX5_text dL_law_1012 ml_L_133 (Nat.le_of_ble_eq_true rfl) (by decide) rfl rfl rfl (c3) rfl (Nat.le_of_ble_eq_true rfl) rfl (fun σ2 h2 => ?_)
  refine g_icmp_eq (tgt := 1366) hR dL_law_1015 (by decide) (fun _ => ?_) (fun h_c => absurd (rfl) h_c)
  exact kk σ2 (hM.eb h2)
set_option maxHeartbeats 4000000 in
theorem lg_hold {ro : Nat → Option (Nat × (Nat → Int32))} {G : Nat → List (Option Value) → List Value → Hp → Prop} {L : Nat} {xs : Nat → Int32} (hR : Rules code "ParcelBallLaw" 12 4 ro G) (hro : ro 45 = some (L, xs)) (hL : L ≤ 3072) {j : Nat} (hj : 6 * j + 6 ≤ L) {σ : Hp} {d : Int} (h : Jx σ d) (hd0 : 0 ≤ d) (hd : d ≤ 30720) (kk : ∀ σ', Jx σ' (d + 60) → G 1366 [some (.ref 45), some (.ref 0), some (.ref 18), some (.int (nI (6 * j)))] [] σ') : G 1020 [some (.ref 45), some (.ref 0), some (.ref 18), some (.int (nI (6 * j)))] [] σ := by
  obtain ⟨v, X, c1, c2⟩ := op_hold (xs (6 * j + 1)) (xs (6 * j + 2)) h hd0 hd
  refine g_al_1 hR dL_law_1020 ?_
  refine g_al_0 hR dL_law_1021 ?_
  refine g_il_3 hR dL_law_1022 ?_
  refine g_iconst_1 hR dL_law_1023 ?_
  refine g_iadd hR dL_law_1024 ?_
  refine g_roald hR (6 * j + 1) hro (by omega) (by omega) (nI_add (6 * j) 1) dL_law_1025 ?_
  refine g_al_0 hR dL_law_1026 ?_
  refine g_il_3 hR dL_law_1027 ?_
  refine g_iconst_2 hR dL_law_1028 ?_
  refine g_iadd hR dL_law_1029 ?_
  refine g_roald hR (6 * j + 2) hro (by omega) (by omega) (nI_add (6 * j) 2) dL_law_1030 ?_
  refine g_cvP hR ciX4_hold dL_law_1031 ml_L_134 (Nat.le_of_ble_eq_true rfl) (by decide) rfl rfl rfl (c1) rfl (Nat.le_of_ble_eq_true rfl) rfl (fun σ1 h1 => ?_)
  obtain ⟨M, c3, hM⟩ := c2 σ1 h1
  refine g_al_2 hR dL_law_1034 ?_
  refine g_al_0 hR dL_law_1035 ?_
  refine g_il_3 hR dL_law_1036 ?_
  refine g_iconst_1 hR dL_law_1037 ?_
  refine g_iadd hR dL_law_1038 ?_
  refine g_roald hR (6 * j + 1) hro (by omega) (by omega) (nI_add (6 * j) 1) dL_law_1039 ?_
  refine g_al_0 hR dL_law_1040 ?_
  refine g_il_3 hR dL_law_1041 ?_
  refine g_iconst_2 hR dL_law_1042 ?_
  refine g_iadd hR dL_law_1043 ?_
  refine g_roald hR (6 * j + 2) hro (by omega) (by omega) (nI_add (6 * j) 2) dL_law_1044 ?_
  refine g_cvP hR ciX5_hold dL_law_1045 ml_L_137 (Nat.le_of_ble_eq_true rfl) (by decide) rfl rfl rfl (c3) rfl (Nat.le_of_ble_eq_true rfl) rfl (fun σ2 h2 => ?_)
  refine g_icmp_eq (tgt := 1366) hR dL_law_1048 (by decide) (fun _ => ?_) (fun h_c => absurd (rfl) h_c)
  exact kk σ2 (hM.eb h2)
set_option maxHeartbeats 4000000 in
theorem lg_as {ro : Nat → Option (Nat × (Nat → Int32))} {G : Nat → List (Option Value) → List Value → Hp → Prop} {L : Nat} {xs : Nat → Int32} (hR : Rules code "ParcelBallLaw" 12 4 ro G) (hro : ro 45 = some (L, xs)) (hL : L ≤ 3072) {j : Nat} (hj : 6 * j + 6 ≤ L) {σ : Hp} {d : Int} (h : Jx σ d) (hd0 : 0 ≤ d) (hd : d ≤ 30720) (kk : ∀ σ', Jx σ' (d + 60) → G 1366 [some (.ref 45), some (.ref 0), some (.ref 18), some (.int (nI (6 * j)))] [] σ') : G 1053 [some (.ref 45), some (.ref 0), some (.ref 18), some (.int (nI (6 * j)))] [] σ := by
  obtain ⟨v, X, c1, c2⟩ := op_as (xs (6 * j + 1)) (xs (6 * j + 2)) h hd0 hd
  refine g_al_1 hR dL_law_1053 ?_
  refine g_al_0 hR dL_law_1054 ?_
  refine g_il_3 hR dL_law_1055 ?_
  refine g_iconst_1 hR dL_law_1056 ?_
  refine g_iadd hR dL_law_1057 ?_
  refine g_roald hR (6 * j + 1) hro (by omega) (by omega) (nI_add (6 * j) 1) dL_law_1058 ?_
  refine g_al_0 hR dL_law_1059 ?_
  refine g_il_3 hR dL_law_1060 ?_
  refine g_iconst_2 hR dL_law_1061 ?_
  refine g_iadd hR dL_law_1062 ?_
  refine g_roald hR (6 * j + 2) hro (by omega) (by omega) (nI_add (6 * j) 2) dL_law_1063 ?_
  refine g_cvP hR ciX4_as dL_law_1064 ml_L_138 (Nat.le_of_ble_eq_true rfl) (by decide) rfl rfl rfl (c1) rfl (Nat.le_of_ble_eq_true rfl) rfl (fun σ1 h1 => ?_)
  obtain ⟨M, c3, hM⟩ := c2 σ1 h1
  refine g_al_2 hR dL_law_1067 ?_
  refine g_al_0 hR dL_law_1068 ?_
  refine g_il_3 hR dL_law_1069 ?_
  refine g_iconst_1 hR dL_law_1070 ?_
  refine g_iadd hR dL_law_1071 ?_
  refine g_roald hR (6 * j + 1) hro (by omega) (by omega) (nI_add (6 * j) 1) dL_law_1072 ?_
  refine g_al_0 hR dL_law_1073 ?_
  refine g_il_3 hR dL_law_1074 ?_
  refine g_iconst_2 hR dL_law_1075 ?_
  refine g_iadd hR dL_law_1076 ?_
  refine g_roald hR (6 * j + 2) hro (by omega) (by omega) (nI_add (6 * j) 2) dL_law_1077 ?_
  refine g_cvP hR ciX5_as dL_law_1078 ml_L_141 (Nat.le_of_ble_eq_true rfl) (by decide) rfl rfl rfl (c3) rfl (Nat.le_of_ble_eq_true rfl) rfl (fun σ2 h2 => ?_)
  refine g_icmp_eq (tgt := 1366) hR dL_law_1081 (by decide) (fun _ => ?_) (fun h_c => absurd (rfl) h_c)
  exact kk σ2 (hM.eb h2)
set_option maxHeartbeats 4000000 in
theorem lg_sheet {ro : Nat → Option (Nat × (Nat → Int32))} {G : Nat → List (Option Value) → List Value → Hp → Prop} {L : Nat} {xs : Nat → Int32} (hR : Rules code "ParcelBallLaw" 12 4 ro G) (hro : ro 45 = some (L, xs)) (hL : L ≤ 3072) {j : Nat} (hj : 6 * j + 6 ≤ L) {σ : Hp} {d : Int} (h : Jx σ d) (hd0 : 0 ≤ d) (hd : d ≤ 30720) (kk : ∀ σ', Jx σ' (d + 60) → G 1366 [some (.ref 45), some (.ref 0), some (.ref 18), some (.int (nI (6 * j)))] [] σ') : G 1086 [some (.ref 45), some (.ref 0), some (.ref 18), some (.int (nI (6 * j)))] [] σ := by
  obtain ⟨v, X, c1, c2⟩ := op_sheet (xs (6 * j + 1)) (xs (6 * j + 2)) (xs (6 * j + 3)) h hd0 hd
  refine g_al_1 hR dL_law_1086 ?_
  refine g_al_0 hR dL_law_1087 ?_
  refine g_il_3 hR dL_law_1088 ?_
  refine g_iconst_1 hR dL_law_1089 ?_
  refine g_iadd hR dL_law_1090 ?_
  refine g_roald hR (6 * j + 1) hro (by omega) (by omega) (nI_add (6 * j) 1) dL_law_1091 ?_
  refine g_al_0 hR dL_law_1092 ?_
  refine g_il_3 hR dL_law_1093 ?_
  refine g_iconst_2 hR dL_law_1094 ?_
  refine g_iadd hR dL_law_1095 ?_
  refine g_roald hR (6 * j + 2) hro (by omega) (by omega) (nI_add (6 * j) 2) dL_law_1096 ?_
  refine g_al_0 hR dL_law_1097 ?_
  refine g_il_3 hR dL_law_1098 ?_
  refine g_iconst_3 hR dL_law_1099 ?_
  refine g_iadd hR dL_law_1100 ?_
  refine g_roald hR (6 * j + 3) hro (by omega) (by omega) (nI_add (6 * j) 3) dL_law_1101 ?_
  refine g_cvP hR ciX4_sheet dL_law_1102 ml_L_142 (Nat.le_of_ble_eq_true rfl) (by decide) rfl rfl rfl (c1) rfl (Nat.le_of_ble_eq_true rfl) rfl (fun σ1 h1 => ?_)
  obtain ⟨M, c3, hM⟩ := c2 σ1 h1
  refine g_al_2 hR dL_law_1105 ?_
  refine g_al_0 hR dL_law_1106 ?_
  refine g_il_3 hR dL_law_1107 ?_
  refine g_iconst_1 hR dL_law_1108 ?_
  refine g_iadd hR dL_law_1109 ?_
  refine g_roald hR (6 * j + 1) hro (by omega) (by omega) (nI_add (6 * j) 1) dL_law_1110 ?_
  refine g_al_0 hR dL_law_1111 ?_
  refine g_il_3 hR dL_law_1112 ?_
  refine g_iconst_2 hR dL_law_1113 ?_
  refine g_iadd hR dL_law_1114 ?_
  refine g_roald hR (6 * j + 2) hro (by omega) (by omega) (nI_add (6 * j) 2) dL_law_1115 ?_
  refine g_al_0 hR dL_law_1116 ?_
  refine g_il_3 hR dL_law_1117 ?_
  refine g_iconst_3 hR dL_law_1118 ?_
  refine g_iadd hR dL_law_1119 ?_
  refine g_roald hR (6 * j + 3) hro (by omega) (by omega) (nI_add (6 * j) 3) dL_law_1120 ?_
  refine g_cvP hR ciX5_sheet dL_law_1121 ml_L_145 (Nat.le_of_ble_eq_true rfl) (by decide) rfl rfl rfl (c3) rfl (Nat.le_of_ble_eq_true rfl) rfl (fun σ2 h2 => ?_)
  refine g_icmp_eq (tgt := 1366) hR dL_law_1124 (by decide) (fun _ => ?_) (fun h_c => absurd (rfl) h_c)
  exact kk σ2 (hM.eb h2)
set_option maxHeartbeats 4000000 in
theorem lg_write {ro : Nat → Option (Nat × (Nat → Int32))} {G : Nat → List (Option Value) → List Value → Hp → Prop} {L : Nat} {xs : Nat → Int32} (hR : Rules code "ParcelBallLaw" 12 4 ro G) (hro : ro 45 = some (L, xs)) (hL : L ≤ 3072) {j : Nat} (hj : 6 * j + 6 ≤ L) {σ : Hp} {d : Int} (h : Jx σ d) (hd0 : 0 ≤ d) (hd : d ≤ 30720) (kk : ∀ σ', Jx σ' (d + 60) → G 1366 [some (.ref 45), some (.ref 0), some (.ref 18), some (.int (nI (6 * j)))] [] σ') : G 1129 [some (.ref 45), some (.ref 0), some (.ref 18), some (.int (nI (6 * j)))] [] σ := by
  obtain ⟨v, X, c1, c2⟩ := op_write (xs (6 * j + 1)) (xs (6 * j + 2)) (xs (6 * j + 3)) h hd0 hd
  refine g_al_1 hR dL_law_1129 ?_
  refine g_al_0 hR dL_law_1130 ?_
  refine g_il_3 hR dL_law_1131 ?_
  refine g_iconst_1 hR dL_law_1132 ?_
  refine g_iadd hR dL_law_1133 ?_
  refine g_roald hR (6 * j + 1) hro (by omega) (by omega) (nI_add (6 * j) 1) dL_law_1134 ?_
  refine g_al_0 hR dL_law_1135 ?_
  refine g_il_3 hR dL_law_1136 ?_
  refine g_iconst_2 hR dL_law_1137 ?_
  refine g_iadd hR dL_law_1138 ?_
  refine g_roald hR (6 * j + 2) hro (by omega) (by omega) (nI_add (6 * j) 2) dL_law_1139 ?_
  refine g_al_0 hR dL_law_1140 ?_
  refine g_il_3 hR dL_law_1141 ?_
  refine g_iconst_3 hR dL_law_1142 ?_
  refine g_iadd hR dL_law_1143 ?_
  refine g_roald hR (6 * j + 3) hro (by omega) (by omega) (nI_add (6 * j) 3) dL_law_1144 ?_
  refine g_cvP hR ciX4_write dL_law_1145 ml_L_146 (Nat.le_of_ble_eq_true rfl) (by decide) rfl rfl rfl (c1) rfl (Nat.le_of_ble_eq_true rfl) rfl (fun σ1 h1 => ?_)
  obtain ⟨M, c3, hM⟩ := c2 σ1 h1
  refine g_al_2 hR dL_law_1148 ?_
  refine g_al_0 hR dL_law_1149 ?_
  refine g_il_3 hR dL_law_1150 ?_
  refine g_iconst_1 hR dL_law_1151 ?_
  refine g_iadd hR dL_law_1152 ?_
  refine g_roald hR (6 * j + 1) hro (by omega) (by omega) (nI_add (6 * j) 1) dL_law_1153 ?_
  refine g_al_0 hR dL_law_1154 ?_
  refine g_il_3 hR dL_law_1155 ?_
  refine g_iconst_2 hR dL_law_1156 ?_
  refine g_iadd hR dL_law_1157 ?_
  refine g_roald hR (6 * j + 2) hro (by omega) (by omega) (nI_add (6 * j) 2) dL_law_1158 ?_
  refine g_al_0 hR dL_law_1159 ?_
  refine g_il_3 hR dL_law_1160 ?_
  refine g_iconst_3 hR dL_law_1161 ?_
  refine g_iadd hR dL_law_1162 ?_
  refine g_roald hR (6 * j + 3) hro (by omega) (by omega) (nI_add (6 * j) 3) dL_law_1163 ?_
  refine g_cvP hR ciX5_write dL_law_1164 ml_L_149 (Nat.le_of_ble_eq_true rfl) (by decide) rfl rfl rfl (c3) rfl (Nat.le_of_ble_eq_true rfl) rfl (fun σ2 h2 => ?_)
  refine g_icmp_eq (tgt := 1366) hR dL_law_1167 (by decide) (fun _ => ?_) (fun h_c => absurd (rfl) h_c)
  exact kk σ2 (hM.eb h2)
set_option maxHeartbeats 4000000 in
theorem lg_copy {ro : Nat → Option (Nat × (Nat → Int32))} {G : Nat → List (Option Value) → List Value → Hp → Prop} {L : Nat} {xs : Nat → Int32} (hR : Rules code "ParcelBallLaw" 12 4 ro G) (hro : ro 45 = some (L, xs)) (hL : L ≤ 3072) {j : Nat} (hj : 6 * j + 6 ≤ L) {σ : Hp} {d : Int} (h : Jx σ d) (hd0 : 0 ≤ d) (hd : d ≤ 30720) (kk : ∀ σ', Jx σ' (d + 60) → G 1366 [some (.ref 45), some (.ref 0), some (.ref 18), some (.int (nI (6 * j)))] [] σ') : G 1172 [some (.ref 45), some (.ref 0), some (.ref 18), some (.int (nI (6 * j)))] [] σ := by
  obtain ⟨v, X, c1, c2⟩ := op_copy (xs (6 * j + 1)) (xs (6 * j + 2)) (xs (6 * j + 3)) (xs (6 * j + 4)) (xs (6 * j + 5)) h hd0 hd
  refine g_al_1 hR dL_law_1172 ?_
  refine g_al_0 hR dL_law_1173 ?_
  refine g_il_3 hR dL_law_1174 ?_
  refine g_iconst_1 hR dL_law_1175 ?_
  refine g_iadd hR dL_law_1176 ?_
  refine g_roald hR (6 * j + 1) hro (by omega) (by omega) (nI_add (6 * j) 1) dL_law_1177 ?_
  refine g_al_0 hR dL_law_1178 ?_
  refine g_il_3 hR dL_law_1179 ?_
  refine g_iconst_2 hR dL_law_1180 ?_
  refine g_iadd hR dL_law_1181 ?_
  refine g_roald hR (6 * j + 2) hro (by omega) (by omega) (nI_add (6 * j) 2) dL_law_1182 ?_
  refine g_al_0 hR dL_law_1183 ?_
  refine g_il_3 hR dL_law_1184 ?_
  refine g_iconst_3 hR dL_law_1185 ?_
  refine g_iadd hR dL_law_1186 ?_
  refine g_roald hR (6 * j + 3) hro (by omega) (by omega) (nI_add (6 * j) 3) dL_law_1187 ?_
  refine g_al_0 hR dL_law_1188 ?_
  refine g_il_3 hR dL_law_1189 ?_
  refine g_iconst_4 hR dL_law_1190 ?_
  refine g_iadd hR dL_law_1191 ?_
  refine g_roald hR (6 * j + 4) hro (by omega) (by omega) (nI_add (6 * j) 4) dL_law_1192 ?_
  refine g_al_0 hR dL_law_1193 ?_
  refine g_il_3 hR dL_law_1194 ?_
  refine g_iconst_5 hR dL_law_1195 ?_
  refine g_iadd hR dL_law_1196 ?_
  refine g_roald hR (6 * j + 5) hro (by omega) (by omega) (nI_add (6 * j) 5) dL_law_1197 ?_
  refine g_cvP hR ciX4_copy dL_law_1198 ml_L_150 (Nat.le_of_ble_eq_true rfl) (by decide) rfl rfl rfl (c1) rfl (Nat.le_of_ble_eq_true rfl) rfl (fun σ1 h1 => ?_)
  obtain ⟨M, c3, hM⟩ := c2 σ1 h1
  refine g_al_2 hR dL_law_1201 ?_
  refine g_al_0 hR dL_law_1202 ?_
  refine g_il_3 hR dL_law_1203 ?_
  refine g_iconst_1 hR dL_law_1204 ?_
  refine g_iadd hR dL_law_1205 ?_
  refine g_roald hR (6 * j + 1) hro (by omega) (by omega) (nI_add (6 * j) 1) dL_law_1206 ?_
  refine g_al_0 hR dL_law_1207 ?_
  refine g_il_3 hR dL_law_1208 ?_
  refine g_iconst_2 hR dL_law_1209 ?_
  refine g_iadd hR dL_law_1210 ?_
  refine g_roald hR (6 * j + 2) hro (by omega) (by omega) (nI_add (6 * j) 2) dL_law_1211 ?_
  refine g_al_0 hR dL_law_1212 ?_
  refine g_il_3 hR dL_law_1213 ?_
  refine g_iconst_3 hR dL_law_1214 ?_
  refine g_iadd hR dL_law_1215 ?_
  refine g_roald hR (6 * j + 3) hro (by omega) (by omega) (nI_add (6 * j) 3) dL_law_1216 ?_
  refine g_al_0 hR dL_law_1217 ?_
  refine g_il_3 hR dL_law_1218 ?_
  refine g_iconst_4 hR dL_law_1219 ?_
  refine g_iadd hR dL_law_1220 ?_
  refine g_roald hR (6 * j + 4) hro (by omega) (by omega) (nI_add (6 * j) 4) dL_law_1221 ?_
  refine g_al_0 hR dL_law_1222 ?_
  refine g_il_3 hR dL_law_1223 ?_
  refine g_iconst_5 hR dL_law_1224 ?_
  refine g_iadd hR dL_law_1225 ?_
  refine g_roald hR (6 * j + 5) hro (by omega) (by omega) (nI_add (6 * j) 5) dL_law_1226 ?_
  refine g_cvP hR ciX5_copy dL_law_1227 ml_L_154 (Nat.le_of_ble_eq_true rfl) (by decide) rfl rfl rfl (c3) rfl (Nat.le_of_ble_eq_true rfl) rfl (fun σ2 h2 => ?_)
  refine g_icmp_eq (tgt := 1366) hR dL_law_1230 (by decide) (fun _ => ?_) (fun h_c => absurd (rfl) h_c)
  exact kk σ2 (hM.eb h2)
set_option maxHeartbeats 4000000 in
theorem lg_load {ro : Nat → Option (Nat × (Nat → Int32))} {G : Nat → List (Option Value) → List Value → Hp → Prop} {L : Nat} {xs : Nat → Int32} (hR : Rules code "ParcelBallLaw" 12 4 ro G) (hro : ro 45 = some (L, xs)) (hL : L ≤ 3072) {j : Nat} (hj : 6 * j + 6 ≤ L) {σ : Hp} {d : Int} (h : Jx σ d) (hd0 : 0 ≤ d) (hd : d ≤ 30720) (kk : ∀ σ', Jx σ' (d + 60) → G 1366 [some (.ref 45), some (.ref 0), some (.ref 18), some (.int (nI (6 * j)))] [] σ') : G 1235 [some (.ref 45), some (.ref 0), some (.ref 18), some (.int (nI (6 * j)))] [] σ := by
  obtain ⟨v, X, c1, c2⟩ := op_load (xs (6 * j + 1)) h hd0 hd
  refine g_al_1 hR dL_law_1235 ?_
  refine g_al_0 hR dL_law_1236 ?_
  refine g_il_3 hR dL_law_1237 ?_
  refine g_iconst_1 hR dL_law_1238 ?_
  refine g_iadd hR dL_law_1239 ?_
  refine g_roald hR (6 * j + 1) hro (by omega) (by omega) (nI_add (6 * j) 1) dL_law_1240 ?_
  refine g_cvP hR ciX4_load dL_law_1241 ml_L_155 (Nat.le_of_ble_eq_true rfl) (by decide) rfl rfl rfl (c1) rfl (Nat.le_of_ble_eq_true rfl) rfl (fun σ1 h1 => ?_)
  obtain ⟨M, c3, hM⟩ := c2 σ1 h1
  refine g_al_2 hR dL_law_1244 ?_
  refine g_al_0 hR dL_law_1245 ?_
  refine g_il_3 hR dL_law_1246 ?_
  refine g_iconst_1 hR dL_law_1247 ?_
  refine g_iadd hR dL_law_1248 ?_
  refine g_roald hR (6 * j + 1) hro (by omega) (by omega) (nI_add (6 * j) 1) dL_law_1249 ?_
  refine g_cvP hR ciX5_load dL_law_1250 ml_L_158 (Nat.le_of_ble_eq_true rfl) (by decide) rfl rfl rfl (c3) rfl (Nat.le_of_ble_eq_true rfl) rfl (fun σ2 h2 => ?_)
  refine g_icmp_eq (tgt := 1366) hR dL_law_1253 (by decide) (fun _ => ?_) (fun h_c => absurd (rfl) h_c)
  exact kk σ2 (hM.eb h2)
set_option maxHeartbeats 4000000 in
theorem lg_judge {ro : Nat → Option (Nat × (Nat → Int32))} {G : Nat → List (Option Value) → List Value → Hp → Prop} {L : Nat} {xs : Nat → Int32} (hR : Rules code "ParcelBallLaw" 12 4 ro G) (hro : ro 45 = some (L, xs)) (hL : L ≤ 3072) {j : Nat} (hj : 6 * j + 6 ≤ L) {σ : Hp} {d : Int} (h : Jx σ d) (hd0 : 0 ≤ d) (hd : d ≤ 30720) (kk : ∀ σ', Jx σ' (d + 60) → G 1366 [some (.ref 45), some (.ref 0), some (.ref 18), some (.int (nI (6 * j)))] [] σ') : G 1258 [some (.ref 45), some (.ref 0), some (.ref 18), some (.int (nI (6 * j)))] [] σ := by
  obtain ⟨v, X, c1, c2⟩ := op_judge (xs (6 * j + 1)) h hd0 hd
  refine g_al_1 hR dL_law_1258 ?_
  refine g_al_0 hR dL_law_1259 ?_
  refine g_il_3 hR dL_law_1260 ?_
  refine g_iconst_1 hR dL_law_1261 ?_
  refine g_iadd hR dL_law_1262 ?_
  refine g_roald hR (6 * j + 1) hro (by omega) (by omega) (nI_add (6 * j) 1) dL_law_1263 ?_
  refine g_cvP hR ciX4_judge dL_law_1264 ml_L_159 (Nat.le_of_ble_eq_true rfl) (by decide) rfl rfl rfl (c1) rfl (Nat.le_of_ble_eq_true rfl) rfl (fun σ1 h1 => ?_)
  obtain ⟨M, c3, hM⟩ := c2 σ1 h1
  refine g_al_2 hR dL_law_1267 ?_
  refine g_al_0 hR dL_law_1268 ?_
  refine g_il_3 hR dL_law_1269 ?_
  refine g_iconst_1 hR dL_law_1270 ?_
  refine g_iadd hR dL_law_1271 ?_
  refine g_roald hR (6 * j + 1) hro (by omega) (by omega) (nI_add (6 * j) 1) dL_law_1272 ?_
  refine g_cvP hR ciX5_judge dL_law_1273 ml_L_162 (Nat.le_of_ble_eq_true rfl) (by decide) rfl rfl rfl (c3) rfl (Nat.le_of_ble_eq_true rfl) rfl (fun σ2 h2 => ?_)
  refine g_icmp_eq (tgt := 1366) hR dL_law_1276 (by decide) (fun _ => ?_) (fun h_c => absurd (rfl) h_c)
  exact kk σ2 (hM.eb h2)
set_option maxHeartbeats 4000000 in
theorem lg_image {ro : Nat → Option (Nat × (Nat → Int32))} {G : Nat → List (Option Value) → List Value → Hp → Prop} {L : Nat} {xs : Nat → Int32} (hR : Rules code "ParcelBallLaw" 12 4 ro G) (hro : ro 45 = some (L, xs)) (hL : L ≤ 3072) {j : Nat} (hj : 6 * j + 6 ≤ L) {σ : Hp} {d : Int} (h : Jx σ d) (hd0 : 0 ≤ d) (hd : d ≤ 30720) (kk : ∀ σ', Jx σ' (d + 60) → G 1366 [some (.ref 45), some (.ref 0), some (.ref 18), some (.int (nI (6 * j)))] [] σ') : G 1281 [some (.ref 45), some (.ref 0), some (.ref 18), some (.int (nI (6 * j)))] [] σ := by
  obtain ⟨v, X, c1, c2⟩ := op_image h hd0 hd
  refine g_al_1 hR dL_law_1281 ?_
  refine g_cvP hR ciX4_image dL_law_1282 ml_L_163 (Nat.le_of_ble_eq_true rfl) (by decide) rfl rfl rfl (c1) rfl (Nat.le_of_ble_eq_true rfl) rfl (fun σ1 h1 => ?_)
  obtain ⟨M, c3, hM⟩ := c2 σ1 h1
  refine g_al_2 hR dL_law_1285 ?_
  refine g_cvP hR ciX5_image dL_law_1286 ml_L_166 (Nat.le_of_ble_eq_true rfl) (by decide) rfl rfl rfl (c3) rfl (Nat.le_of_ble_eq_true rfl) rfl (fun σ2 h2 => ?_)
  refine g_icmp_eq (tgt := 1366) hR dL_law_1289 (by decide) (fun _ => ?_) (fun h_c => absurd (rfl) h_c)
  exact kk σ2 (hM.eb h2)
set_option maxHeartbeats 4000000 in
theorem lg_undo {ro : Nat → Option (Nat × (Nat → Int32))} {G : Nat → List (Option Value) → List Value → Hp → Prop} {L : Nat} {xs : Nat → Int32} (hR : Rules code "ParcelBallLaw" 12 4 ro G) (hro : ro 45 = some (L, xs)) (hL : L ≤ 3072) {j : Nat} (hj : 6 * j + 6 ≤ L) {σ : Hp} {d : Int} (h : Jx σ d) (hd0 : 0 ≤ d) (hd : d ≤ 30720) (kk : ∀ σ', Jx σ' (d + 60) → G 1366 [some (.ref 45), some (.ref 0), some (.ref 18), some (.int (nI (6 * j)))] [] σ') : G 1294 [some (.ref 45), some (.ref 0), some (.ref 18), some (.int (nI (6 * j)))] [] σ := by
  obtain ⟨v, X, c1, c2⟩ := op_undo h hd0 hd
  refine g_al_1 hR dL_law_1294 ?_
  refine g_cvP hR ciX4_undo dL_law_1295 ml_L_167 (Nat.le_of_ble_eq_true rfl) (by decide) rfl rfl rfl (c1) rfl (Nat.le_of_ble_eq_true rfl) rfl (fun σ1 h1 => ?_)
  obtain ⟨M, c3, hM⟩ := c2 σ1 h1
  refine g_al_2 hR dL_law_1298 ?_
  refine g_cvP hR ciX5_undo dL_law_1299 ml_L_170 (Nat.le_of_ble_eq_true rfl) (by decide) rfl rfl rfl (c3) rfl (Nat.le_of_ble_eq_true rfl) rfl (fun σ2 h2 => ?_)
  refine g_icmp_eq (tgt := 1366) hR dL_law_1302 (by decide) (fun _ => ?_) (fun h_c => absurd (rfl) h_c)
  exact kk σ2 (hM.eb h2)
set_option maxHeartbeats 4000000 in
theorem lg_tear {ro : Nat → Option (Nat × (Nat → Int32))} {G : Nat → List (Option Value) → List Value → Hp → Prop} {L : Nat} {xs : Nat → Int32} (hR : Rules code "ParcelBallLaw" 12 4 ro G) (hro : ro 45 = some (L, xs)) (hL : L ≤ 3072) {j : Nat} (hj : 6 * j + 6 ≤ L) {σ : Hp} {d : Int} (h : Jx σ d) (hd0 : 0 ≤ d) (hd : d ≤ 30720) (kk : ∀ σ', Jx σ' (d + 60) → G 1366 [some (.ref 45), some (.ref 0), some (.ref 18), some (.int (nI (6 * j)))] [] σ') : G 1307 [some (.ref 45), some (.ref 0), some (.ref 18), some (.int (nI (6 * j)))] [] σ := by
  obtain ⟨v, X, c1, c2⟩ := op_tear h hd0 hd
  refine g_al_1 hR dL_law_1307 ?_
  refine g_cvP hR ciX4_tear dL_law_1308 ml_L_171 (Nat.le_of_ble_eq_true rfl) (by decide) rfl rfl rfl (c1) rfl (Nat.le_of_ble_eq_true rfl) rfl (fun σ1 h1 => ?_)
  obtain ⟨M, c3, hM⟩ := c2 σ1 h1
  refine g_al_2 hR dL_law_1311 ?_
  refine g_cvP hR ciX5_tear dL_law_1312 ml_L_174 (Nat.le_of_ble_eq_true rfl) (by decide) rfl rfl rfl (c3) rfl (Nat.le_of_ble_eq_true rfl) rfl (fun σ2 h2 => ?_)
  refine g_icmp_eq (tgt := 1366) hR dL_law_1315 (by decide) (fun _ => ?_) (fun h_c => absurd (rfl) h_c)
  exact kk σ2 (hM.eb h2)
set_option maxHeartbeats 4000000 in
theorem lg_count {ro : Nat → Option (Nat × (Nat → Int32))} {G : Nat → List (Option Value) → List Value → Hp → Prop} {L : Nat} {xs : Nat → Int32} (hR : Rules code "ParcelBallLaw" 12 4 ro G) (hro : ro 45 = some (L, xs)) (hL : L ≤ 3072) {j : Nat} (hj : 6 * j + 6 ≤ L) {σ : Hp} {d : Int} (h : Jx σ d) (hd0 : 0 ≤ d) (hd : d ≤ 30720) (kk : ∀ σ', Jx σ' (d + 60) → G 1366 [some (.ref 45), some (.ref 0), some (.ref 18), some (.int (nI (6 * j)))] [] σ') : G 1320 [some (.ref 45), some (.ref 0), some (.ref 18), some (.int (nI (6 * j)))] [] σ := by
  obtain ⟨v, X, c1, c2⟩ := op_count (xs (6 * j + 1)) h hd0 hd
  refine g_al_1 hR dL_law_1320 ?_
  refine g_al_0 hR dL_law_1321 ?_
  refine g_il_3 hR dL_law_1322 ?_
  refine g_iconst_1 hR dL_law_1323 ?_
  refine g_iadd hR dL_law_1324 ?_
  refine g_roald hR (6 * j + 1) hro (by omega) (by omega) (nI_add (6 * j) 1) dL_law_1325 ?_
  refine g_cvP hR ciX4_count dL_law_1326 ml_L_175 (Nat.le_of_ble_eq_true rfl) (by decide) rfl rfl rfl (c1) rfl (Nat.le_of_ble_eq_true rfl) rfl (fun σ1 h1 => ?_)
  obtain ⟨M, c3, hM⟩ := c2 σ1 h1
  refine g_al_2 hR dL_law_1329 ?_
  refine g_al_0 hR dL_law_1330 ?_
  refine g_il_3 hR dL_law_1331 ?_
  refine g_iconst_1 hR dL_law_1332 ?_
  refine g_iadd hR dL_law_1333 ?_
  refine g_roald hR (6 * j + 1) hro (by omega) (by omega) (nI_add (6 * j) 1) dL_law_1334 ?_
  refine g_cvP hR ciX5_count dL_law_1335 ml_L_178 (Nat.le_of_ble_eq_true rfl) (by decide) rfl rfl rfl (c3) rfl (Nat.le_of_ble_eq_true rfl) rfl (fun σ2 h2 => ?_)
  refine g_icmp_eq (tgt := 1366) hR dL_law_1338 (by decide) (fun _ => ?_) (fun h_c => absurd (rfl) h_c)
  exact kk σ2 (hM.eb h2)
set_option maxHeartbeats 4000000 in
theorem lg_status {ro : Nat → Option (Nat × (Nat → Int32))} {G : Nat → List (Option Value) → List Value → Hp → Prop} {L : Nat} {xs : Nat → Int32} (hR : Rules code "ParcelBallLaw" 12 4 ro G) (hro : ro 45 = some (L, xs)) (hL : L ≤ 3072) {j : Nat} (hj : 6 * j + 6 ≤ L) {σ : Hp} {d : Int} (h : Jx σ d) (hd0 : 0 ≤ d) (hd : d ≤ 30720) (kk : ∀ σ', Jx σ' (d + 60) → G 1366 [some (.ref 45), some (.ref 0), some (.ref 18), some (.int (nI (6 * j)))] [] σ') : G 1343 [some (.ref 45), some (.ref 0), some (.ref 18), some (.int (nI (6 * j)))] [] σ := by
  obtain ⟨v, X, c1, c2⟩ := op_status (xs (6 * j + 1)) h hd0 hd
  refine g_al_1 hR dL_law_1343 ?_
  refine g_al_0 hR dL_law_1344 ?_
  refine g_il_3 hR dL_law_1345 ?_
  refine g_iconst_1 hR dL_law_1346 ?_
  refine g_iadd hR dL_law_1347 ?_
  refine g_roald hR (6 * j + 1) hro (by omega) (by omega) (nI_add (6 * j) 1) dL_law_1348 ?_
  refine g_cvP hR ciX4_status dL_law_1349 ml_L_179 (Nat.le_of_ble_eq_true rfl) (by decide) rfl rfl rfl (c1) rfl (Nat.le_of_ble_eq_true rfl) rfl (fun σ1 h1 => ?_)
  obtain ⟨M, c3, hM⟩ := c2 σ1 h1
  refine g_al_2 hR dL_law_1352 ?_
  refine g_al_0 hR dL_law_1353 ?_
  refine g_il_3 hR dL_law_1354 ?_
  refine g_iconst_1 hR dL_law_1355 ?_
  refine g_iadd hR dL_law_1356 ?_
  refine g_roald hR (6 * j + 1) hro (by omega) (by omega) (nI_add (6 * j) 1) dL_law_1357 ?_
  refine g_cvP hR ciX5_status dL_law_1358 ml_L_182 (Nat.le_of_ble_eq_true rfl) (by decide) rfl rfl rfl (c3) rfl (Nat.le_of_ble_eq_true rfl) rfl (fun σ2 h2 => ?_)
  refine g_icmp_eq (tgt := 1366) hR dL_law_1361 (by decide) (fun _ => ?_) (fun h_c => absurd (rfl) h_c)
  exact kk σ2 (hM.eb h2)
theorem Jx.up60 {σ : Hp} {d : Int} (h : Jx σ d) : Jx σ (d + 60) := by
  obtain ⟨n, t, nk, h⟩ := h; exact ⟨n, t, nk, h.up (by omega)⟩
theorem lw_gt {L j : Nat} (hL : L ≤ 3072) (hj : j ≤ 3072) : nI L - 6 < nI (6 * j) ↔ L < 6 * j + 6 := by
  have e6 : (6 : Int32).toInt = 6 := rfl
  rw [i_lt, i_sub (by rw [i_n (by omega)]; omega) (by rw [i_n (by omega)]; omega), i_n (by omega), i_n (by omega), e6]; omega
set_option maxRecDepth 100000 in
set_option maxHeartbeats 16000000 in
theorem lw_loop {ro : Nat → Option (Nat × (Nat → Int32))} {G : Nat → List (Option Value) → List Value → Hp → Prop} {L : Nat} {xs : Nat → Int32} (hR : Rules code "ParcelBallLaw" 12 4 ro G) (hro : ro 45 = some (L, xs)) (hL : L ≤ 3072) (hend : ∀ ls σ, G 1373 ls [.int 1] σ) : ∀ (f j : Nat) (σ : Hp), L ≤ 6 * j + f → j ≤ 3072 → Jx σ (60 * (j : Int)) → G 18 [some (.ref 45), some (.ref 0), some (.ref 18), some (.int (nI (6 * j)))] [] σ := by
  intro f
  induction f with
  | zero =>
    intro j σ hf hjm hJ
    refine g_il_3 hR dL_law_18 ?_
    refine g_al_0 hR dL_law_19 ?_
    refine g_rolen hR hro dL_law_20 ?_
    refine g_bipush_6 hR dL_law_21 ?_
    refine g_isub hR dL_law_23 ?_
    refine g_icmp_gt (tgt := 1372) hR dL_law_24 (by decide) (fun _ => ?_) (fun h_c => absurd ((lw_gt hL hjm).mpr (by omega)) h_c)
    refine g_iconst_1 hR dL_law_1372 ?_
    exact hend _ _
  | succ f ih =>
    intro j σ hf hjm hJ
    refine g_il_3 hR dL_law_18 ?_
    refine g_al_0 hR dL_law_19 ?_
    refine g_rolen hR hro dL_law_20 ?_
    by_cases hj : 6 * j + 6 ≤ L
    · have kk : ∀ σ', Jx σ' (60 * (j : Int) + 60) → G 1366 [some (.ref 45), some (.ref 0), some (.ref 18), some (.int (nI (6 * j)))] [] σ' := by
        intro σ' hJ'
        refine g_ii_3 hR dL_law_1366 (show nI (6 * j) + 6 = nI (6 * (j + 1)) from nI_add (6 * j) 6) trivial ?_
        refine g_goto (tgt := 18) hR dL_law_1369 (by decide) ?_
        exact ih (j + 1) σ' (by omega) (by omega) (by rw [show 60 * ((j + 1 : Nat) : Int) = 60 * (j : Int) + 60 by omega]; exact hJ')
      have hd0 : (0 : Int) ≤ 60 * (j : Int) := by omega
      have hd : 60 * (j : Int) ≤ 30720 := by omega
      obtain ⟨k, hk, ek⟩ := pk_andE (xs (6 * j)) (m := 63) 6 (by decide)
      refine g_bipush_6 hR dL_law_21 ?_
      refine g_isub hR dL_law_23 ?_
      refine g_icmp_gt (tgt := 1372) hR dL_law_24 (by decide) (fun h_c => absurd h_c ((fun q => absurd ((lw_gt hL hjm).mp q) (by omega)))) (fun _ => ?_)
      refine g_al_0 hR dL_law_27 ?_
      refine g_il_3 hR dL_law_28 ?_
      refine g_roald hR (6 * j) hro (by omega) (by omega) rfl dL_law_29 ?_
      refine g_bipush_63 hR dL_law_30 ?_
      refine g_iand hR dL_law_32 ?_
      refine g_top ek ?_
      by_cases h40 : k ≤ 40
      · have hk64 : k < 64 := hk
        rcases (show k = 0 ∨ k = 1 ∨ k = 2 ∨ k = 3 ∨ k = 4 ∨ k = 5 ∨ k = 6 ∨ k = 7 ∨ k = 8 ∨ k = 9 ∨ k = 10 ∨ k = 11 ∨ k = 12 ∨ k = 13 ∨ k = 14 ∨ k = 15 ∨ k = 16 ∨ k = 17 ∨ k = 18 ∨ k = 19 ∨ k = 20 ∨ k = 21 ∨ k = 22 ∨ k = 23 ∨ k = 24 ∨ k = 25 ∨ k = 26 ∨ k = 27 ∨ k = 28 ∨ k = 29 ∨ k = 30 ∨ k = 31 ∨ k = 32 ∨ k = 33 ∨ k = 34 ∨ k = 35 ∨ k = 36 ∨ k = 37 ∨ k = 38 ∨ k = 39 ∨ k = 40 by omega) with rfl | rfl | rfl | rfl | rfl | rfl | rfl | rfl | rfl | rfl | rfl | rfl | rfl | rfl | rfl | rfl | rfl | rfl | rfl | rfl | rfl | rfl | rfl | rfl | rfl | rfl | rfl | rfl | rfl | rfl | rfl | rfl | rfl | rfl | rfl | rfl | rfl | rfl | rfl | rfl | rfl
        · refine g_tin (off := 179) (tgt := 212) hR dL_law_33 (by decide) (by decide) (by decide) (by decide) ?_
          exact lg_ball hR hro hL hj hJ hd0 hd kk
        · refine g_tin (off := 202) (tgt := 235) hR dL_law_33 (by decide) (by decide) (by decide) (by decide) ?_
          exact lg_drag hR hro hL hj hJ hd0 hd kk
        · refine g_tin (off := 225) (tgt := 258) hR dL_law_33 (by decide) (by decide) (by decide) (by decide) ?_
          exact lg_wind hR hro hL hj hJ hd0 hd kk
        · refine g_tin (off := 258) (tgt := 291) hR dL_law_33 (by decide) (by decide) (by decide) (by decide) ?_
          exact lg_of hR hro hL hj hJ hd0 hd kk
        · refine g_tin (off := 291) (tgt := 324) hR dL_law_33 (by decide) (by decide) (by decide) (by decide) ?_
          exact lg_change hR hro hL hj hJ hd0 hd kk
        · refine g_tin (off := 334) (tgt := 367) hR dL_law_33 (by decide) (by decide) (by decide) (by decide) ?_
          exact lg_lend hR hro hL hj hJ hd0 hd kk
        · refine g_tin (off := 357) (tgt := 390) hR dL_law_33 (by decide) (by decide) (by decide) (by decide) ?_
          exact lg_felt hR hro hL hj hJ hd0 hd kk
        · refine g_tin (off := 380) (tgt := 413) hR dL_law_33 (by decide) (by decide) (by decide) (by decide) ?_
          exact lg_go hR hro hL hj hJ hd0 hd kk
        · refine g_tin (off := 403) (tgt := 436) hR dL_law_33 (by decide) (by decide) (by decide) (by decide) ?_
          exact lg_now hR hro hL hj hJ hd0 hd kk
        · refine g_tin (off := 426) (tgt := 459) hR dL_law_33 (by decide) (by decide) (by decide) (by decide) ?_
          exact lg_ahead hR hro hL hj hJ hd0 hd kk
        · refine g_tin (off := 469) (tgt := 502) hR dL_law_33 (by decide) (by decide) (by decide) (by decide) ?_
          exact lg_where hR hro hL hj hJ hd0 hd kk
        · refine g_tin (off := 492) (tgt := 525) hR dL_law_33 (by decide) (by decide) (by decide) (by decide) ?_
          exact lg_when hR hro hL hj hJ hd0 hd kk
        · refine g_tin (off := 515) (tgt := 548) hR dL_law_33 (by decide) (by decide) (by decide) (by decide) ?_
          exact lg_comes hR hro hL hj hJ hd0 hd kk
        · refine g_tin (off := 538) (tgt := 571) hR dL_law_33 (by decide) (by decide) (by decide) (by decide) ?_
          exact lg_off hR hro hL hj hJ hd0 hd kk
        · refine g_tin (off := 551) (tgt := 584) hR dL_law_33 (by decide) (by decide) (by decide) (by decide) ?_
          exact lg_unwind hR hro hL hj hJ hd0 hd kk
        · refine g_tin (off := 574) (tgt := 607) hR dL_law_33 (by decide) (by decide) (by decide) (by decide) ?_
          exact lg_had hR hro hL hj hJ hd0 hd kk
        · refine g_tin (off := 597) (tgt := 630) hR dL_law_33 (by decide) (by decide) (by decide) (by decide) ?_
          exact lg_drawTo hR hro hL hj hJ hd0 hd kk
        · refine g_tin (off := 640) (tgt := 673) hR dL_law_33 (by decide) (by decide) (by decide) (by decide) ?_
          exact lg_longFor hR hro hL hj hJ hd0 hd kk
        · refine g_tin (off := 683) (tgt := 716) hR dL_law_33 (by decide) (by decide) (by decide) (by decide) ?_
          exact lg_kindFor hR hro hL hj hJ hd0 hd kk
        · refine g_tin (off := 716) (tgt := 749) hR dL_law_33 (by decide) (by decide) (by decide) (by decide) ?_
          exact lg_dragFor hR hro hL hj hJ hd0 hd kk
        · refine g_tin (off := 749) (tgt := 782) hR dL_law_33 (by decide) (by decide) (by decide) (by decide) ?_
          exact lg_loosen hR hro hL hj hJ hd0 hd kk
        · refine g_tin (off := 782) (tgt := 815) hR dL_law_33 (by decide) (by decide) (by decide) (by decide) ?_
          exact lg_fits hR hro hL hj hJ hd0 hd kk
        · refine g_tin (off := 815) (tgt := 848) hR dL_law_33 (by decide) (by decide) (by decide) (by decide) ?_
          exact lg_kinds hR hro hL hj hJ hd0 hd kk
        · refine g_tin (off := 848) (tgt := 881) hR dL_law_33 (by decide) (by decide) (by decide) (by decide) ?_
          exact lg_parcels hR hro hL hj hJ hd0 hd kk
        · refine g_tin (off := 871) (tgt := 904) hR dL_law_33 (by decide) (by decide) (by decide) (by decide) ?_
          exact lg_odds hR hro hL hj hJ hd0 hd kk
        · refine g_tin (off := 905) (tgt := 938) hR dL_law_33 (by decide) (by decide) (by decide) (by decide) ?_
          exact lg_seed hR hro hL hj hJ hd0 hd kk
        · refine g_tin (off := 928) (tgt := 961) hR dL_law_33 (by decide) (by decide) (by decide) (by decide) ?_
          exact lg_feed hR hro hL hj hJ hd0 hd kk
        · refine g_tin (off := 961) (tgt := 994) hR dL_law_33 (by decide) (by decide) (by decide) (by decide) ?_
          exact lg_wipe hR hro hL hj hJ hd0 hd kk
        · refine g_tin (off := 974) (tgt := 1007) hR dL_law_33 (by decide) (by decide) (by decide) (by decide) ?_
          exact lg_text hR hro hL hj hJ hd0 hd kk
        · refine g_tin (off := 987) (tgt := 1020) hR dL_law_33 (by decide) (by decide) (by decide) (by decide) ?_
          exact lg_hold hR hro hL hj hJ hd0 hd kk
        · refine g_tin (off := 1020) (tgt := 1053) hR dL_law_33 (by decide) (by decide) (by decide) (by decide) ?_
          exact lg_as hR hro hL hj hJ hd0 hd kk
        · refine g_tin (off := 1053) (tgt := 1086) hR dL_law_33 (by decide) (by decide) (by decide) (by decide) ?_
          exact lg_sheet hR hro hL hj hJ hd0 hd kk
        · refine g_tin (off := 1096) (tgt := 1129) hR dL_law_33 (by decide) (by decide) (by decide) (by decide) ?_
          exact lg_write hR hro hL hj hJ hd0 hd kk
        · refine g_tin (off := 1139) (tgt := 1172) hR dL_law_33 (by decide) (by decide) (by decide) (by decide) ?_
          exact lg_copy hR hro hL hj hJ hd0 hd kk
        · refine g_tin (off := 1202) (tgt := 1235) hR dL_law_33 (by decide) (by decide) (by decide) (by decide) ?_
          exact lg_load hR hro hL hj hJ hd0 hd kk
        · refine g_tin (off := 1225) (tgt := 1258) hR dL_law_33 (by decide) (by decide) (by decide) (by decide) ?_
          exact lg_judge hR hro hL hj hJ hd0 hd kk
        · refine g_tin (off := 1248) (tgt := 1281) hR dL_law_33 (by decide) (by decide) (by decide) (by decide) ?_
          exact lg_image hR hro hL hj hJ hd0 hd kk
        · refine g_tin (off := 1261) (tgt := 1294) hR dL_law_33 (by decide) (by decide) (by decide) (by decide) ?_
          exact lg_undo hR hro hL hj hJ hd0 hd kk
        · refine g_tin (off := 1274) (tgt := 1307) hR dL_law_33 (by decide) (by decide) (by decide) (by decide) ?_
          exact lg_tear hR hro hL hj hJ hd0 hd kk
        · refine g_tin (off := 1287) (tgt := 1320) hR dL_law_33 (by decide) (by decide) (by decide) (by decide) ?_
          exact lg_count hR hro hL hj hJ hd0 hd kk
        · refine g_tin (off := 1310) (tgt := 1343) hR dL_law_33 (by decide) (by decide) (by decide) (by decide) ?_
          exact lg_status hR hro hL hj hJ hd0 hd kk
      · have hk64 : k < 64 := hk
        refine g_tout (tgt := 1366) hR dL_law_33 (Or.inr (by rw [i_n (by omega)]; omega)) (by decide) ?_
        exact kk σ (hJ.up60)
    · refine g_bipush_6 hR dL_law_21 ?_
      refine g_isub hR dL_law_23 ?_
      refine g_icmp_gt (tgt := 1372) hR dL_law_24 (by decide) (fun _ => ?_) (fun h_c => absurd ((lw_gt hL hjm).mpr (by omega)) h_c)
      refine g_iconst_1 hR dL_law_1372 ?_
      exact hend _ _