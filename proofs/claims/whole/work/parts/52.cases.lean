/-! the law, case by case -/
def INV (σ : SG) : Prop := ∃ a h t f, WFA a ∧ BH h ∧ okR σ.2.2 ∧ CI σ.1 σ.2.2 a h t f ∧ MI σ.1 a h t f
set_option maxRecDepth 20000 in
theorem la_table {b L i : Nat} {xs : Nat → Int32} {S : Nat → Nat → Int32} {Lg : Nat → Nat → Int64} {R : Nat × Nat × Nat} (hi : i + 6 ≤ L) (ih : ∀ σ', INV σ' → LT b L xs 1222 i [] σ') (hI : INV (S, Lg, R)) : LT b L xs 180 i [] (S, Lg, R) := by
  obtain ⟨a, h, t, f, hwf, hbh, hR, hC, hM⟩ := hI
  refine LT_ld1 dL_law_180 ?_
  refine LT_arg (k := 1) dL_law_181 dL_law_182 dL_law_183 (by decide) dL_law_184 dL_law_185 (by omega) ?_
  refine LT_arg (k := 2) dL_law_186 dL_law_187 dL_law_188 (by decide) dL_law_189 dL_law_190 (by omega) ?_
  refine LT_arg (k := 3) dL_law_191 dL_law_192 dL_law_193 (by decide) dL_law_194 dL_law_195 (by omega) ?_
  refine LT_arg (k := 4) dL_law_196 dL_law_197 dL_law_198 (by decide) dL_law_199 dL_law_200 (by omega) ?_
  refine LT_inv4 (M' := mX6_table) dL_law_201 ml_L_13 imX6_table rfl (Nat.le_of_ble_eq_true rfl) rfl (Nat.le_of_ble_eq_true rfl) rfl (Nat.le_of_ble_eq_true rfl) (Nat.le_of_ble_eq_true rfl) (k6_table hR hwf hbh hC) (fun r σ' hq => ?_)
  obtain ⟨S1, L1, R1, rfl, hR1, rfl, hC1, e1⟩ := hq
  have hM1 := hM.cong e1
  refine LT_ld2 dL_law_204 ?_
  refine LT_arg (k := 1) dL_law_205 dL_law_206 dL_law_207 (by decide) dL_law_208 dL_law_209 (by omega) ?_
  refine LT_arg (k := 2) dL_law_210 dL_law_211 dL_law_212 (by decide) dL_law_213 dL_law_214 (by omega) ?_
  refine LT_arg (k := 3) dL_law_215 dL_law_216 dL_law_217 (by decide) dL_law_218 dL_law_219 (by omega) ?_
  refine LT_arg (k := 4) dL_law_220 dL_law_221 dL_law_222 (by decide) dL_law_223 dL_law_224 (by omega) ?_
  refine LT_inv4 (M' := mX7_table) dL_law_225 ml_L_17 imX7_table rfl (Nat.le_of_ble_eq_true rfl) rfl (Nat.le_of_ble_eq_true rfl) rfl (Nat.le_of_ble_eq_true rfl) (Nat.le_of_ble_eq_true rfl) (k7_table hwf hbh hM1) (fun r σ' hq => ?_)
  obtain ⟨S2, L2, rfl, rfl, hM2, e2⟩ := hq
  refine LT_cmp dL_law_228 (by decide) ?_
  exact ih _ ⟨_, _, _, _, (WFA_table hwf), hbh, hR1, CI.cong hR1 hC1 e2, hM2⟩
set_option maxRecDepth 20000 in
theorem la_ofGuest {b L i : Nat} {xs : Nat → Int32} {S : Nat → Nat → Int32} {Lg : Nat → Nat → Int64} {R : Nat × Nat × Nat} (hi : i + 6 ≤ L) (ih : ∀ σ', INV σ' → LT b L xs 1222 i [] σ') (hI : INV (S, Lg, R)) : LT b L xs 233 i [] (S, Lg, R) := by
  obtain ⟨a, h, t, f, hwf, hbh, hR, hC, hM⟩ := hI
  refine LT_ld1 dL_law_233 ?_
  refine LT_arg (k := 1) dL_law_234 dL_law_235 dL_law_236 (by decide) dL_law_237 dL_law_238 (by omega) ?_
  refine LT_arg (k := 2) dL_law_239 dL_law_240 dL_law_241 (by decide) dL_law_242 dL_law_243 (by omega) ?_
  refine LT_inv2 (M' := mX6_ofGuest) dL_law_244 ml_L_18 imX6_ofGuest rfl (Nat.le_of_ble_eq_true rfl) rfl (Nat.le_of_ble_eq_true rfl) rfl (Nat.le_of_ble_eq_true rfl) (Nat.le_of_ble_eq_true rfl) (k6_ofGuest hR hwf hbh hC) (fun r σ' hq => ?_)
  obtain ⟨S1, L1, R1, rfl, hR1, rfl, hC1, e1⟩ := hq
  have hM1 := hM.cong e1
  refine LT_ld2 dL_law_247 ?_
  refine LT_arg (k := 1) dL_law_248 dL_law_249 dL_law_250 (by decide) dL_law_251 dL_law_252 (by omega) ?_
  refine LT_arg (k := 2) dL_law_253 dL_law_254 dL_law_255 (by decide) dL_law_256 dL_law_257 (by omega) ?_
  refine LT_inv2 (M' := mX7_ofGuest) dL_law_258 ml_L_22 imX7_ofGuest rfl (Nat.le_of_ble_eq_true rfl) rfl (Nat.le_of_ble_eq_true rfl) rfl (Nat.le_of_ble_eq_true rfl) (Nat.le_of_ble_eq_true rfl) (k7_ofGuest hwf hbh hM1) (fun r σ' hq => ?_)
  obtain ⟨S2, L2, rfl, rfl, hM2, e2⟩ := hq
  refine LT_cmp dL_law_261 (by decide) ?_
  exact ih _ ⟨_, _, _, _, hwf, hbh, hR1, CI.cong hR1 hC1 e2, hM2⟩
set_option maxRecDepth 20000 in
theorem la_ofDish {b L i : Nat} {xs : Nat → Int32} {S : Nat → Nat → Int32} {Lg : Nat → Nat → Int64} {R : Nat × Nat × Nat} (hi : i + 6 ≤ L) (ih : ∀ σ', INV σ' → LT b L xs 1222 i [] σ') (hI : INV (S, Lg, R)) : LT b L xs 266 i [] (S, Lg, R) := by
  obtain ⟨a, h, t, f, hwf, hbh, hR, hC, hM⟩ := hI
  refine LT_ld1 dL_law_266 ?_
  refine LT_arg (k := 1) dL_law_267 dL_law_268 dL_law_269 (by decide) dL_law_270 dL_law_271 (by omega) ?_
  refine LT_arg (k := 2) dL_law_272 dL_law_273 dL_law_274 (by decide) dL_law_275 dL_law_276 (by omega) ?_
  refine LT_inv2 (M' := mX6_ofDish) dL_law_277 ml_L_23 imX6_ofDish rfl (Nat.le_of_ble_eq_true rfl) rfl (Nat.le_of_ble_eq_true rfl) rfl (Nat.le_of_ble_eq_true rfl) (Nat.le_of_ble_eq_true rfl) (k6_ofDish hR hwf hbh hC) (fun r σ' hq => ?_)
  obtain ⟨S1, L1, R1, rfl, hR1, rfl, hC1, e1⟩ := hq
  have hM1 := hM.cong e1
  refine LT_ld2 dL_law_280 ?_
  refine LT_arg (k := 1) dL_law_281 dL_law_282 dL_law_283 (by decide) dL_law_284 dL_law_285 (by omega) ?_
  refine LT_arg (k := 2) dL_law_286 dL_law_287 dL_law_288 (by decide) dL_law_289 dL_law_290 (by omega) ?_
  refine LT_inv2 (M' := mX7_ofDish) dL_law_291 ml_L_26 imX7_ofDish rfl (Nat.le_of_ble_eq_true rfl) rfl (Nat.le_of_ble_eq_true rfl) rfl (Nat.le_of_ble_eq_true rfl) (Nat.le_of_ble_eq_true rfl) (k7_ofDish hwf hbh hM1) (fun r σ' hq => ?_)
  obtain ⟨S2, L2, rfl, rfl, hM2, e2⟩ := hq
  refine LT_cmp dL_law_294 (by decide) ?_
  exact ih _ ⟨_, _, _, _, hwf, hbh, hR1, CI.cong hR1 hC1 e2, hM2⟩
set_option maxRecDepth 20000 in
theorem la_whose {b L i : Nat} {xs : Nat → Int32} {S : Nat → Nat → Int32} {Lg : Nat → Nat → Int64} {R : Nat × Nat × Nat} (hi : i + 6 ≤ L) (ih : ∀ σ', INV σ' → LT b L xs 1222 i [] σ') (hI : INV (S, Lg, R)) : LT b L xs 299 i [] (S, Lg, R) := by
  obtain ⟨a, h, t, f, hwf, hbh, hR, hC, hM⟩ := hI
  refine LT_ld1 dL_law_299 ?_
  refine LT_arg (k := 1) dL_law_300 dL_law_301 dL_law_302 (by decide) dL_law_303 dL_law_304 (by omega) ?_
  refine LT_inv1 (M' := mX6_whose) dL_law_305 ml_L_27 imX6_whose rfl (Nat.le_of_ble_eq_true rfl) rfl (Nat.le_of_ble_eq_true rfl) rfl (Nat.le_of_ble_eq_true rfl) (Nat.le_of_ble_eq_true rfl) (k6_whose hR hwf hbh hC) (fun r σ' hq => ?_)
  obtain ⟨S1, L1, R1, rfl, hR1, rfl, hC1, e1⟩ := hq
  have hM1 := hM.cong e1
  refine LT_ld2 dL_law_308 ?_
  refine LT_arg (k := 1) dL_law_309 dL_law_310 dL_law_311 (by decide) dL_law_312 dL_law_313 (by omega) ?_
  refine LT_inv1 (M' := mX7_whose) dL_law_314 ml_L_31 imX7_whose rfl (Nat.le_of_ble_eq_true rfl) rfl (Nat.le_of_ble_eq_true rfl) rfl (Nat.le_of_ble_eq_true rfl) (Nat.le_of_ble_eq_true rfl) (k7_whose hwf hbh hM1) (fun r σ' hq => ?_)
  obtain ⟨S2, L2, rfl, rfl, hM2, e2⟩ := hq
  refine LT_cmp dL_law_317 (by decide) ?_
  exact ih _ ⟨_, _, _, _, hwf, hbh, hR1, CI.cong hR1 hC1 e2, hM2⟩
set_option maxRecDepth 20000 in
theorem la_land {b L i : Nat} {xs : Nat → Int32} {S : Nat → Nat → Int32} {Lg : Nat → Nat → Int64} {R : Nat × Nat × Nat} (hi : i + 6 ≤ L) (ih : ∀ σ', INV σ' → LT b L xs 1222 i [] σ') (hI : INV (S, Lg, R)) : LT b L xs 322 i [] (S, Lg, R) := by
  obtain ⟨a, h, t, f, hwf, hbh, hR, hC, hM⟩ := hI
  refine LT_ld1 dL_law_322 ?_
  refine LT_arg (k := 1) dL_law_323 dL_law_324 dL_law_325 (by decide) dL_law_326 dL_law_327 (by omega) ?_
  refine LT_inv1 (M' := mX6_land) dL_law_328 ml_L_32 imX6_land rfl (Nat.le_of_ble_eq_true rfl) rfl (Nat.le_of_ble_eq_true rfl) rfl (Nat.le_of_ble_eq_true rfl) (Nat.le_of_ble_eq_true rfl) (k6_land hR hwf hbh hC) (fun r σ' hq => ?_)
  obtain ⟨S1, L1, R1, rfl, hR1, rfl, hC1, e1⟩ := hq
  have hM1 := hM.cong e1
  refine LT_ld2 dL_law_331 ?_
  refine LT_arg (k := 1) dL_law_332 dL_law_333 dL_law_334 (by decide) dL_law_335 dL_law_336 (by omega) ?_
  refine LT_inv1 (M' := mX7_land) dL_law_337 ml_L_35 imX7_land rfl (Nat.le_of_ble_eq_true rfl) rfl (Nat.le_of_ble_eq_true rfl) rfl (Nat.le_of_ble_eq_true rfl) (Nat.le_of_ble_eq_true rfl) (k7_land hwf hbh hM1) (fun r σ' hq => ?_)
  obtain ⟨S2, L2, rfl, rfl, hM2, e2⟩ := hq
  refine LT_cmp dL_law_340 (by decide) ?_
  exact ih _ ⟨_, _, _, _, hwf, hbh, hR1, CI.cong hR1 hC1 e2, hM2⟩
set_option maxRecDepth 20000 in
theorem la_chew {b L i : Nat} {xs : Nat → Int32} {S : Nat → Nat → Int32} {Lg : Nat → Nat → Int64} {R : Nat × Nat × Nat} (hi : i + 6 ≤ L) (ih : ∀ σ', INV σ' → LT b L xs 1222 i [] σ') (hI : INV (S, Lg, R)) : LT b L xs 345 i [] (S, Lg, R) := by
  obtain ⟨a, h, t, f, hwf, hbh, hR, hC, hM⟩ := hI
  refine LT_ld1 dL_law_345 ?_
  refine LT_arg (k := 1) dL_law_346 dL_law_347 dL_law_348 (by decide) dL_law_349 dL_law_350 (by omega) ?_
  refine LT_arg (k := 2) dL_law_351 dL_law_352 dL_law_353 (by decide) dL_law_354 dL_law_355 (by omega) ?_
  refine LT_inv2 (M' := mX6_chew) dL_law_356 ml_L_36 imX6_chew rfl (Nat.le_of_ble_eq_true rfl) rfl (Nat.le_of_ble_eq_true rfl) rfl (Nat.le_of_ble_eq_true rfl) (Nat.le_of_ble_eq_true rfl) (k6_chew hR hwf hbh hC) (fun r σ' hq => ?_)
  obtain ⟨S1, L1, R1, rfl, hR1, rfl, hC1, e1⟩ := hq
  have hM1 := hM.cong e1
  refine LT_ld2 dL_law_359 ?_
  refine LT_arg (k := 1) dL_law_360 dL_law_361 dL_law_362 (by decide) dL_law_363 dL_law_364 (by omega) ?_
  refine LT_arg (k := 2) dL_law_365 dL_law_366 dL_law_367 (by decide) dL_law_368 dL_law_369 (by omega) ?_
  refine LT_inv2 (M' := mX7_chew) dL_law_370 ml_L_39 imX7_chew rfl (Nat.le_of_ble_eq_true rfl) rfl (Nat.le_of_ble_eq_true rfl) rfl (Nat.le_of_ble_eq_true rfl) (Nat.le_of_ble_eq_true rfl) (k7_chew hwf hbh hM1) (fun r σ' hq => ?_)
  obtain ⟨S2, L2, rfl, rfl, hM2, e2⟩ := hq
  refine LT_cmp dL_law_373 (by decide) ?_
  exact ih _ ⟨_, _, _, _, (WFA_chew hwf), hbh, hR1, CI.cong hR1 hC1 e2, hM2⟩
set_option maxRecDepth 20000 in
theorem la_cook {b L i : Nat} {xs : Nat → Int32} {S : Nat → Nat → Int32} {Lg : Nat → Nat → Int64} {R : Nat × Nat × Nat} (hi : i + 6 ≤ L) (ih : ∀ σ', INV σ' → LT b L xs 1222 i [] σ') (hI : INV (S, Lg, R)) : LT b L xs 378 i [] (S, Lg, R) := by
  obtain ⟨a, h, t, f, hwf, hbh, hR, hC, hM⟩ := hI
  refine LT_ld1 dL_law_378 ?_
  refine LT_arg (k := 1) dL_law_379 dL_law_380 dL_law_381 (by decide) dL_law_382 dL_law_383 (by omega) ?_
  refine LT_inv1 (M' := mX6_cook) dL_law_384 ml_L_40 imX6_cook rfl (Nat.le_of_ble_eq_true rfl) rfl (Nat.le_of_ble_eq_true rfl) rfl (Nat.le_of_ble_eq_true rfl) (Nat.le_of_ble_eq_true rfl) (k6_cook hR hwf hbh hC) (fun r σ' hq => ?_)
  obtain ⟨S1, L1, R1, rfl, hR1, rfl, hC1, e1⟩ := hq
  have hM1 := hM.cong e1
  refine LT_ld2 dL_law_387 ?_
  refine LT_arg (k := 1) dL_law_388 dL_law_389 dL_law_390 (by decide) dL_law_391 dL_law_392 (by omega) ?_
  refine LT_inv1 (M' := mX7_cook) dL_law_393 ml_L_43 imX7_cook rfl (Nat.le_of_ble_eq_true rfl) rfl (Nat.le_of_ble_eq_true rfl) rfl (Nat.le_of_ble_eq_true rfl) (Nat.le_of_ble_eq_true rfl) (k7_cook hwf hbh hM1) (fun r σ' hq => ?_)
  obtain ⟨S2, L2, rfl, rfl, hM2, e2⟩ := hq
  refine LT_cmp dL_law_396 (by decide) ?_
  exact ih _ ⟨_, _, _, _, (WFA_cook hwf), hbh, hR1, CI.cong hR1 hC1 e2, hM2⟩
set_option maxRecDepth 20000 in
theorem la_rate {b L i : Nat} {xs : Nat → Int32} {S : Nat → Nat → Int32} {Lg : Nat → Nat → Int64} {R : Nat × Nat × Nat} (hi : i + 6 ≤ L) (ih : ∀ σ', INV σ' → LT b L xs 1222 i [] σ') (hI : INV (S, Lg, R)) : LT b L xs 401 i [] (S, Lg, R) := by
  obtain ⟨a, h, t, f, hwf, hbh, hR, hC, hM⟩ := hI
  refine LT_ld1 dL_law_401 ?_
  refine LT_arg (k := 1) dL_law_402 dL_law_403 dL_law_404 (by decide) dL_law_405 dL_law_406 (by omega) ?_
  refine LT_arg (k := 2) dL_law_407 dL_law_408 dL_law_409 (by decide) dL_law_410 dL_law_411 (by omega) ?_
  refine LT_inv2 (M' := mX6_rate) dL_law_412 ml_L_44 imX6_rate rfl (Nat.le_of_ble_eq_true rfl) rfl (Nat.le_of_ble_eq_true rfl) rfl (Nat.le_of_ble_eq_true rfl) (Nat.le_of_ble_eq_true rfl) (k6_rate hR hwf hbh hC) (fun r σ' hq => ?_)
  obtain ⟨S1, L1, R1, rfl, hR1, rfl, hC1, e1⟩ := hq
  have hM1 := hM.cong e1
  refine LT_ld2 dL_law_415 ?_
  refine LT_arg (k := 1) dL_law_416 dL_law_417 dL_law_418 (by decide) dL_law_419 dL_law_420 (by omega) ?_
  refine LT_arg (k := 2) dL_law_421 dL_law_422 dL_law_423 (by decide) dL_law_424 dL_law_425 (by omega) ?_
  refine LT_inv2 (M' := mX7_rate) dL_law_426 ml_L_47 imX7_rate rfl (Nat.le_of_ble_eq_true rfl) rfl (Nat.le_of_ble_eq_true rfl) rfl (Nat.le_of_ble_eq_true rfl) (Nat.le_of_ble_eq_true rfl) (k7_rate hwf hbh hM1) (fun r σ' hq => ?_)
  obtain ⟨S2, L2, rfl, rfl, hM2, e2⟩ := hq
  refine LT_cmp dL_law_429 (by decide) ?_
  exact ih _ ⟨_, _, _, _, (WFA_rate hwf), hbh, hR1, CI.cong hR1 hC1 e2, hM2⟩
set_option maxRecDepth 20000 in
theorem la_carry {b L i : Nat} {xs : Nat → Int32} {S : Nat → Nat → Int32} {Lg : Nat → Nat → Int64} {R : Nat × Nat × Nat} (hi : i + 6 ≤ L) (ih : ∀ σ', INV σ' → LT b L xs 1222 i [] σ') (hI : INV (S, Lg, R)) : LT b L xs 434 i [] (S, Lg, R) := by
  obtain ⟨a, h, t, f, hwf, hbh, hR, hC, hM⟩ := hI
  refine LT_ld1 dL_law_434 ?_
  refine LT_arg (k := 1) dL_law_435 dL_law_436 dL_law_437 (by decide) dL_law_438 dL_law_439 (by omega) ?_
  refine LT_arg (k := 2) dL_law_440 dL_law_441 dL_law_442 (by decide) dL_law_443 dL_law_444 (by omega) ?_
  refine LT_inv2 (M' := mX6_carry) dL_law_445 ml_L_48 imX6_carry rfl (Nat.le_of_ble_eq_true rfl) rfl (Nat.le_of_ble_eq_true rfl) rfl (Nat.le_of_ble_eq_true rfl) (Nat.le_of_ble_eq_true rfl) (k6_carry hR hwf hbh hC) (fun r σ' hq => ?_)
  obtain ⟨S1, L1, R1, rfl, hR1, rfl, hC1, e1⟩ := hq
  have hM1 := hM.cong e1
  refine LT_ld2 dL_law_448 ?_
  refine LT_arg (k := 1) dL_law_449 dL_law_450 dL_law_451 (by decide) dL_law_452 dL_law_453 (by omega) ?_
  refine LT_arg (k := 2) dL_law_454 dL_law_455 dL_law_456 (by decide) dL_law_457 dL_law_458 (by omega) ?_
  refine LT_inv2 (M' := mX7_carry) dL_law_459 ml_L_51 imX7_carry rfl (Nat.le_of_ble_eq_true rfl) rfl (Nat.le_of_ble_eq_true rfl) rfl (Nat.le_of_ble_eq_true rfl) (Nat.le_of_ble_eq_true rfl) (k7_carry hwf hbh hM1) (fun r σ' hq => ?_)
  obtain ⟨S2, L2, rfl, rfl, hM2, e2⟩ := hq
  refine LT_cmp dL_law_462 (by decide) ?_
  exact ih _ ⟨_, _, _, _, (WFA_carry hwf), hbh, hR1, CI.cong hR1 hC1 e2, hM2⟩
set_option maxRecDepth 20000 in
theorem la_pass {b L i : Nat} {xs : Nat → Int32} {S : Nat → Nat → Int32} {Lg : Nat → Nat → Int64} {R : Nat × Nat × Nat} (hi : i + 6 ≤ L) (ih : ∀ σ', INV σ' → LT b L xs 1222 i [] σ') (hI : INV (S, Lg, R)) : LT b L xs 467 i [] (S, Lg, R) := by
  obtain ⟨a, h, t, f, hwf, hbh, hR, hC, hM⟩ := hI
  refine LT_ld1 dL_law_467 ?_
  refine LT_arg (k := 1) dL_law_468 dL_law_469 dL_law_470 (by decide) dL_law_471 dL_law_472 (by omega) ?_
  refine LT_inv1 (M' := mX6_pass) dL_law_473 ml_L_52 imX6_pass rfl (Nat.le_of_ble_eq_true rfl) rfl (Nat.le_of_ble_eq_true rfl) rfl (Nat.le_of_ble_eq_true rfl) (Nat.le_of_ble_eq_true rfl) (k6_pass hR hwf hbh hC) (fun r σ' hq => ?_)
  obtain ⟨S1, L1, R1, rfl, hR1, rfl, hC1, e1⟩ := hq
  have hM1 := hM.cong e1
  refine LT_ld2 dL_law_476 ?_
  refine LT_arg (k := 1) dL_law_477 dL_law_478 dL_law_479 (by decide) dL_law_480 dL_law_481 (by omega) ?_
  refine LT_inv1 (M' := mX7_pass) dL_law_482 ml_L_55 imX7_pass rfl (Nat.le_of_ble_eq_true rfl) rfl (Nat.le_of_ble_eq_true rfl) rfl (Nat.le_of_ble_eq_true rfl) (Nat.le_of_ble_eq_true rfl) (k7_pass hwf hbh hM1) (fun r σ' hq => ?_)
  obtain ⟨S2, L2, rfl, rfl, hM2, e2⟩ := hq
  refine LT_cmp dL_law_485 (by decide) ?_
  exact ih _ ⟨_, _, _, _, (WFA_pass hwf), hbh, hR1, CI.cong hR1 hC1 e2, hM2⟩
set_option maxRecDepth 20000 in
theorem la_dinner {b L i : Nat} {xs : Nat → Int32} {S : Nat → Nat → Int32} {Lg : Nat → Nat → Int64} {R : Nat × Nat × Nat} (hi : i + 6 ≤ L) (ih : ∀ σ', INV σ' → LT b L xs 1222 i [] σ') (hI : INV (S, Lg, R)) : LT b L xs 490 i [] (S, Lg, R) := by
  obtain ⟨a, h, t, f, hwf, hbh, hR, hC, hM⟩ := hI
  refine LT_ld1 dL_law_490 ?_
  refine LT_arg (k := 1) dL_law_491 dL_law_492 dL_law_493 (by decide) dL_law_494 dL_law_495 (by omega) ?_
  refine LT_arg (k := 2) dL_law_496 dL_law_497 dL_law_498 (by decide) dL_law_499 dL_law_500 (by omega) ?_
  refine LT_arg (k := 3) dL_law_501 dL_law_502 dL_law_503 (by decide) dL_law_504 dL_law_505 (by omega) ?_
  refine LT_arg (k := 4) dL_law_506 dL_law_507 dL_law_508 (by decide) dL_law_509 dL_law_510 (by omega) ?_
  refine LT_arg (k := 5) dL_law_511 dL_law_512 dL_law_513 (by decide) dL_law_514 dL_law_515 (by omega) ?_
  refine LT_inv5 (M' := mX6_dinner) dL_law_516 ml_L_56 imX6_dinner rfl (Nat.le_of_ble_eq_true rfl) rfl (Nat.le_of_ble_eq_true rfl) rfl (Nat.le_of_ble_eq_true rfl) (Nat.le_of_ble_eq_true rfl) (k6_dinner hR hwf hbh hC) (fun r σ' hq => ?_)
  obtain ⟨S1, L1, R1, rfl, hR1, rfl, hC1, e1⟩ := hq
  have hM1 := hM.cong e1
  refine LT_ld2 dL_law_519 ?_
  refine LT_arg (k := 1) dL_law_520 dL_law_521 dL_law_522 (by decide) dL_law_523 dL_law_524 (by omega) ?_
  refine LT_arg (k := 2) dL_law_525 dL_law_526 dL_law_527 (by decide) dL_law_528 dL_law_529 (by omega) ?_
  refine LT_arg (k := 3) dL_law_530 dL_law_531 dL_law_532 (by decide) dL_law_533 dL_law_534 (by omega) ?_
  refine LT_arg (k := 4) dL_law_535 dL_law_536 dL_law_537 (by decide) dL_law_538 dL_law_539 (by omega) ?_
  refine LT_arg (k := 5) dL_law_540 dL_law_541 dL_law_542 (by decide) dL_law_543 dL_law_544 (by omega) ?_
  refine LT_inv5 (M' := mX7_dinner) dL_law_545 ml_L_60 imX7_dinner rfl (Nat.le_of_ble_eq_true rfl) rfl (Nat.le_of_ble_eq_true rfl) rfl (Nat.le_of_ble_eq_true rfl) (Nat.le_of_ble_eq_true rfl) (k7_dinner hwf hbh hM1) (fun r σ' hq => ?_)
  obtain ⟨S2, L2, rfl, rfl, hM2, e2⟩ := hq
  refine LT_cmp dL_law_548 (by decide) ?_
  exact ih _ ⟨_, _, _, _, hwf, hbh, hR1, CI.cong hR1 hC1 e2, hM2⟩
set_option maxRecDepth 20000 in
theorem la_ask {b L i : Nat} {xs : Nat → Int32} {S : Nat → Nat → Int32} {Lg : Nat → Nat → Int64} {R : Nat × Nat × Nat} (hi : i + 6 ≤ L) (ih : ∀ σ', INV σ' → LT b L xs 1222 i [] σ') (hI : INV (S, Lg, R)) : LT b L xs 553 i [] (S, Lg, R) := by
  obtain ⟨a, h, t, f, hwf, hbh, hR, hC, hM⟩ := hI
  refine LT_ld1 dL_law_553 ?_
  refine LT_arg (k := 1) dL_law_554 dL_law_555 dL_law_556 (by decide) dL_law_557 dL_law_558 (by omega) ?_
  refine LT_arg (k := 2) dL_law_559 dL_law_560 dL_law_561 (by decide) dL_law_562 dL_law_563 (by omega) ?_
  refine LT_arg (k := 3) dL_law_564 dL_law_565 dL_law_566 (by decide) dL_law_567 dL_law_568 (by omega) ?_
  refine LT_inv3 (M' := mX6_ask) dL_law_569 ml_L_61 imX6_ask rfl (Nat.le_of_ble_eq_true rfl) rfl (Nat.le_of_ble_eq_true rfl) rfl (Nat.le_of_ble_eq_true rfl) (Nat.le_of_ble_eq_true rfl) (k6_ask hR hwf hbh hC) (fun r σ' hq => ?_)
  obtain ⟨S1, L1, R1, rfl, hR1, ⟨v, rfl, hv⟩, hC1, e1⟩ := hq
  have hM1 := hM.cong e1
  refine LT_ld2 dL_law_572 ?_
  refine LT_arg (k := 1) dL_law_573 dL_law_574 dL_law_575 (by decide) dL_law_576 dL_law_577 (by omega) ?_
  refine LT_arg (k := 2) dL_law_578 dL_law_579 dL_law_580 (by decide) dL_law_581 dL_law_582 (by omega) ?_
  refine LT_arg (k := 3) dL_law_583 dL_law_584 dL_law_585 (by decide) dL_law_586 dL_law_587 (by omega) ?_
  refine LT_inv3 (M' := mX7_ask) dL_law_588 ml_L_65 imX7_ask rfl (Nat.le_of_ble_eq_true rfl) rfl (Nat.le_of_ble_eq_true rfl) rfl (Nat.le_of_ble_eq_true rfl) (Nat.le_of_ble_eq_true rfl) (k7_ask hwf hbh hM1) (fun r σ' hq => ?_)
  obtain ⟨S2, L2, rfl, ⟨v2, rfl, hv2⟩, hM2, e2⟩ := hq
  have ev := AskP_eq hwf hv hv2
  subst ev
  refine LT_cmp dL_law_591 (by decide) ?_
  exact ih _ ⟨_, _, _, _, hwf, hbh, hR1, CI.cong hR1 hC1 e2, hM2⟩
set_option maxRecDepth 20000 in
theorem la_treaty {b L i : Nat} {xs : Nat → Int32} {S : Nat → Nat → Int32} {Lg : Nat → Nat → Int64} {R : Nat × Nat × Nat} (hi : i + 6 ≤ L) (ih : ∀ σ', INV σ' → LT b L xs 1222 i [] σ') (hI : INV (S, Lg, R)) : LT b L xs 596 i [] (S, Lg, R) := by
  obtain ⟨a, h, t, f, hwf, hbh, hR, hC, hM⟩ := hI
  refine LT_ld1 dL_law_596 ?_
  refine LT_arg (k := 1) dL_law_597 dL_law_598 dL_law_599 (by decide) dL_law_600 dL_law_601 (by omega) ?_
  refine LT_inv1 (M' := mX6_treaty) dL_law_602 ml_L_66 imX6_treaty rfl (Nat.le_of_ble_eq_true rfl) rfl (Nat.le_of_ble_eq_true rfl) rfl (Nat.le_of_ble_eq_true rfl) (Nat.le_of_ble_eq_true rfl) (k6_treaty hR hwf hbh hC) (fun r σ' hq => ?_)
  obtain ⟨S1, L1, R1, rfl, hR1, ⟨v, rfl, hv⟩, hC1, e1⟩ := hq
  have hM1 := hM.cong e1
  refine LT_ld2 dL_law_605 ?_
  refine LT_arg (k := 1) dL_law_606 dL_law_607 dL_law_608 (by decide) dL_law_609 dL_law_610 (by omega) ?_
  refine LT_inv1 (M' := mX7_treaty) dL_law_611 ml_L_69 imX7_treaty rfl (Nat.le_of_ble_eq_true rfl) rfl (Nat.le_of_ble_eq_true rfl) rfl (Nat.le_of_ble_eq_true rfl) (Nat.le_of_ble_eq_true rfl) (k7_treaty hwf hbh hM1) (fun r σ' hq => ?_)
  obtain ⟨S2, L2, rfl, ⟨v2, rfl, hv2⟩, hM2, e2⟩ := hq
  have ev := TreP_eq hwf hv hv2
  subst ev
  refine LT_cmp dL_law_614 (by decide) ?_
  exact ih _ ⟨_, _, _, _, hwf, hbh, hR1, CI.cong hR1 hC1 e2, hM2⟩
set_option maxRecDepth 20000 in
theorem la_game {b L i : Nat} {xs : Nat → Int32} {S : Nat → Nat → Int32} {Lg : Nat → Nat → Int64} {R : Nat × Nat × Nat} (hi : i + 6 ≤ L) (ih : ∀ σ', INV σ' → LT b L xs 1222 i [] σ') (hI : INV (S, Lg, R)) : LT b L xs 619 i [] (S, Lg, R) := by
  obtain ⟨a, h, t, f, hwf, hbh, hR, hC, hM⟩ := hI
  refine LT_ld1 dL_law_619 ?_
  refine LT_arg (k := 1) dL_law_620 dL_law_621 dL_law_622 (by decide) dL_law_623 dL_law_624 (by omega) ?_
  refine LT_arg (k := 2) dL_law_625 dL_law_626 dL_law_627 (by decide) dL_law_628 dL_law_629 (by omega) ?_
  refine LT_arg (k := 3) dL_law_630 dL_law_631 dL_law_632 (by decide) dL_law_633 dL_law_634 (by omega) ?_
  refine LT_inv3 (M' := mX6_game) dL_law_635 ml_L_70 imX6_game rfl (Nat.le_of_ble_eq_true rfl) rfl (Nat.le_of_ble_eq_true rfl) rfl (Nat.le_of_ble_eq_true rfl) (Nat.le_of_ble_eq_true rfl) (k6_game hR hwf hbh hC) (fun r σ' hq => ?_)
  obtain ⟨S1, L1, R1, rfl, hR1, rfl, hC1, e1⟩ := hq
  have hM1 := hM.cong e1
  refine LT_ld2 dL_law_638 ?_
  refine LT_arg (k := 1) dL_law_639 dL_law_640 dL_law_641 (by decide) dL_law_642 dL_law_643 (by omega) ?_
  refine LT_arg (k := 2) dL_law_644 dL_law_645 dL_law_646 (by decide) dL_law_647 dL_law_648 (by omega) ?_
  refine LT_arg (k := 3) dL_law_649 dL_law_650 dL_law_651 (by decide) dL_law_652 dL_law_653 (by omega) ?_
  refine LT_inv3 (M' := mX7_game) dL_law_654 ml_L_73 imX7_game rfl (Nat.le_of_ble_eq_true rfl) rfl (Nat.le_of_ble_eq_true rfl) rfl (Nat.le_of_ble_eq_true rfl) (Nat.le_of_ble_eq_true rfl) (k7_game hwf hbh hM1) (fun r σ' hq => ?_)
  obtain ⟨S2, L2, rfl, rfl, hM2, e2⟩ := hq
  refine LT_cmp dL_law_657 (by decide) ?_
  exact ih _ ⟨_, _, _, _, hwf, hbh, hR1, CI.cong hR1 hC1 e2, hM2⟩
set_option maxRecDepth 20000 in
theorem la_spilt {b L i : Nat} {xs : Nat → Int32} {S : Nat → Nat → Int32} {Lg : Nat → Nat → Int64} {R : Nat × Nat × Nat} (hi : i + 6 ≤ L) (ih : ∀ σ', INV σ' → LT b L xs 1222 i [] σ') (hI : INV (S, Lg, R)) : LT b L xs 662 i [] (S, Lg, R) := by
  obtain ⟨a, h, t, f, hwf, hbh, hR, hC, hM⟩ := hI
  refine LT_ld1 dL_law_662 ?_
  refine LT_arg (k := 1) dL_law_663 dL_law_664 dL_law_665 (by decide) dL_law_666 dL_law_667 (by omega) ?_
  refine LT_inv1 (M' := mX6_spilt) dL_law_668 ml_L_74 imX6_spilt rfl (Nat.le_of_ble_eq_true rfl) rfl (Nat.le_of_ble_eq_true rfl) rfl (Nat.le_of_ble_eq_true rfl) (Nat.le_of_ble_eq_true rfl) (k6_spilt hR hwf hbh hC) (fun r σ' hq => ?_)
  obtain ⟨S1, L1, R1, rfl, hR1, rfl, hC1, e1⟩ := hq
  have hM1 := hM.cong e1
  refine LT_ld2 dL_law_671 ?_
  refine LT_arg (k := 1) dL_law_672 dL_law_673 dL_law_674 (by decide) dL_law_675 dL_law_676 (by omega) ?_
  refine LT_inv1 (M' := mX7_spilt) dL_law_677 ml_L_77 imX7_spilt rfl (Nat.le_of_ble_eq_true rfl) rfl (Nat.le_of_ble_eq_true rfl) rfl (Nat.le_of_ble_eq_true rfl) (Nat.le_of_ble_eq_true rfl) (k7_spilt hwf hbh hM1) (fun r σ' hq => ?_)
  obtain ⟨S2, L2, rfl, rfl, hM2, e2⟩ := hq
  refine LT_cmp dL_law_680 (by decide) ?_
  exact ih _ ⟨_, _, _, _, hwf, hbh, hR1, CI.cong hR1 hC1 e2, hM2⟩
set_option maxRecDepth 20000 in
theorem la_home {b L i : Nat} {xs : Nat → Int32} {S : Nat → Nat → Int32} {Lg : Nat → Nat → Int64} {R : Nat × Nat × Nat} (hi : i + 6 ≤ L) (ih : ∀ σ', INV σ' → LT b L xs 1222 i [] σ') (hI : INV (S, Lg, R)) : LT b L xs 685 i [] (S, Lg, R) := by
  obtain ⟨a, h, t, f, hwf, hbh, hR, hC, hM⟩ := hI
  refine LT_ld1 dL_law_685 ?_
  refine LT_arg (k := 1) dL_law_686 dL_law_687 dL_law_688 (by decide) dL_law_689 dL_law_690 (by omega) ?_
  refine LT_inv1 (M' := mX6_home) dL_law_691 ml_L_78 imX6_home rfl (Nat.le_of_ble_eq_true rfl) rfl (Nat.le_of_ble_eq_true rfl) rfl (Nat.le_of_ble_eq_true rfl) (Nat.le_of_ble_eq_true rfl) (k6_home hR hwf hbh hC) (fun r σ' hq => ?_)
  obtain ⟨S1, L1, R1, rfl, hR1, rfl, hC1, e1⟩ := hq
  have hM1 := hM.cong e1
  refine LT_ld2 dL_law_694 ?_
  refine LT_arg (k := 1) dL_law_695 dL_law_696 dL_law_697 (by decide) dL_law_698 dL_law_699 (by omega) ?_
  refine LT_inv1 (M' := mX7_home) dL_law_700 ml_L_82 imX7_home rfl (Nat.le_of_ble_eq_true rfl) rfl (Nat.le_of_ble_eq_true rfl) rfl (Nat.le_of_ble_eq_true rfl) (Nat.le_of_ble_eq_true rfl) (k7_home hwf hbh hM1) (fun r σ' hq => ?_)
  obtain ⟨S2, L2, rfl, rfl, hM2, e2⟩ := hq
  refine LT_lcmp dL_law_703 dL_law_704 (by decide) ?_
  exact ih _ ⟨_, _, _, _, hwf, hbh, hR1, CI.cong hR1 hC1 e2, hM2⟩
set_option maxRecDepth 20000 in
theorem la_reading {b L i : Nat} {xs : Nat → Int32} {S : Nat → Nat → Int32} {Lg : Nat → Nat → Int64} {R : Nat × Nat × Nat} (hi : i + 6 ≤ L) (ih : ∀ σ', INV σ' → LT b L xs 1222 i [] σ') (hI : INV (S, Lg, R)) : LT b L xs 709 i [] (S, Lg, R) := by
  obtain ⟨a, h, t, f, hwf, hbh, hR, hC, hM⟩ := hI
  refine LT_ld1 dL_law_709 ?_
  refine LT_arg (k := 1) dL_law_710 dL_law_711 dL_law_712 (by decide) dL_law_713 dL_law_714 (by omega) ?_
  refine LT_arg (k := 2) dL_law_715 dL_law_716 dL_law_717 (by decide) dL_law_718 dL_law_719 (by omega) ?_
  refine LT_inv2 (M' := mX6_reading) dL_law_720 ml_L_83 imX6_reading rfl (Nat.le_of_ble_eq_true rfl) rfl (Nat.le_of_ble_eq_true rfl) rfl (Nat.le_of_ble_eq_true rfl) (Nat.le_of_ble_eq_true rfl) (k6_reading hR hwf hbh hC) (fun r σ' hq => ?_)
  obtain ⟨S1, L1, R1, rfl, hR1, rfl, hC1, e1⟩ := hq
  have hM1 := hM.cong e1
  refine LT_ld2 dL_law_723 ?_
  refine LT_arg (k := 1) dL_law_724 dL_law_725 dL_law_726 (by decide) dL_law_727 dL_law_728 (by omega) ?_
  refine LT_arg (k := 2) dL_law_729 dL_law_730 dL_law_731 (by decide) dL_law_732 dL_law_733 (by omega) ?_
  refine LT_inv2 (M' := mX7_reading) dL_law_734 ml_L_86 imX7_reading rfl (Nat.le_of_ble_eq_true rfl) rfl (Nat.le_of_ble_eq_true rfl) rfl (Nat.le_of_ble_eq_true rfl) (Nat.le_of_ble_eq_true rfl) (k7_reading hwf hbh hM1) (fun r σ' hq => ?_)
  obtain ⟨S2, L2, rfl, rfl, hM2, e2⟩ := hq
  refine LT_cmp dL_law_737 (by decide) ?_
  exact ih _ ⟨_, _, _, _, (WFA_reading hwf), hbh, hR1, CI.cong hR1 hC1 e2, hM2⟩
set_option maxRecDepth 20000 in
theorem la_back {b L i : Nat} {xs : Nat → Int32} {S : Nat → Nat → Int32} {Lg : Nat → Nat → Int64} {R : Nat × Nat × Nat} (hi : i + 6 ≤ L) (ih : ∀ σ', INV σ' → LT b L xs 1222 i [] σ') (hI : INV (S, Lg, R)) : LT b L xs 742 i [] (S, Lg, R) := by
  obtain ⟨a, h, t, f, hwf, hbh, hR, hC, hM⟩ := hI
  refine LT_ld1 dL_law_742 ?_
  refine LT_arg (k := 1) dL_law_743 dL_law_744 dL_law_745 (by decide) dL_law_746 dL_law_747 (by omega) ?_
  refine LT_inv1 (M' := mX6_back) dL_law_748 ml_L_87 imX6_back rfl (Nat.le_of_ble_eq_true rfl) rfl (Nat.le_of_ble_eq_true rfl) rfl (Nat.le_of_ble_eq_true rfl) (Nat.le_of_ble_eq_true rfl) (k6_back hR hwf hbh hC) (fun r σ' hq => ?_)
  obtain ⟨S1, L1, R1, rfl, hR1, rfl, hC1, e1⟩ := hq
  have hM1 := hM.cong e1
  refine LT_ld2 dL_law_751 ?_
  refine LT_arg (k := 1) dL_law_752 dL_law_753 dL_law_754 (by decide) dL_law_755 dL_law_756 (by omega) ?_
  refine LT_inv1 (M' := mX7_back) dL_law_757 ml_L_90 imX7_back rfl (Nat.le_of_ble_eq_true rfl) rfl (Nat.le_of_ble_eq_true rfl) rfl (Nat.le_of_ble_eq_true rfl) (Nat.le_of_ble_eq_true rfl) (k7_back hwf hbh hM1) (fun r σ' hq => ?_)
  obtain ⟨S2, L2, rfl, rfl, hM2, e2⟩ := hq
  refine LT_cmp dL_law_760 (by decide) ?_
  exact ih _ ⟨_, _, _, _, (WFA_back hwf), hbh, hR1, CI.cong hR1 hC1 e2, hM2⟩
set_option maxRecDepth 20000 in
theorem la_mouths {b L i : Nat} {xs : Nat → Int32} {S : Nat → Nat → Int32} {Lg : Nat → Nat → Int64} {R : Nat × Nat × Nat} (hi : i + 6 ≤ L) (ih : ∀ σ', INV σ' → LT b L xs 1222 i [] σ') (hI : INV (S, Lg, R)) : LT b L xs 765 i [] (S, Lg, R) := by
  obtain ⟨a, h, t, f, hwf, hbh, hR, hC, hM⟩ := hI
  refine LT_ld1 dL_law_765 ?_
  refine LT_arg (k := 1) dL_law_766 dL_law_767 dL_law_768 (by decide) dL_law_769 dL_law_770 (by omega) ?_
  refine LT_inv1 (M' := mX6_mouths) dL_law_771 ml_L_91 imX6_mouths rfl (Nat.le_of_ble_eq_true rfl) rfl (Nat.le_of_ble_eq_true rfl) rfl (Nat.le_of_ble_eq_true rfl) (Nat.le_of_ble_eq_true rfl) (k6_mouths hR hwf hbh hC) (fun r σ' hq => ?_)
  obtain ⟨S1, L1, R1, rfl, hR1, rfl, hC1, e1⟩ := hq
  have hM1 := hM.cong e1
  refine LT_ld2 dL_law_774 ?_
  refine LT_arg (k := 1) dL_law_775 dL_law_776 dL_law_777 (by decide) dL_law_778 dL_law_779 (by omega) ?_
  refine LT_inv1 (M' := mX7_mouths) dL_law_780 ml_L_94 imX7_mouths rfl (Nat.le_of_ble_eq_true rfl) rfl (Nat.le_of_ble_eq_true rfl) rfl (Nat.le_of_ble_eq_true rfl) (Nat.le_of_ble_eq_true rfl) (k7_mouths hwf hbh hM1) (fun r σ' hq => ?_)
  obtain ⟨S2, L2, rfl, rfl, hM2, e2⟩ := hq
  refine LT_cmp dL_law_783 (by decide) ?_
  exact ih _ ⟨_, _, _, _, hwf, hbh, hR1, CI.cong hR1 hC1 e2, hM2⟩
set_option maxRecDepth 20000 in
theorem la_kinds {b L i : Nat} {xs : Nat → Int32} {S : Nat → Nat → Int32} {Lg : Nat → Nat → Int64} {R : Nat × Nat × Nat} (hi : i + 6 ≤ L) (ih : ∀ σ', INV σ' → LT b L xs 1222 i [] σ') (hI : INV (S, Lg, R)) : LT b L xs 788 i [] (S, Lg, R) := by
  obtain ⟨a, h, t, f, hwf, hbh, hR, hC, hM⟩ := hI
  refine LT_ld1 dL_law_788 ?_
  refine LT_arg (k := 1) dL_law_789 dL_law_790 dL_law_791 (by decide) dL_law_792 dL_law_793 (by omega) ?_
  refine LT_inv1 (M' := mX6_kinds) dL_law_794 ml_L_95 imX6_kinds rfl (Nat.le_of_ble_eq_true rfl) rfl (Nat.le_of_ble_eq_true rfl) rfl (Nat.le_of_ble_eq_true rfl) (Nat.le_of_ble_eq_true rfl) (k6_kinds hR hwf hbh hC) (fun r σ' hq => ?_)
  obtain ⟨S1, L1, R1, rfl, hR1, rfl, hC1, e1⟩ := hq
  have hM1 := hM.cong e1
  refine LT_ld2 dL_law_797 ?_
  refine LT_arg (k := 1) dL_law_798 dL_law_799 dL_law_800 (by decide) dL_law_801 dL_law_802 (by omega) ?_
  refine LT_inv1 (M' := mX7_kinds) dL_law_803 ml_L_98 imX7_kinds rfl (Nat.le_of_ble_eq_true rfl) rfl (Nat.le_of_ble_eq_true rfl) rfl (Nat.le_of_ble_eq_true rfl) (Nat.le_of_ble_eq_true rfl) (k7_kinds hwf hbh hM1) (fun r σ' hq => ?_)
  obtain ⟨S2, L2, rfl, rfl, hM2, e2⟩ := hq
  refine LT_cmp dL_law_806 (by decide) ?_
  exact ih _ ⟨_, _, _, _, hwf, hbh, hR1, CI.cong hR1 hC1 e2, hM2⟩
set_option maxRecDepth 20000 in
theorem la_soups {b L i : Nat} {xs : Nat → Int32} {S : Nat → Nat → Int32} {Lg : Nat → Nat → Int64} {R : Nat × Nat × Nat} (hi : i + 6 ≤ L) (ih : ∀ σ', INV σ' → LT b L xs 1222 i [] σ') (hI : INV (S, Lg, R)) : LT b L xs 811 i [] (S, Lg, R) := by
  obtain ⟨a, h, t, f, hwf, hbh, hR, hC, hM⟩ := hI
  refine LT_ld1 dL_law_811 ?_
  refine LT_inv0 (M' := mX6_soups) dL_law_812 ml_L_99 imX6_soups rfl (Nat.le_of_ble_eq_true rfl) rfl (Nat.le_of_ble_eq_true rfl) rfl (Nat.le_of_ble_eq_true rfl) (Nat.le_of_ble_eq_true rfl) (k6_soups hR hwf hbh hC) (fun r σ' hq => ?_)
  obtain ⟨S1, L1, R1, rfl, hR1, rfl, hC1, e1⟩ := hq
  have hM1 := hM.cong e1
  refine LT_ld2 dL_law_815 ?_
  refine LT_inv0 (M' := mX7_soups) dL_law_816 ml_L_103 imX7_soups rfl (Nat.le_of_ble_eq_true rfl) rfl (Nat.le_of_ble_eq_true rfl) rfl (Nat.le_of_ble_eq_true rfl) (Nat.le_of_ble_eq_true rfl) (k7_soups hwf hbh hM1) (fun r σ' hq => ?_)
  obtain ⟨S2, L2, rfl, rfl, hM2, e2⟩ := hq
  refine LT_cmp dL_law_819 (by decide) ?_
  exact ih _ ⟨_, _, _, _, hwf, hbh, hR1, CI.cong hR1 hC1 e2, hM2⟩
set_option maxRecDepth 20000 in
theorem la_odds {b L i : Nat} {xs : Nat → Int32} {S : Nat → Nat → Int32} {Lg : Nat → Nat → Int64} {R : Nat × Nat × Nat} (hi : i + 6 ≤ L) (ih : ∀ σ', INV σ' → LT b L xs 1222 i [] σ') (hI : INV (S, Lg, R)) : LT b L xs 824 i [] (S, Lg, R) := by
  obtain ⟨a, h, t, f, hwf, hbh, hR, hC, hM⟩ := hI
  refine LT_ld1 dL_law_824 ?_
  refine LT_arg (k := 1) dL_law_825 dL_law_826 dL_law_827 (by decide) dL_law_828 dL_law_829 (by omega) ?_
  refine LT_arg (k := 2) dL_law_830 dL_law_831 dL_law_832 (by decide) dL_law_833 dL_law_834 (by omega) ?_
  refine LT_arg (k := 3) dL_law_835 dL_law_836 dL_law_837 (by decide) dL_law_838 dL_law_839 (by omega) ?_
  refine LT_arg (k := 4) dL_law_840 dL_law_841 dL_law_842 (by decide) dL_law_843 dL_law_844 (by omega) ?_
  refine LT_inv4 (M' := mX6_odds) dL_law_845 ml_L_104 imX6_odds rfl (Nat.le_of_ble_eq_true rfl) rfl (Nat.le_of_ble_eq_true rfl) rfl (Nat.le_of_ble_eq_true rfl) (Nat.le_of_ble_eq_true rfl) (k6_odds hR hwf hbh hC) (fun r σ' hq => ?_)
  obtain ⟨S1, L1, R1, rfl, hR1, rfl, hC1, e1⟩ := hq
  have hM1 := hM.cong e1
  refine LT_ld2 dL_law_848 ?_
  refine LT_arg (k := 1) dL_law_849 dL_law_850 dL_law_851 (by decide) dL_law_852 dL_law_853 (by omega) ?_
  refine LT_arg (k := 2) dL_law_854 dL_law_855 dL_law_856 (by decide) dL_law_857 dL_law_858 (by omega) ?_
  refine LT_arg (k := 3) dL_law_859 dL_law_860 dL_law_861 (by decide) dL_law_862 dL_law_863 (by omega) ?_
  refine LT_arg (k := 4) dL_law_864 dL_law_865 dL_law_866 (by decide) dL_law_867 dL_law_868 (by omega) ?_
  refine LT_inv4 (M' := mX7_odds) dL_law_869 ml_L_108 imX7_odds rfl (Nat.le_of_ble_eq_true rfl) rfl (Nat.le_of_ble_eq_true rfl) rfl (Nat.le_of_ble_eq_true rfl) (Nat.le_of_ble_eq_true rfl) (k7_odds hwf hbh hM1) (fun r σ' hq => ?_)
  obtain ⟨S2, L2, rfl, rfl, hM2, e2⟩ := hq
  refine LT_lcmp dL_law_872 dL_law_873 (by decide) ?_
  exact ih _ ⟨_, _, _, _, hwf, hbh, hR1, CI.cong hR1 hC1 e2, hM2⟩
set_option maxRecDepth 20000 in
theorem la_sheet {b L i : Nat} {xs : Nat → Int32} {S : Nat → Nat → Int32} {Lg : Nat → Nat → Int64} {R : Nat × Nat × Nat} (hi : i + 6 ≤ L) (ih : ∀ σ', INV σ' → LT b L xs 1222 i [] σ') (hI : INV (S, Lg, R)) : LT b L xs 878 i [] (S, Lg, R) := by
  obtain ⟨a, h, t, f, hwf, hbh, hR, hC, hM⟩ := hI
  refine LT_ld1 dL_law_878 ?_
  refine LT_arg (k := 1) dL_law_879 dL_law_880 dL_law_881 (by decide) dL_law_882 dL_law_883 (by omega) ?_
  refine LT_arg (k := 2) dL_law_884 dL_law_885 dL_law_886 (by decide) dL_law_887 dL_law_888 (by omega) ?_
  refine LT_arg (k := 3) dL_law_889 dL_law_890 dL_law_891 (by decide) dL_law_892 dL_law_893 (by omega) ?_
  refine LT_inv3 (M' := mX6_sheet) dL_law_894 ml_L_109 imX6_sheet rfl (Nat.le_of_ble_eq_true rfl) rfl (Nat.le_of_ble_eq_true rfl) rfl (Nat.le_of_ble_eq_true rfl) (Nat.le_of_ble_eq_true rfl) (k6_sheet hR hwf hbh hC) (fun r σ' hq => ?_)
  obtain ⟨S1, L1, R1, rfl, hR1, rfl, hC1, e1⟩ := hq
  have hM1 := hM.cong e1
  refine LT_ld2 dL_law_897 ?_
  refine LT_arg (k := 1) dL_law_898 dL_law_899 dL_law_900 (by decide) dL_law_901 dL_law_902 (by omega) ?_
  refine LT_arg (k := 2) dL_law_903 dL_law_904 dL_law_905 (by decide) dL_law_906 dL_law_907 (by omega) ?_
  refine LT_arg (k := 3) dL_law_908 dL_law_909 dL_law_910 (by decide) dL_law_911 dL_law_912 (by omega) ?_
  refine LT_inv3 (M' := mX7_sheet) dL_law_913 ml_L_112 imX7_sheet rfl (Nat.le_of_ble_eq_true rfl) rfl (Nat.le_of_ble_eq_true rfl) rfl (Nat.le_of_ble_eq_true rfl) (Nat.le_of_ble_eq_true rfl) (k7_sheet hwf hbh hM1) (fun r σ' hq => ?_)
  obtain ⟨S2, L2, rfl, rfl, hM2, e2⟩ := hq
  refine LT_cmp dL_law_916 (by decide) ?_
  exact ih _ ⟨_, _, _, _, hwf, (BH_sheet hbh), hR1, CI.cong hR1 hC1 e2, hM2⟩
set_option maxRecDepth 20000 in
theorem la_lose {b L i : Nat} {xs : Nat → Int32} {S : Nat → Nat → Int32} {Lg : Nat → Nat → Int64} {R : Nat × Nat × Nat} (hi : i + 6 ≤ L) (ih : ∀ σ', INV σ' → LT b L xs 1222 i [] σ') (hI : INV (S, Lg, R)) : LT b L xs 921 i [] (S, Lg, R) := by
  obtain ⟨a, h, t, f, hwf, hbh, hR, hC, hM⟩ := hI
  refine LT_ld1 dL_law_921 ?_
  refine LT_arg (k := 1) dL_law_922 dL_law_923 dL_law_924 (by decide) dL_law_925 dL_law_926 (by omega) ?_
  refine LT_inv1 (M' := mX6_lose) dL_law_927 ml_L_113 imX6_lose rfl (Nat.le_of_ble_eq_true rfl) rfl (Nat.le_of_ble_eq_true rfl) rfl (Nat.le_of_ble_eq_true rfl) (Nat.le_of_ble_eq_true rfl) (k6_lose hR hwf hbh hC) (fun r σ' hq => ?_)
  obtain ⟨S1, L1, R1, rfl, hR1, rfl, hC1, e1⟩ := hq
  have hM1 := hM.cong e1
  refine LT_ld2 dL_law_930 ?_
  refine LT_arg (k := 1) dL_law_931 dL_law_932 dL_law_933 (by decide) dL_law_934 dL_law_935 (by omega) ?_
  refine LT_inv1 (M' := mX7_lose) dL_law_936 ml_L_116 imX7_lose rfl (Nat.le_of_ble_eq_true rfl) rfl (Nat.le_of_ble_eq_true rfl) rfl (Nat.le_of_ble_eq_true rfl) (Nat.le_of_ble_eq_true rfl) (k7_lose hwf hbh hM1) (fun r σ' hq => ?_)
  obtain ⟨S2, L2, rfl, rfl, hM2, e2⟩ := hq
  refine LT_cmp dL_law_939 (by decide) ?_
  exact ih _ ⟨_, _, _, _, hwf, (BH_lose hbh), hR1, CI.cong hR1 hC1 e2, hM2⟩
set_option maxRecDepth 20000 in
theorem la_put {b L i : Nat} {xs : Nat → Int32} {S : Nat → Nat → Int32} {Lg : Nat → Nat → Int64} {R : Nat × Nat × Nat} (hi : i + 6 ≤ L) (ih : ∀ σ', INV σ' → LT b L xs 1222 i [] σ') (hI : INV (S, Lg, R)) : LT b L xs 944 i [] (S, Lg, R) := by
  obtain ⟨a, h, t, f, hwf, hbh, hR, hC, hM⟩ := hI
  refine LT_ld1 dL_law_944 ?_
  refine LT_arg (k := 1) dL_law_945 dL_law_946 dL_law_947 (by decide) dL_law_948 dL_law_949 (by omega) ?_
  refine LT_arg (k := 2) dL_law_950 dL_law_951 dL_law_952 (by decide) dL_law_953 dL_law_954 (by omega) ?_
  refine LT_arg (k := 3) dL_law_955 dL_law_956 dL_law_957 (by decide) dL_law_958 dL_law_959 (by omega) ?_
  refine LT_inv3 (M' := mX6_put) dL_law_960 ml_L_117 imX6_put rfl (Nat.le_of_ble_eq_true rfl) rfl (Nat.le_of_ble_eq_true rfl) rfl (Nat.le_of_ble_eq_true rfl) (Nat.le_of_ble_eq_true rfl) (k6_put hR hwf hbh hC) (fun r σ' hq => ?_)
  obtain ⟨S1, L1, R1, rfl, hR1, rfl, hC1, e1⟩ := hq
  have hM1 := hM.cong e1
  refine LT_ld2 dL_law_963 ?_
  refine LT_arg (k := 1) dL_law_964 dL_law_965 dL_law_966 (by decide) dL_law_967 dL_law_968 (by omega) ?_
  refine LT_arg (k := 2) dL_law_969 dL_law_970 dL_law_971 (by decide) dL_law_972 dL_law_973 (by omega) ?_
  refine LT_arg (k := 3) dL_law_974 dL_law_975 dL_law_976 (by decide) dL_law_977 dL_law_978 (by omega) ?_
  refine LT_inv3 (M' := mX7_put) dL_law_979 ml_L_120 imX7_put rfl (Nat.le_of_ble_eq_true rfl) rfl (Nat.le_of_ble_eq_true rfl) rfl (Nat.le_of_ble_eq_true rfl) (Nat.le_of_ble_eq_true rfl) (k7_put hwf hbh hM1) (fun r σ' hq => ?_)
  obtain ⟨S2, L2, rfl, rfl, hM2, e2⟩ := hq
  refine LT_cmp dL_law_982 (by decide) ?_
  exact ih _ ⟨_, _, _, _, hwf, (BH_put hbh), hR1, CI.cong hR1 hC1 e2, hM2⟩
set_option maxRecDepth 20000 in
theorem la_cell {b L i : Nat} {xs : Nat → Int32} {S : Nat → Nat → Int32} {Lg : Nat → Nat → Int64} {R : Nat × Nat × Nat} (hi : i + 6 ≤ L) (ih : ∀ σ', INV σ' → LT b L xs 1222 i [] σ') (hI : INV (S, Lg, R)) : LT b L xs 987 i [] (S, Lg, R) := by
  obtain ⟨a, h, t, f, hwf, hbh, hR, hC, hM⟩ := hI
  refine LT_ld1 dL_law_987 ?_
  refine LT_arg (k := 1) dL_law_988 dL_law_989 dL_law_990 (by decide) dL_law_991 dL_law_992 (by omega) ?_
  refine LT_arg (k := 2) dL_law_993 dL_law_994 dL_law_995 (by decide) dL_law_996 dL_law_997 (by omega) ?_
  refine LT_arg (k := 3) dL_law_998 dL_law_999 dL_law_1000 (by decide) dL_law_1001 dL_law_1002 (by omega) ?_
  refine LT_inv3 (M' := mX6_cell) dL_law_1003 ml_L_121 imX6_cell rfl (Nat.le_of_ble_eq_true rfl) rfl (Nat.le_of_ble_eq_true rfl) rfl (Nat.le_of_ble_eq_true rfl) (Nat.le_of_ble_eq_true rfl) (k6_cell hR hwf hbh hC) (fun r σ' hq => ?_)
  obtain ⟨S1, L1, R1, rfl, hR1, rfl, hC1, e1⟩ := hq
  have hM1 := hM.cong e1
  refine LT_ld2 dL_law_1006 ?_
  refine LT_arg (k := 1) dL_law_1007 dL_law_1008 dL_law_1009 (by decide) dL_law_1010 dL_law_1011 (by omega) ?_
  refine LT_arg (k := 2) dL_law_1012 dL_law_1013 dL_law_1014 (by decide) dL_law_1015 dL_law_1016 (by omega) ?_
  refine LT_arg (k := 3) dL_law_1017 dL_law_1018 dL_law_1019 (by decide) dL_law_1020 dL_law_1021 (by omega) ?_
  refine LT_inv3 (M' := mX7_cell) dL_law_1022 ml_L_125 imX7_cell rfl (Nat.le_of_ble_eq_true rfl) rfl (Nat.le_of_ble_eq_true rfl) rfl (Nat.le_of_ble_eq_true rfl) (Nat.le_of_ble_eq_true rfl) (k7_cell hwf hbh hM1) (fun r σ' hq => ?_)
  obtain ⟨S2, L2, rfl, rfl, hM2, e2⟩ := hq
  refine LT_lcmp dL_law_1025 dL_law_1026 (by decide) ?_
  exact ih _ ⟨_, _, _, _, hwf, hbh, hR1, CI.cong hR1 hC1 e2, hM2⟩
set_option maxRecDepth 20000 in
theorem la_copy {b L i : Nat} {xs : Nat → Int32} {S : Nat → Nat → Int32} {Lg : Nat → Nat → Int64} {R : Nat × Nat × Nat} (hi : i + 6 ≤ L) (ih : ∀ σ', INV σ' → LT b L xs 1222 i [] σ') (hI : INV (S, Lg, R)) : LT b L xs 1031 i [] (S, Lg, R) := by
  obtain ⟨a, h, t, f, hwf, hbh, hR, hC, hM⟩ := hI
  refine LT_ld1 dL_law_1031 ?_
  refine LT_arg (k := 1) dL_law_1032 dL_law_1033 dL_law_1034 (by decide) dL_law_1035 dL_law_1036 (by omega) ?_
  refine LT_arg (k := 2) dL_law_1037 dL_law_1038 dL_law_1039 (by decide) dL_law_1040 dL_law_1041 (by omega) ?_
  refine LT_arg (k := 3) dL_law_1042 dL_law_1043 dL_law_1044 (by decide) dL_law_1045 dL_law_1046 (by omega) ?_
  refine LT_arg (k := 4) dL_law_1047 dL_law_1048 dL_law_1049 (by decide) dL_law_1050 dL_law_1051 (by omega) ?_
  refine LT_arg (k := 5) dL_law_1052 dL_law_1053 dL_law_1054 (by decide) dL_law_1055 dL_law_1056 (by omega) ?_
  refine LT_inv5 (M' := mX6_copy) dL_law_1057 ml_L_126 imX6_copy rfl (Nat.le_of_ble_eq_true rfl) rfl (Nat.le_of_ble_eq_true rfl) rfl (Nat.le_of_ble_eq_true rfl) (Nat.le_of_ble_eq_true rfl) (k6_copy hR hwf hbh hC) (fun r σ' hq => ?_)
  obtain ⟨S1, L1, R1, rfl, hR1, rfl, hC1, e1⟩ := hq
  have hM1 := hM.cong e1
  refine LT_ld2 dL_law_1060 ?_
  refine LT_arg (k := 1) dL_law_1061 dL_law_1062 dL_law_1063 (by decide) dL_law_1064 dL_law_1065 (by omega) ?_
  refine LT_arg (k := 2) dL_law_1066 dL_law_1067 dL_law_1068 (by decide) dL_law_1069 dL_law_1070 (by omega) ?_
  refine LT_arg (k := 3) dL_law_1071 dL_law_1072 dL_law_1073 (by decide) dL_law_1074 dL_law_1075 (by omega) ?_
  refine LT_arg (k := 4) dL_law_1076 dL_law_1077 dL_law_1078 (by decide) dL_law_1079 dL_law_1080 (by omega) ?_
  refine LT_arg (k := 5) dL_law_1081 dL_law_1082 dL_law_1083 (by decide) dL_law_1084 dL_law_1085 (by omega) ?_
  refine LT_inv5 (M' := mX7_copy) dL_law_1086 ml_L_129 imX7_copy rfl (Nat.le_of_ble_eq_true rfl) rfl (Nat.le_of_ble_eq_true rfl) rfl (Nat.le_of_ble_eq_true rfl) (Nat.le_of_ble_eq_true rfl) (k7_copy hwf hbh hM1) (fun r σ' hq => ?_)
  obtain ⟨S2, L2, rfl, rfl, hM2, e2⟩ := hq
  refine LT_cmp dL_law_1089 (by decide) ?_
  exact ih _ ⟨_, _, _, _, hwf, (BH_copy hbh), hR1, CI.cong hR1 hC1 e2, hM2⟩
set_option maxRecDepth 20000 in
theorem la_tell {b L i : Nat} {xs : Nat → Int32} {S : Nat → Nat → Int32} {Lg : Nat → Nat → Int64} {R : Nat × Nat × Nat} (hi : i + 6 ≤ L) (ih : ∀ σ', INV σ' → LT b L xs 1222 i [] σ') (hI : INV (S, Lg, R)) : LT b L xs 1094 i [] (S, Lg, R) := by
  obtain ⟨a, h, t, f, hwf, hbh, hR, hC, hM⟩ := hI
  refine LT_ld1 dL_law_1094 ?_
  refine LT_arg (k := 1) dL_law_1095 dL_law_1096 dL_law_1097 (by decide) dL_law_1098 dL_law_1099 (by omega) ?_
  refine LT_inv1 (M' := mX6_tell) dL_law_1100 ml_L_130 imX6_tell rfl (Nat.le_of_ble_eq_true rfl) rfl (Nat.le_of_ble_eq_true rfl) rfl (Nat.le_of_ble_eq_true rfl) (Nat.le_of_ble_eq_true rfl) (k6_tell hR hwf hbh hC) (fun r σ' hq => ?_)
  obtain ⟨S1, L1, R1, rfl, hR1, rfl, hC1, e1⟩ := hq
  have hM1 := hM.cong e1
  refine LT_ld2 dL_law_1103 ?_
  refine LT_arg (k := 1) dL_law_1104 dL_law_1105 dL_law_1106 (by decide) dL_law_1107 dL_law_1108 (by omega) ?_
  refine LT_inv1 (M' := mX7_tell) dL_law_1109 ml_L_133 imX7_tell rfl (Nat.le_of_ble_eq_true rfl) rfl (Nat.le_of_ble_eq_true rfl) rfl (Nat.le_of_ble_eq_true rfl) (Nat.le_of_ble_eq_true rfl) (k7_tell hwf hbh hM1) (fun r σ' hq => ?_)
  obtain ⟨S2, L2, rfl, rfl, hM2, e2⟩ := hq
  refine LT_cmp dL_law_1112 (by decide) ?_
  exact ih _ ⟨_, _, _, _, hwf, hbh, hR1, CI.cong hR1 hC1 e2, hM2⟩
set_option maxRecDepth 20000 in
theorem la_toast {b L i : Nat} {xs : Nat → Int32} {S : Nat → Nat → Int32} {Lg : Nat → Nat → Int64} {R : Nat × Nat × Nat} (hi : i + 6 ≤ L) (ih : ∀ σ', INV σ' → LT b L xs 1222 i [] σ') (hI : INV (S, Lg, R)) : LT b L xs 1117 i [] (S, Lg, R) := by
  obtain ⟨a, h, t, f, hwf, hbh, hR, hC, hM⟩ := hI
  refine LT_ld1 dL_law_1117 ?_
  refine LT_arg (k := 1) dL_law_1118 dL_law_1119 dL_law_1120 (by decide) dL_law_1121 dL_law_1122 (by omega) ?_
  refine LT_inv1 (M' := mX6_toast) dL_law_1123 ml_L_134 imX6_toast rfl (Nat.le_of_ble_eq_true rfl) rfl (Nat.le_of_ble_eq_true rfl) rfl (Nat.le_of_ble_eq_true rfl) (Nat.le_of_ble_eq_true rfl) (k6_toast hR hwf hbh hC) (fun r σ' hq => ?_)
  obtain ⟨S1, L1, R1, rfl, hR1, rfl, hC1, e1⟩ := hq
  have hM1 := hM.cong e1
  refine LT_ld2 dL_law_1126 ?_
  refine LT_arg (k := 1) dL_law_1127 dL_law_1128 dL_law_1129 (by decide) dL_law_1130 dL_law_1131 (by omega) ?_
  refine LT_inv1 (M' := mX7_toast) dL_law_1132 ml_L_137 imX7_toast rfl (Nat.le_of_ble_eq_true rfl) rfl (Nat.le_of_ble_eq_true rfl) rfl (Nat.le_of_ble_eq_true rfl) (Nat.le_of_ble_eq_true rfl) (k7_toast hwf hbh hM1) (fun r σ' hq => ?_)
  obtain ⟨S2, L2, rfl, rfl, hM2, e2⟩ := hq
  refine LT_cmp dL_law_1135 (by decide) ?_
  exact ih _ ⟨_, _, _, _, hwf, hbh, hR1, CI.cong hR1 hC1 e2, hM2⟩
set_option maxRecDepth 20000 in
theorem la_as {b L i : Nat} {xs : Nat → Int32} {S : Nat → Nat → Int32} {Lg : Nat → Nat → Int64} {R : Nat × Nat × Nat} (hi : i + 6 ≤ L) (ih : ∀ σ', INV σ' → LT b L xs 1222 i [] σ') (hI : INV (S, Lg, R)) : LT b L xs 1140 i [] (S, Lg, R) := by
  obtain ⟨a, h, t, f, hwf, hbh, hR, hC, hM⟩ := hI
  refine LT_ld1 dL_law_1140 ?_
  refine LT_arg (k := 1) dL_law_1141 dL_law_1142 dL_law_1143 (by decide) dL_law_1144 dL_law_1145 (by omega) ?_
  refine LT_arg (k := 2) dL_law_1146 dL_law_1147 dL_law_1148 (by decide) dL_law_1149 dL_law_1150 (by omega) ?_
  refine LT_inv2 (M' := mX6_as) dL_law_1151 ml_L_138 imX6_as rfl (Nat.le_of_ble_eq_true rfl) rfl (Nat.le_of_ble_eq_true rfl) rfl (Nat.le_of_ble_eq_true rfl) (Nat.le_of_ble_eq_true rfl) (k6_as hR hwf hbh hC) (fun r σ' hq => ?_)
  obtain ⟨S1, L1, R1, rfl, hR1, rfl, hC1, e1⟩ := hq
  have hM1 := hM.cong e1
  refine LT_ld2 dL_law_1154 ?_
  refine LT_arg (k := 1) dL_law_1155 dL_law_1156 dL_law_1157 (by decide) dL_law_1158 dL_law_1159 (by omega) ?_
  refine LT_arg (k := 2) dL_law_1160 dL_law_1161 dL_law_1162 (by decide) dL_law_1163 dL_law_1164 (by omega) ?_
  refine LT_inv2 (M' := mX7_as) dL_law_1165 ml_L_141 imX7_as rfl (Nat.le_of_ble_eq_true rfl) rfl (Nat.le_of_ble_eq_true rfl) rfl (Nat.le_of_ble_eq_true rfl) (Nat.le_of_ble_eq_true rfl) (k7_as hwf hbh hM1) (fun r σ' hq => ?_)
  obtain ⟨S2, L2, rfl, rfl, hM2, e2⟩ := hq
  refine LT_cmp dL_law_1168 (by decide) ?_
  exact ih _ ⟨_, _, _, _, hwf, hbh, hR1, CI.cong hR1 hC1 e2, hM2⟩
set_option maxRecDepth 20000 in
theorem la_trace {b L i : Nat} {xs : Nat → Int32} {S : Nat → Nat → Int32} {Lg : Nat → Nat → Int64} {R : Nat × Nat × Nat} (hi : i + 6 ≤ L) (ih : ∀ σ', INV σ' → LT b L xs 1222 i [] σ') (hI : INV (S, Lg, R)) : LT b L xs 1173 i [] (S, Lg, R) := by
  obtain ⟨a, h, t, f, hwf, hbh, hR, hC, hM⟩ := hI
  refine LT_ld1 dL_law_1173 ?_
  refine LT_inv0 (M' := mX6_trace) dL_law_1174 ml_L_142 imX6_trace rfl (Nat.le_of_ble_eq_true rfl) rfl (Nat.le_of_ble_eq_true rfl) rfl (Nat.le_of_ble_eq_true rfl) (Nat.le_of_ble_eq_true rfl) (k6_trace hR hwf hbh hC) (fun r σ' hq => ?_)
  obtain ⟨S1, L1, R1, rfl, hR1, rfl, hC1, e1⟩ := hq
  have hM1 := hM.cong e1
  refine LT_ld2 dL_law_1177 ?_
  refine LT_inv0 (M' := mX7_trace) dL_law_1178 ml_L_145 imX7_trace rfl (Nat.le_of_ble_eq_true rfl) rfl (Nat.le_of_ble_eq_true rfl) rfl (Nat.le_of_ble_eq_true rfl) (Nat.le_of_ble_eq_true rfl) (k7_trace hwf hbh hM1) (fun r σ' hq => ?_)
  obtain ⟨S2, L2, rfl, rfl, hM2, e2⟩ := hq
  refine LT_cmp dL_law_1181 (by decide) ?_
  exact ih _ ⟨_, _, _, _, hwf, hbh, hR1, CI.cong hR1 hC1 e2, hM2⟩
set_option maxRecDepth 20000 in
theorem la_fault {b L i : Nat} {xs : Nat → Int32} {S : Nat → Nat → Int32} {Lg : Nat → Nat → Int64} {R : Nat × Nat × Nat} (hi : i + 6 ≤ L) (ih : ∀ σ', INV σ' → LT b L xs 1222 i [] σ') (hI : INV (S, Lg, R)) : LT b L xs 1186 i [] (S, Lg, R) := by
  obtain ⟨a, h, t, f, hwf, hbh, hR, hC, hM⟩ := hI
  refine LT_ld1 dL_law_1186 ?_
  refine LT_inv0 (M' := mX6_fault) dL_law_1187 ml_L_146 imX6_fault rfl (Nat.le_of_ble_eq_true rfl) rfl (Nat.le_of_ble_eq_true rfl) rfl (Nat.le_of_ble_eq_true rfl) (Nat.le_of_ble_eq_true rfl) (k6_fault hR hwf hbh hC) (fun r σ' hq => ?_)
  obtain ⟨S1, L1, R1, rfl, hR1, rfl, hC1, e1⟩ := hq
  have hM1 := hM.cong e1
  refine LT_ld2 dL_law_1190 ?_
  refine LT_inv0 (M' := mX7_fault) dL_law_1191 ml_L_149 imX7_fault rfl (Nat.le_of_ble_eq_true rfl) rfl (Nat.le_of_ble_eq_true rfl) rfl (Nat.le_of_ble_eq_true rfl) (Nat.le_of_ble_eq_true rfl) (k7_fault hwf hbh hM1) (fun r σ' hq => ?_)
  obtain ⟨S2, L2, rfl, rfl, hM2, e2⟩ := hq
  refine LT_cmp dL_law_1194 (by decide) ?_
  exact ih _ ⟨_, _, _, _, hwf, hbh, hR1, CI.cong hR1 hC1 e2, hM2⟩
set_option maxRecDepth 20000 in
theorem la_many {b L i : Nat} {xs : Nat → Int32} {S : Nat → Nat → Int32} {Lg : Nat → Nat → Int64} {R : Nat × Nat × Nat} (hi : i + 6 ≤ L) (ih : ∀ σ', INV σ' → LT b L xs 1222 i [] σ') (hI : INV (S, Lg, R)) : LT b L xs 1199 i [] (S, Lg, R) := by
  obtain ⟨a, h, t, f, hwf, hbh, hR, hC, hM⟩ := hI
  refine LT_ld1 dL_law_1199 ?_
  refine LT_arg (k := 1) dL_law_1200 dL_law_1201 dL_law_1202 (by decide) dL_law_1203 dL_law_1204 (by omega) ?_
  refine LT_inv1 (M' := mX6_many) dL_law_1205 ml_L_150 imX6_many rfl (Nat.le_of_ble_eq_true rfl) rfl (Nat.le_of_ble_eq_true rfl) rfl (Nat.le_of_ble_eq_true rfl) (Nat.le_of_ble_eq_true rfl) (k6_many hR hwf hbh hC) (fun r σ' hq => ?_)
  obtain ⟨S1, L1, R1, rfl, hR1, rfl, hC1, e1⟩ := hq
  have hM1 := hM.cong e1
  refine LT_ld2 dL_law_1208 ?_
  refine LT_arg (k := 1) dL_law_1209 dL_law_1210 dL_law_1211 (by decide) dL_law_1212 dL_law_1213 (by omega) ?_
  refine LT_inv1 (M' := mX7_many) dL_law_1214 ml_L_153 imX7_many rfl (Nat.le_of_ble_eq_true rfl) rfl (Nat.le_of_ble_eq_true rfl) rfl (Nat.le_of_ble_eq_true rfl) (Nat.le_of_ble_eq_true rfl) (k7_many hwf hbh hM1) (fun r σ' hq => ?_)
  obtain ⟨S2, L2, rfl, rfl, hM2, e2⟩ := hq
  refine LT_cmp dL_law_1217 (by decide) ?_
  exact ih _ ⟨_, _, _, _, hwf, hbh, hR1, CI.cong hR1 hC1 e2, hM2⟩
theorem law_loop {b L : Nat} {xs : Nat → Int32} (hL : L ≤ 384) : ∀ (n i : Nat) (σ : SG), i ≤ 390 → L ≤ i + n → INV σ → LT b L xs 18 i [] σ
  | 0, i, σ, h1, h2, hI => LT_top (by omega) (fun h6 _ => absurd h6 (by omega))
  | n + 1, i, σ, h1, h2, hI => by
    refine LT_top (by omega) (fun h6 x => ?_)
    have ih : ∀ σ', INV σ' → LT b L xs 1222 i [] σ' := fun σ' h => LT_next (by omega) (law_loop hL n (i + 6) σ' (by omega) (by omega) h)
    obtain ⟨S, Lg, R⟩ := σ
    refine LT_sw (fun j hj => ?_) (ih _ hI)
    match j, hj with
    | 0, _ => exact la_table h6 ih hI
    | 1, _ => exact la_ofGuest h6 ih hI
    | 2, _ => exact la_ofDish h6 ih hI
    | 3, _ => exact la_whose h6 ih hI
    | 4, _ => exact la_land h6 ih hI
    | 5, _ => exact la_chew h6 ih hI
    | 6, _ => exact la_cook h6 ih hI
    | 7, _ => exact la_rate h6 ih hI
    | 8, _ => exact la_carry h6 ih hI
    | 9, _ => exact la_pass h6 ih hI
    | 10, _ => exact la_dinner h6 ih hI
    | 11, _ => exact la_ask h6 ih hI
    | 12, _ => exact la_treaty h6 ih hI
    | 13, _ => exact la_game h6 ih hI
    | 14, _ => exact la_spilt h6 ih hI
    | 15, _ => exact la_home h6 ih hI
    | 16, _ => exact la_reading h6 ih hI
    | 17, _ => exact la_back h6 ih hI
    | 18, _ => exact la_mouths h6 ih hI
    | 19, _ => exact la_kinds h6 ih hI
    | 20, _ => exact la_soups h6 ih hI
    | 21, _ => exact la_odds h6 ih hI
    | 22, _ => exact la_sheet h6 ih hI
    | 23, _ => exact la_lose h6 ih hI
    | 24, _ => exact la_put h6 ih hI
    | 25, _ => exact la_cell h6 ih hI
    | 26, _ => exact la_copy h6 ih hI
    | 27, _ => exact la_tell h6 ih hI
    | 28, _ => exact la_toast h6 ih hI
    | 29, _ => exact la_as h6 ih hI
    | 30, _ => exact la_trace h6 ih hI
    | 31, _ => exact la_fault h6 ih hI
    | 32, _ => exact la_many h6 ih hI
    | j + 33, hj => exact absurd hj (by omega)
