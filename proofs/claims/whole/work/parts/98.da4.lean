theorem lc_xr (k : lc_T) (j : Int) : -2147483648 ≤ lc_x k j ∧ lc_x k j < 2147483648 := ⟨Int32.le_toInt _, Int32.toInt_lt _⟩
theorem lc_row {k : lc_T} {i : Int} {h g : am_H} (ok : lc_ok k) (hi : 0 ≤ i ∧ i + 6 ≤ lc_L k) (hC : CRel h g) (hV : MOX g) (K : ∀ h' g' : am_H, CRel h' g' → MOX g' → LW k 1299 [some (am_R 2), some (am_R 0), some (am_R 1), some (am_I i)] [] h' g') : LW k 224 [some (am_R 2), some (am_R 0), some (am_R 1), some (am_I i)] [] h g := by
  have lx := lc_xr k
  refine lr_aload ok dL_law_224 rfl ?_
  refine lr_aload ok dL_law_225 rfl ?_
  refine lr_iload ok dL_law_226 rfl ?_
  refine lr_iconst ok dL_law_227 ?_
  refine lr_iadd ok dL_law_228 ?_
  refine lr_sld ok (by omega) dL_law_229 ?_
  refine lr_aload ok dL_law_230 rfl ?_
  refine lr_iload ok dL_law_231 rfl ?_
  refine lr_iconst ok dL_law_232 ?_
  refine lr_iadd ok dL_law_233 ?_
  refine lr_sld ok (by omega) dL_law_234 ?_
  refine lr_callC (as := [am_I (lc_x k (i + 1)), am_I (lc_x k (i + 2))]) ok (c_X7_row hC hV.ok (lx (i + 1)) (lx (i + 2))) lk_L_13 dL_law_235 (by decide) rfl rfl rfl (fun a ha => by simp only [List.mem_cons, List.not_mem_nil, or_false] at ha; rcases ha with rfl | rfl <;> exact ⟨_, rfl⟩) (fun _ => Nat.zero_le _) (fun r h1 hq _ => ?_) (fun r h1 hq c => by obtain ⟨v, rfl, _⟩ := hq; simp)
  obtain ⟨v, rfl, hv, hc⟩ := hq
  subst hv
  refine lr_aload ok dL_law_238 rfl ?_
  refine lr_aload ok dL_law_239 rfl ?_
  refine lr_iload ok dL_law_240 rfl ?_
  refine lr_iconst ok dL_law_241 ?_
  refine lr_iadd ok dL_law_242 ?_
  refine lr_sld ok (by omega) dL_law_243 ?_
  refine lr_aload ok dL_law_244 rfl ?_
  refine lr_iload ok dL_law_245 rfl ?_
  refine lr_iconst ok dL_law_246 ?_
  refine lr_iadd ok dL_law_247 ?_
  refine lr_sld ok (by omega) dL_law_248 ?_
  refine lr_callM (as := [am_I (lc_x k (i + 1)), am_I (lc_x k (i + 2))]) ok (c_X8_row (lx (i + 1)) (lx (i + 2))) lk_L_17 dL_law_249 (by decide) rfl rfl rfl (fun a ha => by simp only [List.mem_cons, List.not_mem_nil, or_false] at ha; rcases ha with rfl | rfl <;> exact ⟨_, rfl⟩) (fun _ => Nat.le_of_ble_eq_true rfl) (fun r g1 hq _ => ?_) (fun r g1 hq c => by obtain ⟨rfl, _⟩ := hq; simp)
  obtain ⟨rfl, rfl⟩ := hq
  refine lr_eqI (tgt := 1299) ok dL_law_252 rfl ?_
  exact K _ _ hc (mo_row hV)
theorem lc_lay {k : lc_T} {i : Int} {h g : am_H} (ok : lc_ok k) (hi : 0 ≤ i ∧ i + 6 ≤ lc_L k) (hC : CRel h g) (hV : MOX g) (K : ∀ h' g' : am_H, CRel h' g' → MOX g' → LW k 1299 [some (am_R 2), some (am_R 0), some (am_R 1), some (am_I i)] [] h' g') : LW k 257 [some (am_R 2), some (am_R 0), some (am_R 1), some (am_I i)] [] h g := by
  have lx := lc_xr k
  refine lr_aload ok dL_law_257 rfl ?_
  refine lr_aload ok dL_law_258 rfl ?_
  refine lr_iload ok dL_law_259 rfl ?_
  refine lr_iconst ok dL_law_260 ?_
  refine lr_iadd ok dL_law_261 ?_
  refine lr_sld ok (by omega) dL_law_262 ?_
  refine lr_aload ok dL_law_263 rfl ?_
  refine lr_iload ok dL_law_264 rfl ?_
  refine lr_iconst ok dL_law_265 ?_
  refine lr_iadd ok dL_law_266 ?_
  refine lr_sld ok (by omega) dL_law_267 ?_
  refine lr_aload ok dL_law_268 rfl ?_
  refine lr_iload ok dL_law_269 rfl ?_
  refine lr_iconst ok dL_law_270 ?_
  refine lr_iadd ok dL_law_271 ?_
  refine lr_sld ok (by omega) dL_law_272 ?_
  refine lr_callC (as := [am_I (lc_x k (i + 1)), am_I (lc_x k (i + 2)), am_I (lc_x k (i + 3))]) ok (c_X7_lay hC hV.ok (lx (i + 1)) (lx (i + 2))) lk_L_18 dL_law_273 (by decide) rfl rfl rfl (fun a ha => by simp only [List.mem_cons, List.not_mem_nil, or_false] at ha; rcases ha with rfl | rfl | rfl <;> exact ⟨_, rfl⟩) (fun _ => Nat.zero_le _) (fun r h1 hq _ => ?_) (fun r h1 hq c => by obtain ⟨v, rfl, _⟩ := hq; simp)
  obtain ⟨v, rfl, hv, hc⟩ := hq
  subst hv
  refine lr_aload ok dL_law_276 rfl ?_
  refine lr_aload ok dL_law_277 rfl ?_
  refine lr_iload ok dL_law_278 rfl ?_
  refine lr_iconst ok dL_law_279 ?_
  refine lr_iadd ok dL_law_280 ?_
  refine lr_sld ok (by omega) dL_law_281 ?_
  refine lr_aload ok dL_law_282 rfl ?_
  refine lr_iload ok dL_law_283 rfl ?_
  refine lr_iconst ok dL_law_284 ?_
  refine lr_iadd ok dL_law_285 ?_
  refine lr_sld ok (by omega) dL_law_286 ?_
  refine lr_aload ok dL_law_287 rfl ?_
  refine lr_iload ok dL_law_288 rfl ?_
  refine lr_iconst ok dL_law_289 ?_
  refine lr_iadd ok dL_law_290 ?_
  refine lr_sld ok (by omega) dL_law_291 ?_
  refine lr_callM (as := [am_I (lc_x k (i + 1)), am_I (lc_x k (i + 2)), am_I (lc_x k (i + 3))]) ok (c_X8_lay hV.1 (lx (i + 1)) (lx (i + 2))) lk_L_22 dL_law_292 (by decide) rfl rfl rfl (fun a ha => by simp only [List.mem_cons, List.not_mem_nil, or_false] at ha; rcases ha with rfl | rfl | rfl <;> exact ⟨_, rfl⟩) (fun _ => Nat.le_of_ble_eq_true rfl) (fun r g1 hq _ => ?_) (fun r g1 hq c => by obtain ⟨rfl, _⟩ := hq; simp)
  obtain ⟨rfl, rfl⟩ := hq
  refine lr_eqI (tgt := 1299) ok dL_law_295 rfl ?_
  exact K _ _ hc (mo_lay hV (lx (i + 3)))
theorem lc_at {k : lc_T} {i : Int} {h g : am_H} (ok : lc_ok k) (hi : 0 ≤ i ∧ i + 6 ≤ lc_L k) (hC : CRel h g) (hV : MOX g) (K : ∀ h' g' : am_H, CRel h' g' → MOX g' → LW k 1299 [some (am_R 2), some (am_R 0), some (am_R 1), some (am_I i)] [] h' g') : LW k 300 [some (am_R 2), some (am_R 0), some (am_R 1), some (am_I i)] [] h g := by
  have lx := lc_xr k
  refine lr_aload ok dL_law_300 rfl ?_
  refine lr_aload ok dL_law_301 rfl ?_
  refine lr_iload ok dL_law_302 rfl ?_
  refine lr_iconst ok dL_law_303 ?_
  refine lr_iadd ok dL_law_304 ?_
  refine lr_sld ok (by omega) dL_law_305 ?_
  refine lr_aload ok dL_law_306 rfl ?_
  refine lr_iload ok dL_law_307 rfl ?_
  refine lr_iconst ok dL_law_308 ?_
  refine lr_iadd ok dL_law_309 ?_
  refine lr_sld ok (by omega) dL_law_310 ?_
  refine lr_callC (as := [am_I (lc_x k (i + 1)), am_I (lc_x k (i + 2))]) ok (c_X7_at hC hV.ok (lx (i + 1)) (lx (i + 2))) lk_L_23 dL_law_311 (by decide) rfl rfl rfl (fun a ha => by simp only [List.mem_cons, List.not_mem_nil, or_false] at ha; rcases ha with rfl | rfl <;> exact ⟨_, rfl⟩) (fun _ => Nat.zero_le _) (fun r h1 hq _ => ?_) (fun r h1 hq c => by obtain ⟨v, rfl, _⟩ := hq; simp)
  obtain ⟨v, rfl, hv, hc⟩ := hq
  subst hv
  refine lr_aload ok dL_law_314 rfl ?_
  refine lr_aload ok dL_law_315 rfl ?_
  refine lr_iload ok dL_law_316 rfl ?_
  refine lr_iconst ok dL_law_317 ?_
  refine lr_iadd ok dL_law_318 ?_
  refine lr_sld ok (by omega) dL_law_319 ?_
  refine lr_aload ok dL_law_320 rfl ?_
  refine lr_iload ok dL_law_321 rfl ?_
  refine lr_iconst ok dL_law_322 ?_
  refine lr_iadd ok dL_law_323 ?_
  refine lr_sld ok (by omega) dL_law_324 ?_
  refine lr_callM (as := [am_I (lc_x k (i + 1)), am_I (lc_x k (i + 2))]) ok (c_X8_at hV.1 (lx (i + 1)) (lx (i + 2))) lk_L_26 dL_law_325 (by decide) rfl rfl rfl (fun a ha => by simp only [List.mem_cons, List.not_mem_nil, or_false] at ha; rcases ha with rfl | rfl <;> exact ⟨_, rfl⟩) (fun _ => Nat.le_of_ble_eq_true rfl) (fun r g1 hq _ => ?_) (fun r g1 hq c => by obtain ⟨rfl, _⟩ := hq; simp)
  obtain ⟨rfl, rfl⟩ := hq
  refine lr_eqI (tgt := 1299) ok dL_law_328 rfl ?_
  exact K _ _ hc (mo_at hV)
theorem lc_tear {k : lc_T} {i : Int} {h g : am_H} (ok : lc_ok k) (hi : 0 ≤ i ∧ i + 6 ≤ lc_L k) (hC : CRel h g) (hV : MOX g) (K : ∀ h' g' : am_H, CRel h' g' → MOX g' → LW k 1299 [some (am_R 2), some (am_R 0), some (am_R 1), some (am_I i)] [] h' g') : LW k 333 [some (am_R 2), some (am_R 0), some (am_R 1), some (am_I i)] [] h g := by
  have lx := lc_xr k
  refine lr_aload ok dL_law_333 rfl ?_
  refine lr_aload ok dL_law_334 rfl ?_
  refine lr_iload ok dL_law_335 rfl ?_
  refine lr_iconst ok dL_law_336 ?_
  refine lr_iadd ok dL_law_337 ?_
  refine lr_sld ok (by omega) dL_law_338 ?_
  refine lr_callC (as := [am_I (lc_x k (i + 1))]) ok (c_X7_tear hC hV.ok (lx (i + 1))) lk_L_27 dL_law_339 (by decide) rfl rfl rfl (fun a ha => by simp only [List.mem_cons, List.not_mem_nil, or_false] at ha; subst ha <;> exact ⟨_, rfl⟩) (fun _ => Nat.zero_le _) (fun r h1 hq _ => ?_) (fun r h1 hq c => by obtain ⟨v, rfl, _⟩ := hq; simp)
  obtain ⟨v, rfl, hv, hc⟩ := hq
  subst hv
  refine lr_aload ok dL_law_342 rfl ?_
  refine lr_aload ok dL_law_343 rfl ?_
  refine lr_iload ok dL_law_344 rfl ?_
  refine lr_iconst ok dL_law_345 ?_
  refine lr_iadd ok dL_law_346 ?_
  refine lr_sld ok (by omega) dL_law_347 ?_
  refine lr_callM (as := [am_I (lc_x k (i + 1))]) ok (c_X8_tear hV.1 (lx (i + 1))) lk_L_31 dL_law_348 (by decide) rfl rfl rfl (fun a ha => by simp only [List.mem_cons, List.not_mem_nil, or_false] at ha; subst ha <;> exact ⟨_, rfl⟩) (fun _ => Nat.le_of_ble_eq_true rfl) (fun r g1 hq _ => ?_) (fun r g1 hq c => by obtain ⟨rfl, _⟩ := hq; simp)
  obtain ⟨rfl, rfl⟩ := hq
  refine lr_eqI (tgt := 1299) ok dL_law_351 rfl ?_
  exact K _ _ hc (mo_tear hV)
theorem lc_copy {k : lc_T} {i : Int} {h g : am_H} (ok : lc_ok k) (hi : 0 ≤ i ∧ i + 6 ≤ lc_L k) (hC : CRel h g) (hV : MOX g) (K : ∀ h' g' : am_H, CRel h' g' → MOX g' → LW k 1299 [some (am_R 2), some (am_R 0), some (am_R 1), some (am_I i)] [] h' g') : LW k 356 [some (am_R 2), some (am_R 0), some (am_R 1), some (am_I i)] [] h g := by
  have lx := lc_xr k
  refine lr_aload ok dL_law_356 rfl ?_
  refine lr_aload ok dL_law_357 rfl ?_
  refine lr_iload ok dL_law_358 rfl ?_
  refine lr_iconst ok dL_law_359 ?_
  refine lr_iadd ok dL_law_360 ?_
  refine lr_sld ok (by omega) dL_law_361 ?_
  refine lr_aload ok dL_law_362 rfl ?_
  refine lr_iload ok dL_law_363 rfl ?_
  refine lr_iconst ok dL_law_364 ?_
  refine lr_iadd ok dL_law_365 ?_
  refine lr_sld ok (by omega) dL_law_366 ?_
  refine lr_aload ok dL_law_367 rfl ?_
  refine lr_iload ok dL_law_368 rfl ?_
  refine lr_iconst ok dL_law_369 ?_
  refine lr_iadd ok dL_law_370 ?_
  refine lr_sld ok (by omega) dL_law_371 ?_
  refine lr_aload ok dL_law_372 rfl ?_
  refine lr_iload ok dL_law_373 rfl ?_
  refine lr_iconst ok dL_law_374 ?_
  refine lr_iadd ok dL_law_375 ?_
  refine lr_sld ok (by omega) dL_law_376 ?_
  refine lr_aload ok dL_law_377 rfl ?_
  refine lr_iload ok dL_law_378 rfl ?_
  refine lr_iconst ok dL_law_379 ?_
  refine lr_iadd ok dL_law_380 ?_
  refine lr_sld ok (by omega) dL_law_381 ?_
  refine lr_callC (as := [am_I (lc_x k (i + 1)), am_I (lc_x k (i + 2)), am_I (lc_x k (i + 3)), am_I (lc_x k (i + 4)), am_I (lc_x k (i + 5))]) ok (c_X7_copy hC hV.ok (lx (i + 1)) (lx (i + 2)) (lx (i + 3)) (lx (i + 4)) (lx (i + 5))) lk_L_32 dL_law_382 (by decide) rfl rfl rfl (fun a ha => by simp only [List.mem_cons, List.not_mem_nil, or_false] at ha; rcases ha with rfl | rfl | rfl | rfl | rfl <;> exact ⟨_, rfl⟩) (fun _ => Nat.zero_le _) (fun r h1 hq _ => ?_) (fun r h1 hq c => by obtain ⟨v, rfl, _⟩ := hq; simp)
  obtain ⟨v, rfl, hv, hc⟩ := hq
  subst hv
  refine lr_aload ok dL_law_385 rfl ?_
  refine lr_aload ok dL_law_386 rfl ?_
  refine lr_iload ok dL_law_387 rfl ?_
  refine lr_iconst ok dL_law_388 ?_
  refine lr_iadd ok dL_law_389 ?_
  refine lr_sld ok (by omega) dL_law_390 ?_
  refine lr_aload ok dL_law_391 rfl ?_
  refine lr_iload ok dL_law_392 rfl ?_
  refine lr_iconst ok dL_law_393 ?_
  refine lr_iadd ok dL_law_394 ?_
  refine lr_sld ok (by omega) dL_law_395 ?_
  refine lr_aload ok dL_law_396 rfl ?_
  refine lr_iload ok dL_law_397 rfl ?_
  refine lr_iconst ok dL_law_398 ?_
  refine lr_iadd ok dL_law_399 ?_
  refine lr_sld ok (by omega) dL_law_400 ?_
  refine lr_aload ok dL_law_401 rfl ?_
  refine lr_iload ok dL_law_402 rfl ?_
  refine lr_iconst ok dL_law_403 ?_
  refine lr_iadd ok dL_law_404 ?_
  refine lr_sld ok (by omega) dL_law_405 ?_
  refine lr_aload ok dL_law_406 rfl ?_
  refine lr_iload ok dL_law_407 rfl ?_
  refine lr_iconst ok dL_law_408 ?_
  refine lr_iadd ok dL_law_409 ?_
  refine lr_sld ok (by omega) dL_law_410 ?_
  refine lr_callM (as := [am_I (lc_x k (i + 1)), am_I (lc_x k (i + 2)), am_I (lc_x k (i + 3)), am_I (lc_x k (i + 4)), am_I (lc_x k (i + 5))]) ok (c_X8_copy hV.1 (lx (i + 1)) (lx (i + 2)) (lx (i + 3)) (lx (i + 4)) (lx (i + 5))) lk_L_36 dL_law_411 (by decide) rfl rfl rfl (fun a ha => by simp only [List.mem_cons, List.not_mem_nil, or_false] at ha; rcases ha with rfl | rfl | rfl | rfl | rfl <;> exact ⟨_, rfl⟩) (fun _ => Nat.le_of_ble_eq_true rfl) (fun r g1 hq _ => ?_) (fun r g1 hq c => by obtain ⟨v, rfl, _⟩ := hq; simp)
  obtain ⟨v, rfl, hv, hm⟩ := hq
  subst hv
  refine lr_eqI (tgt := 1299) ok dL_law_414 rfl ?_
  exact K _ _ (hc.meq (mo_copy hV).2.2.1 hm) ((mo_copy hV).meq hm)
theorem lc_mean {k : lc_T} {i : Int} {h g : am_H} (ok : lc_ok k) (hi : 0 ≤ i ∧ i + 6 ≤ lc_L k) (hC : CRel h g) (hV : MOX g) (K : ∀ h' g' : am_H, CRel h' g' → MOX g' → LW k 1299 [some (am_R 2), some (am_R 0), some (am_R 1), some (am_I i)] [] h' g') : LW k 419 [some (am_R 2), some (am_R 0), some (am_R 1), some (am_I i)] [] h g := by
  have lx := lc_xr k
  refine lr_aload ok dL_law_419 rfl ?_
  refine lr_aload ok dL_law_420 rfl ?_
  refine lr_iload ok dL_law_421 rfl ?_
  refine lr_iconst ok dL_law_422 ?_
  refine lr_iadd ok dL_law_423 ?_
  refine lr_sld ok (by omega) dL_law_424 ?_
  refine lr_callC (as := [am_I (lc_x k (i + 1))]) ok (c_X7_mean hC hV.ok (lx (i + 1))) lk_L_37 dL_law_425 (by decide) rfl rfl rfl (fun a ha => by simp only [List.mem_cons, List.not_mem_nil, or_false] at ha; subst ha <;> exact ⟨_, rfl⟩) (fun _ => Nat.zero_le _) (fun r h1 hq _ => ?_) (fun r h1 hq c => by obtain ⟨v, rfl, _⟩ := hq; simp)
  obtain ⟨v, rfl, hv, hc⟩ := hq
  subst hv
  refine lr_aload ok dL_law_428 rfl ?_
  refine lr_aload ok dL_law_429 rfl ?_
  refine lr_iload ok dL_law_430 rfl ?_
  refine lr_iconst ok dL_law_431 ?_
  refine lr_iadd ok dL_law_432 ?_
  refine lr_sld ok (by omega) dL_law_433 ?_
  refine lr_callM (as := [am_I (lc_x k (i + 1))]) ok (c_X8_mean hV.1 (lx (i + 1))) lk_L_40 dL_law_434 (by decide) rfl rfl rfl (fun a ha => by simp only [List.mem_cons, List.not_mem_nil, or_false] at ha; subst ha <;> exact ⟨_, rfl⟩) (fun _ => Nat.le_of_ble_eq_true rfl) (fun r g1 hq _ => ?_) (fun r g1 hq c => by obtain ⟨rfl, _⟩ := hq; simp)
  obtain ⟨rfl, rfl⟩ := hq
  refine lr_eqI (tgt := 1299) ok dL_law_437 rfl ?_
  exact K _ _ hc (mo_mean hV)
theorem lc_text {k : lc_T} {i : Int} {h g : am_H} (ok : lc_ok k) (hi : 0 ≤ i ∧ i + 6 ≤ lc_L k) (hC : CRel h g) (hV : MOX g) (K : ∀ h' g' : am_H, CRel h' g' → MOX g' → LW k 1299 [some (am_R 2), some (am_R 0), some (am_R 1), some (am_I i)] [] h' g') : LW k 442 [some (am_R 2), some (am_R 0), some (am_R 1), some (am_I i)] [] h g := by
  have lx := lc_xr k
  refine lr_aload ok dL_law_442 rfl ?_
  refine lr_aload ok dL_law_443 rfl ?_
  refine lr_iload ok dL_law_444 rfl ?_
  refine lr_iconst ok dL_law_445 ?_
  refine lr_iadd ok dL_law_446 ?_
  refine lr_sld ok (by omega) dL_law_447 ?_
  refine lr_aload ok dL_law_448 rfl ?_
  refine lr_iload ok dL_law_449 rfl ?_
  refine lr_iconst ok dL_law_450 ?_
  refine lr_iadd ok dL_law_451 ?_
  refine lr_sld ok (by omega) dL_law_452 ?_
  refine lr_callC (as := [am_I (lc_x k (i + 1)), am_I (lc_x k (i + 2))]) ok (c_X7_text hC hV.ok (lx (i + 1)) (lx (i + 2))) lk_L_41 dL_law_453 (by decide) rfl rfl rfl (fun a ha => by simp only [List.mem_cons, List.not_mem_nil, or_false] at ha; rcases ha with rfl | rfl <;> exact ⟨_, rfl⟩) (fun _ => Nat.zero_le _) (fun r h1 hq _ => ?_) (fun r h1 hq c => by obtain ⟨v, rfl, _⟩ := hq; simp)
  obtain ⟨v, rfl, hv, hc⟩ := hq
  subst hv
  refine lr_aload ok dL_law_456 rfl ?_
  refine lr_aload ok dL_law_457 rfl ?_
  refine lr_iload ok dL_law_458 rfl ?_
  refine lr_iconst ok dL_law_459 ?_
  refine lr_iadd ok dL_law_460 ?_
  refine lr_sld ok (by omega) dL_law_461 ?_
  refine lr_aload ok dL_law_462 rfl ?_
  refine lr_iload ok dL_law_463 rfl ?_
  refine lr_iconst ok dL_law_464 ?_
  refine lr_iadd ok dL_law_465 ?_
  refine lr_sld ok (by omega) dL_law_466 ?_
  refine lr_callM (as := [am_I (lc_x k (i + 1)), am_I (lc_x k (i + 2))]) ok (c_X8_text (lx (i + 1)) (lx (i + 2))) lk_L_44 dL_law_467 (by decide) rfl rfl rfl (fun a ha => by simp only [List.mem_cons, List.not_mem_nil, or_false] at ha; rcases ha with rfl | rfl <;> exact ⟨_, rfl⟩) (fun _ => Nat.le_of_ble_eq_true rfl) (fun r g1 hq _ => ?_) (fun r g1 hq c => by obtain ⟨rfl, _⟩ := hq; simp)
  obtain ⟨rfl, rfl⟩ := hq
  refine lr_eqI (tgt := 1299) ok dL_law_470 rfl ?_
  exact K _ _ hc (mo_text hV)
theorem lc_put {k : lc_T} {i : Int} {h g : am_H} (ok : lc_ok k) (hi : 0 ≤ i ∧ i + 6 ≤ lc_L k) (hC : CRel h g) (hV : MOX g) (K : ∀ h' g' : am_H, CRel h' g' → MOX g' → LW k 1299 [some (am_R 2), some (am_R 0), some (am_R 1), some (am_I i)] [] h' g') : LW k 475 [some (am_R 2), some (am_R 0), some (am_R 1), some (am_I i)] [] h g := by
  have lx := lc_xr k
  refine lr_aload ok dL_law_475 rfl ?_
  refine lr_aload ok dL_law_476 rfl ?_
  refine lr_iload ok dL_law_477 rfl ?_
  refine lr_iconst ok dL_law_478 ?_
  refine lr_iadd ok dL_law_479 ?_
  refine lr_sld ok (by omega) dL_law_480 ?_
  refine lr_aload ok dL_law_481 rfl ?_
  refine lr_iload ok dL_law_482 rfl ?_
  refine lr_iconst ok dL_law_483 ?_
  refine lr_iadd ok dL_law_484 ?_
  refine lr_sld ok (by omega) dL_law_485 ?_
  refine lr_aload ok dL_law_486 rfl ?_
  refine lr_iload ok dL_law_487 rfl ?_
  refine lr_iconst ok dL_law_488 ?_
  refine lr_iadd ok dL_law_489 ?_
  refine lr_sld ok (by omega) dL_law_490 ?_
  refine lr_callC (as := [am_I (lc_x k (i + 1)), am_I (lc_x k (i + 2)), am_I (lc_x k (i + 3))]) ok (c_X7_put hC hV.ok (lx (i + 1)) (lx (i + 2))) lk_L_45 dL_law_491 (by decide) rfl rfl rfl (fun a ha => by simp only [List.mem_cons, List.not_mem_nil, or_false] at ha; rcases ha with rfl | rfl | rfl <;> exact ⟨_, rfl⟩) (fun _ => Nat.zero_le _) (fun r h1 hq _ => ?_) (fun r h1 hq c => by obtain ⟨v, rfl, _⟩ := hq; simp)
  obtain ⟨v, rfl, hv, hc⟩ := hq
  subst hv
  refine lr_aload ok dL_law_494 rfl ?_
  refine lr_aload ok dL_law_495 rfl ?_
  refine lr_iload ok dL_law_496 rfl ?_
  refine lr_iconst ok dL_law_497 ?_
  refine lr_iadd ok dL_law_498 ?_
  refine lr_sld ok (by omega) dL_law_499 ?_
  refine lr_aload ok dL_law_500 rfl ?_
  refine lr_iload ok dL_law_501 rfl ?_
  refine lr_iconst ok dL_law_502 ?_
  refine lr_iadd ok dL_law_503 ?_
  refine lr_sld ok (by omega) dL_law_504 ?_
  refine lr_aload ok dL_law_505 rfl ?_
  refine lr_iload ok dL_law_506 rfl ?_
  refine lr_iconst ok dL_law_507 ?_
  refine lr_iadd ok dL_law_508 ?_
  refine lr_sld ok (by omega) dL_law_509 ?_
  refine lr_callM (as := [am_I (lc_x k (i + 1)), am_I (lc_x k (i + 2)), am_I (lc_x k (i + 3))]) ok (c_X8_put hV.2.1 (lx (i + 1)) (lx (i + 2))) lk_L_48 dL_law_510 (by decide) rfl rfl rfl (fun a ha => by simp only [List.mem_cons, List.not_mem_nil, or_false] at ha; rcases ha with rfl | rfl | rfl <;> exact ⟨_, rfl⟩) (fun _ => Nat.le_of_ble_eq_true rfl) (fun r g1 hq _ => ?_) (fun r g1 hq c => by obtain ⟨rfl, _⟩ := hq; simp)
  obtain ⟨rfl, rfl⟩ := hq
  refine lr_eqI (tgt := 1299) ok dL_law_513 rfl ?_
  exact K _ _ hc (mo_put hV)
theorem lc_fault {k : lc_T} {i : Int} {h g : am_H} (ok : lc_ok k) (hi : 0 ≤ i ∧ i + 6 ≤ lc_L k) (hC : CRel h g) (hV : MOX g) (K : ∀ h' g' : am_H, CRel h' g' → MOX g' → LW k 1299 [some (am_R 2), some (am_R 0), some (am_R 1), some (am_I i)] [] h' g') : LW k 518 [some (am_R 2), some (am_R 0), some (am_R 1), some (am_I i)] [] h g := by
  have lx := lc_xr k
  refine lr_aload ok dL_law_518 rfl ?_
  refine lr_aload ok dL_law_519 rfl ?_
  refine lr_iload ok dL_law_520 rfl ?_
  refine lr_iconst ok dL_law_521 ?_
  refine lr_iadd ok dL_law_522 ?_
  refine lr_sld ok (by omega) dL_law_523 ?_
  refine lr_callC (as := [am_I (lc_x k (i + 1))]) ok (c_X7_fault hC hV.ok (lx (i + 1))) lk_L_49 dL_law_524 (by decide) rfl rfl rfl (fun a ha => by simp only [List.mem_cons, List.not_mem_nil, or_false] at ha; subst ha <;> exact ⟨_, rfl⟩) (fun _ => Nat.zero_le _) (fun r h1 hq _ => ?_) (fun r h1 hq c => by obtain ⟨v, rfl, _⟩ := hq; simp)
  obtain ⟨v, rfl, hv, hc⟩ := hq
  subst hv
  refine lr_aload ok dL_law_527 rfl ?_
  refine lr_aload ok dL_law_528 rfl ?_
  refine lr_iload ok dL_law_529 rfl ?_
  refine lr_iconst ok dL_law_530 ?_
  refine lr_iadd ok dL_law_531 ?_
  refine lr_sld ok (by omega) dL_law_532 ?_
  refine lr_callM (as := [am_I (lc_x k (i + 1))]) ok (c_X8_fault hV.2.1 (lx (i + 1))) lk_L_52 dL_law_533 (by decide) rfl rfl rfl (fun a ha => by simp only [List.mem_cons, List.not_mem_nil, or_false] at ha; subst ha <;> exact ⟨_, rfl⟩) (fun _ => Nat.le_of_ble_eq_true rfl) (fun r g1 hq _ => ?_) (fun r g1 hq c => by obtain ⟨v, rfl, _⟩ := hq; simp)
  obtain ⟨v, rfl, hv, hm⟩ := hq
  subst hv
  refine lr_eqI (tgt := 1299) ok dL_law_536 rfl ?_
  exact K _ _ (hc.meq (mo_fault hV).2.2.1 hm) ((mo_fault hV).meq hm)
theorem lc_speech {k : lc_T} {i : Int} {h g : am_H} (ok : lc_ok k) (hi : 0 ≤ i ∧ i + 6 ≤ lc_L k) (hC : CRel h g) (hV : MOX g) (K : ∀ h' g' : am_H, CRel h' g' → MOX g' → LW k 1299 [some (am_R 2), some (am_R 0), some (am_R 1), some (am_I i)] [] h' g') : LW k 541 [some (am_R 2), some (am_R 0), some (am_R 1), some (am_I i)] [] h g := by
  have lx := lc_xr k
  refine lr_aload ok dL_law_541 rfl ?_
  refine lr_aload ok dL_law_542 rfl ?_
  refine lr_iload ok dL_law_543 rfl ?_
  refine lr_iconst ok dL_law_544 ?_
  refine lr_iadd ok dL_law_545 ?_
  refine lr_sld ok (by omega) dL_law_546 ?_
  refine lr_callC (as := [am_I (lc_x k (i + 1))]) ok (c_X7_speech hC hV.ok (lx (i + 1))) lk_L_53 dL_law_547 (by decide) rfl rfl rfl (fun a ha => by simp only [List.mem_cons, List.not_mem_nil, or_false] at ha; subst ha <;> exact ⟨_, rfl⟩) (fun _ => Nat.zero_le _) (fun r h1 hq _ => ?_) (fun r h1 hq c => by obtain ⟨v, rfl, _⟩ := hq; simp)
  obtain ⟨v, rfl, hv, hc⟩ := hq
  subst hv
  refine lr_aload ok dL_law_550 rfl ?_
  refine lr_aload ok dL_law_551 rfl ?_
  refine lr_iload ok dL_law_552 rfl ?_
  refine lr_iconst ok dL_law_553 ?_
  refine lr_iadd ok dL_law_554 ?_
  refine lr_sld ok (by omega) dL_law_555 ?_
  refine lr_callM (as := [am_I (lc_x k (i + 1))]) ok (c_X8_speech hV.2.1 (lx (i + 1))) lk_L_56 dL_law_556 (by decide) rfl rfl rfl (fun a ha => by simp only [List.mem_cons, List.not_mem_nil, or_false] at ha; subst ha <;> exact ⟨_, rfl⟩) (fun _ => Nat.le_of_ble_eq_true rfl) (fun r g1 hq _ => ?_) (fun r g1 hq c => by obtain ⟨v, rfl, _⟩ := hq; simp)
  obtain ⟨v, rfl, hv, hm⟩ := hq
  subst hv
  refine lr_eqI (tgt := 1299) ok dL_law_559 rfl ?_
  exact K _ _ (hc.meq (mo_speech hV).2.2.1 hm) ((mo_speech hV).meq hm)
theorem lc_node {k : lc_T} {i : Int} {h g : am_H} (ok : lc_ok k) (hi : 0 ≤ i ∧ i + 6 ≤ lc_L k) (hC : CRel h g) (hV : MOX g) (K : ∀ h' g' : am_H, CRel h' g' → MOX g' → LW k 1299 [some (am_R 2), some (am_R 0), some (am_R 1), some (am_I i)] [] h' g') : LW k 564 [some (am_R 2), some (am_R 0), some (am_R 1), some (am_I i)] [] h g := by
  have lx := lc_xr k
  refine lr_aload ok dL_law_564 rfl ?_
  refine lr_aload ok dL_law_565 rfl ?_
  refine lr_iload ok dL_law_566 rfl ?_
  refine lr_iconst ok dL_law_567 ?_
  refine lr_iadd ok dL_law_568 ?_
  refine lr_sld ok (by omega) dL_law_569 ?_
  refine lr_aload ok dL_law_570 rfl ?_
  refine lr_iload ok dL_law_571 rfl ?_
  refine lr_iconst ok dL_law_572 ?_
  refine lr_iadd ok dL_law_573 ?_
  refine lr_sld ok (by omega) dL_law_574 ?_
  refine lr_callC (as := [am_I (lc_x k (i + 1)), am_I (lc_x k (i + 2))]) ok (c_X7_node hC hV.ok (lx (i + 1)) (lx (i + 2))) lk_L_57 dL_law_575 (by decide) rfl rfl rfl (fun a ha => by simp only [List.mem_cons, List.not_mem_nil, or_false] at ha; rcases ha with rfl | rfl <;> exact ⟨_, rfl⟩) (fun _ => Nat.zero_le _) (fun r h1 hq _ => ?_) (fun r h1 hq c => by obtain ⟨v, rfl, _⟩ := hq; simp)
  obtain ⟨v, rfl, hv, hc⟩ := hq
  subst hv
  refine lr_aload ok dL_law_578 rfl ?_
  refine lr_aload ok dL_law_579 rfl ?_
  refine lr_iload ok dL_law_580 rfl ?_
  refine lr_iconst ok dL_law_581 ?_
  refine lr_iadd ok dL_law_582 ?_
  refine lr_sld ok (by omega) dL_law_583 ?_
  refine lr_aload ok dL_law_584 rfl ?_
  refine lr_iload ok dL_law_585 rfl ?_
  refine lr_iconst ok dL_law_586 ?_
  refine lr_iadd ok dL_law_587 ?_
  refine lr_sld ok (by omega) dL_law_588 ?_
  refine lr_callM (as := [am_I (lc_x k (i + 1)), am_I (lc_x k (i + 2))]) ok (c_X8_node hV.2.2.1 (lx (i + 1)) (lx (i + 2))) lk_L_60 dL_law_589 (by decide) rfl rfl rfl (fun a ha => by simp only [List.mem_cons, List.not_mem_nil, or_false] at ha; rcases ha with rfl | rfl <;> exact ⟨_, rfl⟩) (fun _ => Nat.le_of_ble_eq_true rfl) (fun r g1 hq _ => ?_) (fun r g1 hq c => by obtain ⟨v, rfl, _⟩ := hq; simp)
  obtain ⟨v, rfl, hv, hm⟩ := hq
  subst hv
  refine lr_eqI (tgt := 1299) ok dL_law_592 rfl ?_
  exact K _ _ (hc.meq (mo_node hV).2.2.1 hm) ((mo_node hV).meq hm)
theorem lc_word {k : lc_T} {i : Int} {h g : am_H} (ok : lc_ok k) (hi : 0 ≤ i ∧ i + 6 ≤ lc_L k) (hC : CRel h g) (hV : MOX g) (K : ∀ h' g' : am_H, CRel h' g' → MOX g' → LW k 1299 [some (am_R 2), some (am_R 0), some (am_R 1), some (am_I i)] [] h' g') : LW k 597 [some (am_R 2), some (am_R 0), some (am_R 1), some (am_I i)] [] h g := by
  have lx := lc_xr k
  refine lr_aload ok dL_law_597 rfl ?_
  refine lr_aload ok dL_law_598 rfl ?_
  refine lr_iload ok dL_law_599 rfl ?_
  refine lr_iconst ok dL_law_600 ?_
  refine lr_iadd ok dL_law_601 ?_
  refine lr_sld ok (by omega) dL_law_602 ?_
  refine lr_aload ok dL_law_603 rfl ?_
  refine lr_iload ok dL_law_604 rfl ?_
  refine lr_iconst ok dL_law_605 ?_
  refine lr_iadd ok dL_law_606 ?_
  refine lr_sld ok (by omega) dL_law_607 ?_
  refine lr_callC (as := [am_I (lc_x k (i + 1)), am_I (lc_x k (i + 2))]) ok (c_X7_word hC hV.ok (lx (i + 1)) (lx (i + 2))) lk_L_61 dL_law_608 (by decide) rfl rfl rfl (fun a ha => by simp only [List.mem_cons, List.not_mem_nil, or_false] at ha; rcases ha with rfl | rfl <;> exact ⟨_, rfl⟩) (fun _ => Nat.zero_le _) (fun r h1 hq _ => ?_) (fun r h1 hq c => by obtain ⟨v, rfl, _⟩ := hq; simp)
  obtain ⟨v, rfl, hv, hc⟩ := hq
  subst hv
  refine lr_aload ok dL_law_611 rfl ?_
  refine lr_aload ok dL_law_612 rfl ?_
  refine lr_iload ok dL_law_613 rfl ?_
  refine lr_iconst ok dL_law_614 ?_
  refine lr_iadd ok dL_law_615 ?_
  refine lr_sld ok (by omega) dL_law_616 ?_
  refine lr_aload ok dL_law_617 rfl ?_
  refine lr_iload ok dL_law_618 rfl ?_
  refine lr_iconst ok dL_law_619 ?_
  refine lr_iadd ok dL_law_620 ?_
  refine lr_sld ok (by omega) dL_law_621 ?_
  refine lr_callM (as := [am_I (lc_x k (i + 1)), am_I (lc_x k (i + 2))]) ok (c_X8_word hV.2.2.1 (lx (i + 1)) (lx (i + 2))) lk_L_64 dL_law_622 (by decide) rfl rfl rfl (fun a ha => by simp only [List.mem_cons, List.not_mem_nil, or_false] at ha; rcases ha with rfl | rfl <;> exact ⟨_, rfl⟩) (fun _ => Nat.le_of_ble_eq_true rfl) (fun r g1 hq _ => ?_) (fun r g1 hq c => by obtain ⟨v, rfl, _⟩ := hq; simp)
  obtain ⟨v, rfl, hv, hm⟩ := hq
  subst hv
  refine lr_eqI (tgt := 1299) ok dL_law_625 rfl ?_
  exact K _ _ (hc.meq (mo_word hV).2.2.1 hm) ((mo_word hV).meq hm)
theorem lc_deed {k : lc_T} {i : Int} {h g : am_H} (ok : lc_ok k) (hi : 0 ≤ i ∧ i + 6 ≤ lc_L k) (hC : CRel h g) (hV : MOX g) (K : ∀ h' g' : am_H, CRel h' g' → MOX g' → LW k 1299 [some (am_R 2), some (am_R 0), some (am_R 1), some (am_I i)] [] h' g') : LW k 630 [some (am_R 2), some (am_R 0), some (am_R 1), some (am_I i)] [] h g := by
  have lx := lc_xr k
  refine lr_aload ok dL_law_630 rfl ?_
  refine lr_aload ok dL_law_631 rfl ?_
  refine lr_iload ok dL_law_632 rfl ?_
  refine lr_iconst ok dL_law_633 ?_
  refine lr_iadd ok dL_law_634 ?_
  refine lr_sld ok (by omega) dL_law_635 ?_
  refine lr_aload ok dL_law_636 rfl ?_
  refine lr_iload ok dL_law_637 rfl ?_
  refine lr_iconst ok dL_law_638 ?_
  refine lr_iadd ok dL_law_639 ?_
  refine lr_sld ok (by omega) dL_law_640 ?_
  refine lr_callC (as := [am_I (lc_x k (i + 1)), am_I (lc_x k (i + 2))]) ok (c_X7_deed hC hV.ok (lx (i + 1)) (lx (i + 2))) lk_L_65 dL_law_641 (by decide) rfl rfl rfl (fun a ha => by simp only [List.mem_cons, List.not_mem_nil, or_false] at ha; rcases ha with rfl | rfl <;> exact ⟨_, rfl⟩) (fun _ => Nat.zero_le _) (fun r h1 hq _ => ?_) (fun r h1 hq c => by obtain ⟨v, rfl, _⟩ := hq; simp)
  obtain ⟨v, rfl, hv, hc⟩ := hq
  subst hv
  refine lr_aload ok dL_law_644 rfl ?_
  refine lr_aload ok dL_law_645 rfl ?_
  refine lr_iload ok dL_law_646 rfl ?_
  refine lr_iconst ok dL_law_647 ?_
  refine lr_iadd ok dL_law_648 ?_
  refine lr_sld ok (by omega) dL_law_649 ?_
  refine lr_aload ok dL_law_650 rfl ?_
  refine lr_iload ok dL_law_651 rfl ?_
  refine lr_iconst ok dL_law_652 ?_
  refine lr_iadd ok dL_law_653 ?_
  refine lr_sld ok (by omega) dL_law_654 ?_
  refine lr_callM (as := [am_I (lc_x k (i + 1)), am_I (lc_x k (i + 2))]) ok (c_X8_deed hV.2.2.1 (lx (i + 1)) (lx (i + 2))) lk_L_68 dL_law_655 (by decide) rfl rfl rfl (fun a ha => by simp only [List.mem_cons, List.not_mem_nil, or_false] at ha; rcases ha with rfl | rfl <;> exact ⟨_, rfl⟩) (fun _ => Nat.le_of_ble_eq_true rfl) (fun r g1 hq _ => ?_) (fun r g1 hq c => by obtain ⟨v, rfl, _⟩ := hq; simp)
  obtain ⟨v, rfl, hv, hm⟩ := hq
  subst hv
  refine lr_eqI (tgt := 1299) ok dL_law_658 rfl ?_
  exact K _ _ (hc.meq (mo_deed hV).2.2.1 hm) ((mo_deed hV).meq hm)
theorem lc_mark {k : lc_T} {i : Int} {h g : am_H} (ok : lc_ok k) (hi : 0 ≤ i ∧ i + 6 ≤ lc_L k) (hC : CRel h g) (hV : MOX g) (K : ∀ h' g' : am_H, CRel h' g' → MOX g' → LW k 1299 [some (am_R 2), some (am_R 0), some (am_R 1), some (am_I i)] [] h' g') : LW k 663 [some (am_R 2), some (am_R 0), some (am_R 1), some (am_I i)] [] h g := by
  have lx := lc_xr k
  refine lr_aload ok dL_law_663 rfl ?_
  refine lr_aload ok dL_law_664 rfl ?_
  refine lr_iload ok dL_law_665 rfl ?_
  refine lr_iconst ok dL_law_666 ?_
  refine lr_iadd ok dL_law_667 ?_
  refine lr_sld ok (by omega) dL_law_668 ?_
  refine lr_aload ok dL_law_669 rfl ?_
  refine lr_iload ok dL_law_670 rfl ?_
  refine lr_iconst ok dL_law_671 ?_
  refine lr_iadd ok dL_law_672 ?_
  refine lr_sld ok (by omega) dL_law_673 ?_
  refine lr_callC (as := [am_I (lc_x k (i + 1)), am_I (lc_x k (i + 2))]) ok (c_X7_mark hC hV.ok (lx (i + 1)) (lx (i + 2))) lk_L_69 dL_law_674 (by decide) rfl rfl rfl (fun a ha => by simp only [List.mem_cons, List.not_mem_nil, or_false] at ha; rcases ha with rfl | rfl <;> exact ⟨_, rfl⟩) (fun _ => Nat.zero_le _) (fun r h1 hq _ => ?_) (fun r h1 hq c => by obtain ⟨v, rfl, _⟩ := hq; simp)
  obtain ⟨v, rfl, hv, hc⟩ := hq
  subst hv
  refine lr_aload ok dL_law_677 rfl ?_
  refine lr_aload ok dL_law_678 rfl ?_
  refine lr_iload ok dL_law_679 rfl ?_
  refine lr_iconst ok dL_law_680 ?_
  refine lr_iadd ok dL_law_681 ?_
  refine lr_sld ok (by omega) dL_law_682 ?_
  refine lr_aload ok dL_law_683 rfl ?_
  refine lr_iload ok dL_law_684 rfl ?_
  refine lr_iconst ok dL_law_685 ?_
  refine lr_iadd ok dL_law_686 ?_
  refine lr_sld ok (by omega) dL_law_687 ?_
  refine lr_callM (as := [am_I (lc_x k (i + 1)), am_I (lc_x k (i + 2))]) ok (c_X8_mark hV.2.2.1 (lx (i + 1)) (lx (i + 2))) lk_L_72 dL_law_688 (by decide) rfl rfl rfl (fun a ha => by simp only [List.mem_cons, List.not_mem_nil, or_false] at ha; rcases ha with rfl | rfl <;> exact ⟨_, rfl⟩) (fun _ => Nat.le_of_ble_eq_true rfl) (fun r g1 hq _ => ?_) (fun r g1 hq c => by obtain ⟨v, rfl, _⟩ := hq; simp)
  obtain ⟨v, rfl, hv, hm⟩ := hq
  subst hv
  refine lr_eqI (tgt := 1299) ok dL_law_691 rfl ?_
  exact K _ _ (hc.meq (mo_mark hV).2.2.1 hm) ((mo_mark hV).meq hm)
theorem lc_prize {k : lc_T} {i : Int} {h g : am_H} (ok : lc_ok k) (hi : 0 ≤ i ∧ i + 6 ≤ lc_L k) (hC : CRel h g) (hV : MOX g) (K : ∀ h' g' : am_H, CRel h' g' → MOX g' → LW k 1299 [some (am_R 2), some (am_R 0), some (am_R 1), some (am_I i)] [] h' g') : LW k 696 [some (am_R 2), some (am_R 0), some (am_R 1), some (am_I i)] [] h g := by
  have lx := lc_xr k
  refine lr_aload ok dL_law_696 rfl ?_
  refine lr_aload ok dL_law_697 rfl ?_
  refine lr_iload ok dL_law_698 rfl ?_
  refine lr_iconst ok dL_law_699 ?_
  refine lr_iadd ok dL_law_700 ?_
  refine lr_sld ok (by omega) dL_law_701 ?_
  refine lr_aload ok dL_law_702 rfl ?_
  refine lr_iload ok dL_law_703 rfl ?_
  refine lr_iconst ok dL_law_704 ?_
  refine lr_iadd ok dL_law_705 ?_
  refine lr_sld ok (by omega) dL_law_706 ?_
  refine lr_callC (as := [am_I (lc_x k (i + 1)), am_I (lc_x k (i + 2))]) ok (c_X7_prize hC hV.ok (lx (i + 1)) (lx (i + 2))) lk_L_73 dL_law_707 (by decide) rfl rfl rfl (fun a ha => by simp only [List.mem_cons, List.not_mem_nil, or_false] at ha; rcases ha with rfl | rfl <;> exact ⟨_, rfl⟩) (fun _ => Nat.zero_le _) (fun r h1 hq _ => ?_) (fun r h1 hq c => by obtain ⟨v, rfl, _⟩ := hq; simp)
  obtain ⟨v, rfl, hv, hc⟩ := hq
  subst hv
  refine lr_aload ok dL_law_710 rfl ?_
  refine lr_aload ok dL_law_711 rfl ?_
  refine lr_iload ok dL_law_712 rfl ?_
  refine lr_iconst ok dL_law_713 ?_
  refine lr_iadd ok dL_law_714 ?_
  refine lr_sld ok (by omega) dL_law_715 ?_
  refine lr_aload ok dL_law_716 rfl ?_
  refine lr_iload ok dL_law_717 rfl ?_
  refine lr_iconst ok dL_law_718 ?_
  refine lr_iadd ok dL_law_719 ?_
  refine lr_sld ok (by omega) dL_law_720 ?_
  refine lr_callM (as := [am_I (lc_x k (i + 1)), am_I (lc_x k (i + 2))]) ok (c_X8_prize hV.2.2.1 (lx (i + 1)) (lx (i + 2))) lk_L_76 dL_law_721 (by decide) rfl rfl rfl (fun a ha => by simp only [List.mem_cons, List.not_mem_nil, or_false] at ha; rcases ha with rfl | rfl <;> exact ⟨_, rfl⟩) (fun _ => Nat.le_of_ble_eq_true rfl) (fun r g1 hq _ => ?_) (fun r g1 hq c => by obtain ⟨v, rfl, _⟩ := hq; simp)
  obtain ⟨v, rfl, hv, hm⟩ := hq
  subst hv
  refine lr_eqI (tgt := 1299) ok dL_law_724 rfl ?_
  exact K _ _ (hc.meq (mo_prize hV).2.2.1 hm) ((mo_prize hV).meq hm)
theorem lc_say {k : lc_T} {i : Int} {h g : am_H} (ok : lc_ok k) (hi : 0 ≤ i ∧ i + 6 ≤ lc_L k) (hC : CRel h g) (hV : MOX g) (K : ∀ h' g' : am_H, CRel h' g' → MOX g' → LW k 1299 [some (am_R 2), some (am_R 0), some (am_R 1), some (am_I i)] [] h' g') : LW k 729 [some (am_R 2), some (am_R 0), some (am_R 1), some (am_I i)] [] h g := by
  have lx := lc_xr k
  refine lr_aload ok dL_law_729 rfl ?_
  refine lr_aload ok dL_law_730 rfl ?_
  refine lr_iload ok dL_law_731 rfl ?_
  refine lr_iconst ok dL_law_732 ?_
  refine lr_iadd ok dL_law_733 ?_
  refine lr_sld ok (by omega) dL_law_734 ?_
  refine lr_callC (as := [am_I (lc_x k (i + 1))]) ok (c_X7_say hC hV.ok (lx (i + 1))) lk_L_77 dL_law_735 (by decide) rfl rfl rfl (fun a ha => by simp only [List.mem_cons, List.not_mem_nil, or_false] at ha; subst ha <;> exact ⟨_, rfl⟩) (fun _ => Nat.zero_le _) (fun r h1 hq _ => ?_) (fun r h1 hq c => by obtain ⟨v, rfl, _⟩ := hq; simp)
  obtain ⟨v, rfl, hv, hc⟩ := hq
  subst hv
  refine lr_aload ok dL_law_738 rfl ?_
  refine lr_aload ok dL_law_739 rfl ?_
  refine lr_iload ok dL_law_740 rfl ?_
  refine lr_iconst ok dL_law_741 ?_
  refine lr_iadd ok dL_law_742 ?_
  refine lr_sld ok (by omega) dL_law_743 ?_
  refine lr_callM (as := [am_I (lc_x k (i + 1))]) ok (c_X8_say hV.2.2.1 hV.2.2.2.1.y hV.2.2.2.1.d.1 (lx (i + 1))) lk_L_80 dL_law_744 (by decide) rfl rfl rfl (fun a ha => by simp only [List.mem_cons, List.not_mem_nil, or_false] at ha; subst ha <;> exact ⟨_, rfl⟩) (fun _ => Nat.le_of_ble_eq_true rfl) (fun r g1 hq _ => ?_) (fun r g1 hq c => by obtain ⟨v, rfl, _⟩ := hq; simp)
  obtain ⟨v, rfl, hv, hm⟩ := hq
  subst hv
  refine lr_eqI (tgt := 1299) ok dL_law_747 rfl ?_
  exact K _ _ (hc.meq (mo_say hV).2.2.1 hm) ((mo_say hV).meq hm)
theorem lc_begin {k : lc_T} {i : Int} {h g : am_H} (ok : lc_ok k) (hi : 0 ≤ i ∧ i + 6 ≤ lc_L k) (hC : CRel h g) (hV : MOX g) (K : ∀ h' g' : am_H, CRel h' g' → MOX g' → LW k 1299 [some (am_R 2), some (am_R 0), some (am_R 1), some (am_I i)] [] h' g') : LW k 752 [some (am_R 2), some (am_R 0), some (am_R 1), some (am_I i)] [] h g := by
  have lx := lc_xr k
  refine lr_aload ok dL_law_752 rfl ?_
  refine lr_aload ok dL_law_753 rfl ?_
  refine lr_iload ok dL_law_754 rfl ?_
  refine lr_iconst ok dL_law_755 ?_
  refine lr_iadd ok dL_law_756 ?_
  refine lr_sld ok (by omega) dL_law_757 ?_
  refine lr_callC (as := [am_I (lc_x k (i + 1))]) ok (c_X7_begin hC hV.ok (lx (i + 1))) lk_L_81 dL_law_758 (by decide) rfl rfl rfl (fun a ha => by simp only [List.mem_cons, List.not_mem_nil, or_false] at ha; subst ha <;> exact ⟨_, rfl⟩) (fun _ => Nat.zero_le _) (fun r h1 hq _ => ?_) (fun r h1 hq c => by obtain ⟨v, rfl, _⟩ := hq; simp)
  obtain ⟨v, rfl, hv, hc⟩ := hq
  subst hv
  refine lr_aload ok dL_law_761 rfl ?_
  refine lr_aload ok dL_law_762 rfl ?_
  refine lr_iload ok dL_law_763 rfl ?_
  refine lr_iconst ok dL_law_764 ?_
  refine lr_iadd ok dL_law_765 ?_
  refine lr_sld ok (by omega) dL_law_766 ?_
  refine lr_callM (as := [am_I (lc_x k (i + 1))]) ok (c_X8_begin hV.2.2.1 hV.2.2.2.1.y (lx (i + 1))) lk_L_84 dL_law_767 (by decide) rfl rfl rfl (fun a ha => by simp only [List.mem_cons, List.not_mem_nil, or_false] at ha; subst ha <;> exact ⟨_, rfl⟩) (fun _ => Nat.le_of_ble_eq_true rfl) (fun r g1 hq _ => ?_) (fun r g1 hq c => by obtain ⟨v, rfl, _⟩ := hq; simp)
  obtain ⟨v, rfl, hv, hm⟩ := hq
  subst hv
  refine lr_eqI (tgt := 1299) ok dL_law_770 rfl ?_
  exact K _ _ (hc.meq (mo_begin hV).2.2.1 hm) ((mo_begin hV).meq hm)
theorem lc_undo {k : lc_T} {i : Int} {h g : am_H} (ok : lc_ok k) (hi : 0 ≤ i ∧ i + 6 ≤ lc_L k) (hC : CRel h g) (hV : MOX g) (K : ∀ h' g' : am_H, CRel h' g' → MOX g' → LW k 1299 [some (am_R 2), some (am_R 0), some (am_R 1), some (am_I i)] [] h' g') : LW k 775 [some (am_R 2), some (am_R 0), some (am_R 1), some (am_I i)] [] h g := by
  have lx := lc_xr k
  refine lr_aload ok dL_law_775 rfl ?_
  refine lr_aload ok dL_law_776 rfl ?_
  refine lr_iload ok dL_law_777 rfl ?_
  refine lr_iconst ok dL_law_778 ?_
  refine lr_iadd ok dL_law_779 ?_
  refine lr_sld ok (by omega) dL_law_780 ?_
  refine lr_callC (as := [am_I (lc_x k (i + 1))]) ok (c_X7_undo hC hV.ok (lx (i + 1))) lk_L_85 dL_law_781 (by decide) rfl rfl rfl (fun a ha => by simp only [List.mem_cons, List.not_mem_nil, or_false] at ha; subst ha <;> exact ⟨_, rfl⟩) (fun _ => Nat.zero_le _) (fun r h1 hq _ => ?_) (fun r h1 hq c => by obtain ⟨v, rfl, _⟩ := hq; simp)
  obtain ⟨v, rfl, hv, hc⟩ := hq
  subst hv
  refine lr_aload ok dL_law_784 rfl ?_
  refine lr_aload ok dL_law_785 rfl ?_
  refine lr_iload ok dL_law_786 rfl ?_
  refine lr_iconst ok dL_law_787 ?_
  refine lr_iadd ok dL_law_788 ?_
  refine lr_sld ok (by omega) dL_law_789 ?_
  refine lr_callM (as := [am_I (lc_x k (i + 1))]) ok (c_X8_undo hV.2.2.2.1.y (lx (i + 1))) lk_L_88 dL_law_790 (by decide) rfl rfl rfl (fun a ha => by simp only [List.mem_cons, List.not_mem_nil, or_false] at ha; subst ha <;> exact ⟨_, rfl⟩) (fun _ => Nat.le_of_ble_eq_true rfl) (fun r g1 hq _ => ?_) (fun r g1 hq c => by obtain ⟨v, rfl, _⟩ := hq; simp)
  obtain ⟨v, rfl, hv, hm⟩ := hq
  subst hv
  refine lr_eqI (tgt := 1299) ok dL_law_793 rfl ?_
  exact K _ _ (hc.meq (mo_undo hV).2.2.1 hm) ((mo_undo hV).meq hm)
theorem lc_here {k : lc_T} {i : Int} {h g : am_H} (ok : lc_ok k) (hi : 0 ≤ i ∧ i + 6 ≤ lc_L k) (hC : CRel h g) (hV : MOX g) (K : ∀ h' g' : am_H, CRel h' g' → MOX g' → LW k 1299 [some (am_R 2), some (am_R 0), some (am_R 1), some (am_I i)] [] h' g') : LW k 798 [some (am_R 2), some (am_R 0), some (am_R 1), some (am_I i)] [] h g := by
  have lx := lc_xr k
  refine lr_aload ok dL_law_798 rfl ?_
  refine lr_callC (as := []) ok (c_X7_here hC hV.ok) lk_L_89 dL_law_799 (by decide) rfl rfl rfl (fun a ha => by simp at ha) (fun _ => Nat.zero_le _) (fun r h1 hq _ => ?_) (fun r h1 hq c => by obtain ⟨v, rfl, _⟩ := hq; simp)
  obtain ⟨v, rfl, hv, hc⟩ := hq
  subst hv
  refine lr_aload ok dL_law_802 rfl ?_
  refine lr_callM (as := []) ok (c_X8_here hV.2.2.1 hV.2.2.2.1.y) lk_L_93 dL_law_803 (by decide) rfl rfl rfl (fun a ha => by simp at ha) (fun _ => Nat.le_of_ble_eq_true rfl) (fun r g1 hq _ => ?_) (fun r g1 hq c => by obtain ⟨v, rfl, _⟩ := hq; simp)
  obtain ⟨v, rfl, hv, hm⟩ := hq
  subst hv
  refine lr_eqI (tgt := 1299) ok dL_law_806 rfl ?_
  exact K _ _ (hc.meq (mo_here hV).2.2.1 hm) ((mo_here hV).meq hm)
theorem lc_over {k : lc_T} {i : Int} {h g : am_H} (ok : lc_ok k) (hi : 0 ≤ i ∧ i + 6 ≤ lc_L k) (hC : CRel h g) (hV : MOX g) (K : ∀ h' g' : am_H, CRel h' g' → MOX g' → LW k 1299 [some (am_R 2), some (am_R 0), some (am_R 1), some (am_I i)] [] h' g') : LW k 811 [some (am_R 2), some (am_R 0), some (am_R 1), some (am_I i)] [] h g := by
  have lx := lc_xr k
  refine lr_aload ok dL_law_811 rfl ?_
  refine lr_callC (as := []) ok (c_X7_over hC hV.ok) lk_L_94 dL_law_812 (by decide) rfl rfl rfl (fun a ha => by simp at ha) (fun _ => Nat.zero_le _) (fun r h1 hq _ => ?_) (fun r h1 hq c => by obtain ⟨v, rfl, _⟩ := hq; simp)
  obtain ⟨v, rfl, hv, hc⟩ := hq
  subst hv
  refine lr_aload ok dL_law_815 rfl ?_
  refine lr_callM (as := []) ok (c_X8_over hV.2.2.1 hV.2.2.2.1.y) lk_L_97 dL_law_816 (by decide) rfl rfl rfl (fun a ha => by simp at ha) (fun _ => Nat.le_of_ble_eq_true rfl) (fun r g1 hq _ => ?_) (fun r g1 hq c => by obtain ⟨v, rfl, _⟩ := hq; simp)
  obtain ⟨v, rfl, hv, hm⟩ := hq
  subst hv
  refine lr_eqI (tgt := 1299) ok dL_law_819 rfl ?_
  exact K _ _ (hc.meq (mo_over hV).2.2.1 hm) ((mo_over hV).meq hm)
theorem lc_told {k : lc_T} {i : Int} {h g : am_H} (ok : lc_ok k) (hi : 0 ≤ i ∧ i + 6 ≤ lc_L k) (hC : CRel h g) (hV : MOX g) (K : ∀ h' g' : am_H, CRel h' g' → MOX g' → LW k 1299 [some (am_R 2), some (am_R 0), some (am_R 1), some (am_I i)] [] h' g') : LW k 824 [some (am_R 2), some (am_R 0), some (am_R 1), some (am_I i)] [] h g := by
  have lx := lc_xr k
  refine lr_aload ok dL_law_824 rfl ?_
  refine lr_aload ok dL_law_825 rfl ?_
  refine lr_iload ok dL_law_826 rfl ?_
  refine lr_iconst ok dL_law_827 ?_
  refine lr_iadd ok dL_law_828 ?_
  refine lr_sld ok (by omega) dL_law_829 ?_
  refine lr_callC (as := [am_I (lc_x k (i + 1))]) ok (c_X7_told hC hV.ok (lx (i + 1))) lk_L_98 dL_law_830 (by decide) rfl rfl rfl (fun a ha => by simp only [List.mem_cons, List.not_mem_nil, or_false] at ha; subst ha <;> exact ⟨_, rfl⟩) (fun _ => Nat.zero_le _) (fun r h1 hq _ => ?_) (fun r h1 hq c => by obtain ⟨v, rfl, _⟩ := hq; simp)
  obtain ⟨v, rfl, hv, hc⟩ := hq
  subst hv
  refine lr_aload ok dL_law_833 rfl ?_
  refine lr_aload ok dL_law_834 rfl ?_
  refine lr_iload ok dL_law_835 rfl ?_
  refine lr_iconst ok dL_law_836 ?_
  refine lr_iadd ok dL_law_837 ?_
  refine lr_sld ok (by omega) dL_law_838 ?_
  refine lr_callM (as := [am_I (lc_x k (i + 1))]) ok (c_X8_told hV.2.2.2.1.y (lx (i + 1))) lk_L_101 dL_law_839 (by decide) rfl rfl rfl (fun a ha => by simp only [List.mem_cons, List.not_mem_nil, or_false] at ha; subst ha <;> exact ⟨_, rfl⟩) (fun _ => Nat.le_of_ble_eq_true rfl) (fun r g1 hq _ => ?_) (fun r g1 hq c => by obtain ⟨v, rfl, _⟩ := hq; simp)
  obtain ⟨v, rfl, hv, hm⟩ := hq
  subst hv
  refine lr_eqI (tgt := 1299) ok dL_law_842 rfl ?_
  exact K _ _ (hc.meq (mo_told hV).2.2.1 hm) ((mo_told hV).meq hm)
theorem lc_keep {k : lc_T} {i : Int} {h g : am_H} (ok : lc_ok k) (hi : 0 ≤ i ∧ i + 6 ≤ lc_L k) (hC : CRel h g) (hV : MOX g) (K : ∀ h' g' : am_H, CRel h' g' → MOX g' → LW k 1299 [some (am_R 2), some (am_R 0), some (am_R 1), some (am_I i)] [] h' g') : LW k 847 [some (am_R 2), some (am_R 0), some (am_R 1), some (am_I i)] [] h g := by
  have lx := lc_xr k
  refine lr_aload ok dL_law_847 rfl ?_
  refine lr_aload ok dL_law_848 rfl ?_
  refine lr_iload ok dL_law_849 rfl ?_
  refine lr_iconst ok dL_law_850 ?_
  refine lr_iadd ok dL_law_851 ?_
  refine lr_sld ok (by omega) dL_law_852 ?_
  refine lr_callC (as := [am_I (lc_x k (i + 1))]) ok (c_X7_keep hC hV.ok (lx (i + 1))) lk_L_102 dL_law_853 (by decide) rfl rfl rfl (fun a ha => by simp only [List.mem_cons, List.not_mem_nil, or_false] at ha; subst ha <;> exact ⟨_, rfl⟩) (fun _ => Nat.zero_le _) (fun r h1 hq _ => ?_) (fun r h1 hq c => by obtain ⟨v, rfl, _⟩ := hq; simp)
  obtain ⟨v, rfl, hv, hc⟩ := hq
  subst hv
  refine lr_aload ok dL_law_856 rfl ?_
  refine lr_aload ok dL_law_857 rfl ?_
  refine lr_iload ok dL_law_858 rfl ?_
  refine lr_iconst ok dL_law_859 ?_
  refine lr_iadd ok dL_law_860 ?_
  refine lr_sld ok (by omega) dL_law_861 ?_
  refine lr_callM (as := [am_I (lc_x k (i + 1))]) ok (c_X8_keep hV.2.2.1 (lx (i + 1))) lk_L_105 dL_law_862 (by decide) rfl rfl rfl (fun a ha => by simp only [List.mem_cons, List.not_mem_nil, or_false] at ha; subst ha <;> exact ⟨_, rfl⟩) (fun _ => Nat.le_of_ble_eq_true rfl) (fun r g1 hq _ => ?_) (fun r g1 hq c => by obtain ⟨v, rfl, _⟩ := hq; simp)
  obtain ⟨v, rfl, hv, hm⟩ := hq
  subst hv
  refine lr_eqI (tgt := 1299) ok dL_law_865 rfl ?_
  exact K _ _ (hc.meq (mo_keep hV).2.2.1 hm) ((mo_keep hV).meq hm)
theorem lc_on {k : lc_T} {i : Int} {h g : am_H} (ok : lc_ok k) (hi : 0 ≤ i ∧ i + 6 ≤ lc_L k) (hC : CRel h g) (hV : MOX g) (K : ∀ h' g' : am_H, CRel h' g' → MOX g' → LW k 1299 [some (am_R 2), some (am_R 0), some (am_R 1), some (am_I i)] [] h' g') : LW k 870 [some (am_R 2), some (am_R 0), some (am_R 1), some (am_I i)] [] h g := by
  have lx := lc_xr k
  refine lr_aload ok dL_law_870 rfl ?_
  refine lr_aload ok dL_law_871 rfl ?_
  refine lr_iload ok dL_law_872 rfl ?_
  refine lr_iconst ok dL_law_873 ?_
  refine lr_iadd ok dL_law_874 ?_
  refine lr_sld ok (by omega) dL_law_875 ?_
  refine lr_callC (as := [am_I (lc_x k (i + 1))]) ok (c_X7_on hC hV.ok (lx (i + 1))) lk_L_106 dL_law_876 (by decide) rfl rfl rfl (fun a ha => by simp only [List.mem_cons, List.not_mem_nil, or_false] at ha; subst ha <;> exact ⟨_, rfl⟩) (fun _ => Nat.zero_le _) (fun r h1 hq _ => ?_) (fun r h1 hq c => by obtain ⟨v, rfl, _⟩ := hq; simp)
  obtain ⟨v, rfl, hv, hc⟩ := hq
  subst hv
  refine lr_aload ok dL_law_879 rfl ?_
  refine lr_aload ok dL_law_880 rfl ?_
  refine lr_iload ok dL_law_881 rfl ?_
  refine lr_iconst ok dL_law_882 ?_
  refine lr_iadd ok dL_law_883 ?_
  refine lr_sld ok (by omega) dL_law_884 ?_
  refine lr_callM (as := [am_I (lc_x k (i + 1))]) ok (c_X8_on hV.2.2.2.2.1 (lx (i + 1))) lk_L_109 dL_law_885 (by decide) rfl rfl rfl (fun a ha => by simp only [List.mem_cons, List.not_mem_nil, or_false] at ha; subst ha <;> exact ⟨_, rfl⟩) (fun _ => Nat.le_of_ble_eq_true rfl) (fun r g1 hq _ => ?_) (fun r g1 hq c => by obtain ⟨v, rfl, _⟩ := hq; simp)
  obtain ⟨v, rfl, hv, hm⟩ := hq
  subst hv
  refine lr_eqI (tgt := 1299) ok dL_law_888 rfl ?_
  exact K _ _ (hc.meq (mo_on hV).2.2.1 hm) ((mo_on hV).meq hm)
theorem lc_odds {k : lc_T} {i : Int} {h g : am_H} (ok : lc_ok k) (hi : 0 ≤ i ∧ i + 6 ≤ lc_L k) (hC : CRel h g) (hV : MOX g) (K : ∀ h' g' : am_H, CRel h' g' → MOX g' → LW k 1299 [some (am_R 2), some (am_R 0), some (am_R 1), some (am_I i)] [] h' g') : LW k 893 [some (am_R 2), some (am_R 0), some (am_R 1), some (am_I i)] [] h g := by
  have lx := lc_xr k
  refine lr_aload ok dL_law_893 rfl ?_
  refine lr_aload ok dL_law_894 rfl ?_
  refine lr_iload ok dL_law_895 rfl ?_
  refine lr_iconst ok dL_law_896 ?_
  refine lr_iadd ok dL_law_897 ?_
  refine lr_sld ok (by omega) dL_law_898 ?_
  refine lr_callC (as := [am_I (lc_x k (i + 1))]) ok (c_X7_odds hC hV.ok (lx (i + 1))) lk_L_110 dL_law_899 (by decide) rfl rfl rfl (fun a ha => by simp only [List.mem_cons, List.not_mem_nil, or_false] at ha; subst ha <;> exact ⟨_, rfl⟩) (fun _ => Nat.zero_le _) (fun r h1 hq _ => ?_) (fun r h1 hq c => by obtain ⟨v, rfl, _⟩ := hq; simp)
  obtain ⟨v, rfl, hv, hc⟩ := hq
  subst hv
  refine lr_aload ok dL_law_902 rfl ?_
  refine lr_aload ok dL_law_903 rfl ?_
  refine lr_iload ok dL_law_904 rfl ?_
  refine lr_iconst ok dL_law_905 ?_
  refine lr_iadd ok dL_law_906 ?_
  refine lr_sld ok (by omega) dL_law_907 ?_
  refine lr_callM (as := [am_I (lc_x k (i + 1))]) ok (c_X8_odds hV.2.2.1 hV.2.2.2.1.y (lx (i + 1))) lk_L_113 dL_law_908 (by decide) rfl rfl rfl (fun a ha => by simp only [List.mem_cons, List.not_mem_nil, or_false] at ha; subst ha <;> exact ⟨_, rfl⟩) (fun _ => Nat.le_of_ble_eq_true rfl) (fun r g1 hq _ => ?_) (fun r g1 hq c => by obtain ⟨v, rfl, _⟩ := hq; simp)
  obtain ⟨v, rfl, hv, hm⟩ := hq
  subst hv
  refine lr_eqI (tgt := 1299) ok dL_law_911 rfl ?_
  exact K _ _ (hc.meq (mo_odds hV).2.2.1 hm) ((mo_odds hV).meq hm)
theorem lc_years {k : lc_T} {i : Int} {h g : am_H} (ok : lc_ok k) (hi : 0 ≤ i ∧ i + 6 ≤ lc_L k) (hC : CRel h g) (hV : MOX g) (K : ∀ h' g' : am_H, CRel h' g' → MOX g' → LW k 1299 [some (am_R 2), some (am_R 0), some (am_R 1), some (am_I i)] [] h' g') : LW k 916 [some (am_R 2), some (am_R 0), some (am_R 1), some (am_I i)] [] h g := by
  have lx := lc_xr k
  refine lr_aload ok dL_law_916 rfl ?_
  refine lr_callC (as := []) ok (c_X7_years hC hV.ok) lk_L_114 dL_law_917 (by decide) rfl rfl rfl (fun a ha => by simp at ha) (fun _ => Nat.zero_le _) (fun r h1 hq _ => ?_) (fun r h1 hq c => by obtain ⟨v, rfl, _⟩ := hq; simp)
  obtain ⟨v, rfl, hv, hc⟩ := hq
  subst hv
  refine lr_aload ok dL_law_920 rfl ?_
  refine lr_callM (as := []) ok (c_X8_years hV.2.2.1 hV.2.2.2.1.y) lk_L_117 dL_law_921 (by decide) rfl rfl rfl (fun a ha => by simp at ha) (fun _ => Nat.le_of_ble_eq_true rfl) (fun r g1 hq _ => ?_) (fun r g1 hq c => by obtain ⟨v, rfl, _⟩ := hq; simp)
  obtain ⟨v, rfl, hv, hm⟩ := hq
  subst hv
  refine lr_eqI (tgt := 1299) ok dL_law_924 rfl ?_
  exact K _ _ (hc.meq (mo_years hV).2.2.1 hm) ((mo_years hV).meq hm)
theorem lc_just {k : lc_T} {i : Int} {h g : am_H} (ok : lc_ok k) (hi : 0 ≤ i ∧ i + 6 ≤ lc_L k) (hC : CRel h g) (hV : MOX g) (K : ∀ h' g' : am_H, CRel h' g' → MOX g' → LW k 1299 [some (am_R 2), some (am_R 0), some (am_R 1), some (am_I i)] [] h' g') : LW k 929 [some (am_R 2), some (am_R 0), some (am_R 1), some (am_I i)] [] h g := by
  have lx := lc_xr k
  refine lr_aload ok dL_law_929 rfl ?_
  refine lr_aload ok dL_law_930 rfl ?_
  refine lr_iload ok dL_law_931 rfl ?_
  refine lr_iconst ok dL_law_932 ?_
  refine lr_iadd ok dL_law_933 ?_
  refine lr_sld ok (by omega) dL_law_934 ?_
  refine lr_callC (as := [am_I (lc_x k (i + 1))]) ok (c_X7_just hC hV.ok (lx (i + 1))) lk_L_118 dL_law_935 (by decide) rfl rfl rfl (fun a ha => by simp only [List.mem_cons, List.not_mem_nil, or_false] at ha; subst ha <;> exact ⟨_, rfl⟩) (fun _ => Nat.zero_le _) (fun r h1 hq _ => ?_) (fun r h1 hq c => by obtain ⟨v, rfl, _⟩ := hq; simp)
  obtain ⟨v, rfl, hv, hc⟩ := hq
  subst hv
  refine lr_aload ok dL_law_938 rfl ?_
  refine lr_aload ok dL_law_939 rfl ?_
  refine lr_iload ok dL_law_940 rfl ?_
  refine lr_iconst ok dL_law_941 ?_
  refine lr_iadd ok dL_law_942 ?_
  refine lr_sld ok (by omega) dL_law_943 ?_
  refine lr_callM (as := [am_I (lc_x k (i + 1))]) ok (c_X8_just hV.2.2.1 hV.2.2.2.1.y (lx (i + 1))) lk_L_121 dL_law_944 (by decide) rfl rfl rfl (fun a ha => by simp only [List.mem_cons, List.not_mem_nil, or_false] at ha; subst ha <;> exact ⟨_, rfl⟩) (fun _ => Nat.le_of_ble_eq_true rfl) (fun r g1 hq _ => ?_) (fun r g1 hq c => by obtain ⟨v, rfl, _⟩ := hq; simp)
  obtain ⟨v, rfl, hv, hm⟩ := hq
  subst hv
  refine lr_eqI (tgt := 1299) ok dL_law_947 rfl ?_
  exact K _ _ (hc.meq (mo_just hV).2.2.1 hm) ((mo_just hV).meq hm)
theorem lc_known {k : lc_T} {i : Int} {h g : am_H} (ok : lc_ok k) (hi : 0 ≤ i ∧ i + 6 ≤ lc_L k) (hC : CRel h g) (hV : MOX g) (K : ∀ h' g' : am_H, CRel h' g' → MOX g' → LW k 1299 [some (am_R 2), some (am_R 0), some (am_R 1), some (am_I i)] [] h' g') : LW k 952 [some (am_R 2), some (am_R 0), some (am_R 1), some (am_I i)] [] h g := by
  have lx := lc_xr k
  refine lr_aload ok dL_law_952 rfl ?_
  refine lr_callC (as := []) ok (c_X7_known hC hV.ok) lk_L_122 dL_law_953 (by decide) rfl rfl rfl (fun a ha => by simp at ha) (fun _ => Nat.zero_le _) (fun r h1 hq _ => ?_) (fun r h1 hq c => by obtain ⟨v, rfl, _⟩ := hq; simp)
  obtain ⟨v, rfl, hv, hc⟩ := hq
  subst hv
  refine lr_aload ok dL_law_956 rfl ?_
  refine lr_callM (as := []) ok (c_X8_known hV.2.2.1 hV.2.2.2.1.y) lk_L_125 dL_law_957 (by decide) rfl rfl rfl (fun a ha => by simp at ha) (fun _ => Nat.le_of_ble_eq_true rfl) (fun r g1 hq _ => ?_) (fun r g1 hq c => by obtain ⟨v, rfl, _⟩ := hq; simp)
  obtain ⟨v, rfl, hv, hm⟩ := hq
  subst hv
  refine lr_eqI (tgt := 1299) ok dL_law_960 rfl ?_
  exact K _ _ (hc.meq (mo_known hV).2.2.1 hm) ((mo_known hV).meq hm)
theorem lc_tell {k : lc_T} {i : Int} {h g : am_H} (ok : lc_ok k) (hi : 0 ≤ i ∧ i + 6 ≤ lc_L k) (hC : CRel h g) (hV : MOX g) (K : ∀ h' g' : am_H, CRel h' g' → MOX g' → LW k 1299 [some (am_R 2), some (am_R 0), some (am_R 1), some (am_I i)] [] h' g') : LW k 965 [some (am_R 2), some (am_R 0), some (am_R 1), some (am_I i)] [] h g := by
  have lx := lc_xr k
  refine lr_aload ok dL_law_965 rfl ?_
  refine lr_callC (as := []) ok (c_X7_tell hC hV.ok) lk_L_126 dL_law_966 (by decide) rfl rfl rfl (fun a ha => by simp at ha) (fun _ => Nat.zero_le _) (fun r h1 hq _ => ?_) (fun r h1 hq c => by obtain ⟨v, rfl, _⟩ := hq; simp)
  obtain ⟨v, rfl, hv, hc⟩ := hq
  subst hv
  refine lr_aload ok dL_law_969 rfl ?_
  refine lr_callM (as := []) ok (c_X8_tell hV.2.2.1 hV.2.2.2.1.y) lk_L_129 dL_law_970 (by decide) rfl rfl rfl (fun a ha => by simp at ha) (fun _ => Nat.le_of_ble_eq_true rfl) (fun r g1 hq _ => ?_) (fun r g1 hq c => by obtain ⟨v, rfl, _⟩ := hq; simp)
  obtain ⟨v, rfl, hv, hm⟩ := hq
  subst hv
  refine lr_eqI (tgt := 1299) ok dL_law_973 rfl ?_
  exact K _ _ (hc.meq (mo_tell hV).2.2.1 hm) ((mo_tell hV).meq hm)
theorem lc_worst {k : lc_T} {i : Int} {h g : am_H} (ok : lc_ok k) (hi : 0 ≤ i ∧ i + 6 ≤ lc_L k) (hC : CRel h g) (hV : MOX g) (K : ∀ h' g' : am_H, CRel h' g' → MOX g' → LW k 1299 [some (am_R 2), some (am_R 0), some (am_R 1), some (am_I i)] [] h' g') : LW k 978 [some (am_R 2), some (am_R 0), some (am_R 1), some (am_I i)] [] h g := by
  have lx := lc_xr k
  refine lr_aload ok dL_law_978 rfl ?_
  refine lr_callC (as := []) ok (c_X7_worst hC hV.ok) lk_L_130 dL_law_979 (by decide) rfl rfl rfl (fun a ha => by simp at ha) (fun _ => Nat.zero_le _) (fun r h1 hq _ => ?_) (fun r h1 hq c => by obtain ⟨v, rfl, _⟩ := hq; simp)
  obtain ⟨v, rfl, hv, hc⟩ := hq
  subst hv
  refine lr_aload ok dL_law_982 rfl ?_
  refine lr_callM (as := []) ok (c_X8_worst hV.2.2.1 hV.2.2.2.1.y hV.2.2.2.1.d.1) lk_L_133 dL_law_983 (by decide) rfl rfl rfl (fun a ha => by simp at ha) (fun _ => Nat.le_of_ble_eq_true rfl) (fun r g1 hq _ => ?_) (fun r g1 hq c => by obtain ⟨v, rfl, _⟩ := hq; simp)
  obtain ⟨v, rfl, hv, hm⟩ := hq
  subst hv
  refine lr_eqI (tgt := 1299) ok dL_law_986 rfl ?_
  exact K _ _ (hc.meq (mo_worst hV).2.2.1 hm) ((mo_worst hV).meq hm)
theorem lc_hopes {k : lc_T} {i : Int} {h g : am_H} (ok : lc_ok k) (hi : 0 ≤ i ∧ i + 6 ≤ lc_L k) (hC : CRel h g) (hV : MOX g) (K : ∀ h' g' : am_H, CRel h' g' → MOX g' → LW k 1299 [some (am_R 2), some (am_R 0), some (am_R 1), some (am_I i)] [] h' g') : LW k 991 [some (am_R 2), some (am_R 0), some (am_R 1), some (am_I i)] [] h g := by
  have lx := lc_xr k
  refine lr_aload ok dL_law_991 rfl ?_
  refine lr_callC (as := []) ok (c_X7_hopes hC hV.ok) lk_L_134 dL_law_992 (by decide) rfl rfl rfl (fun a ha => by simp at ha) (fun _ => Nat.zero_le _) (fun r h1 hq _ => ?_) (fun r h1 hq c => by obtain ⟨v, rfl, _⟩ := hq; simp)
  obtain ⟨v, rfl, hv, hc⟩ := hq
  subst hv
  refine lr_aload ok dL_law_995 rfl ?_
  refine lr_callM (as := []) ok (c_X8_hopes hV.2.2.1 hV.2.2.2.1.y hV.2.2.2.1.d.1) lk_L_137 dL_law_996 (by decide) rfl rfl rfl (fun a ha => by simp at ha) (fun _ => Nat.le_of_ble_eq_true rfl) (fun r g1 hq _ => ?_) (fun r g1 hq c => by obtain ⟨v, rfl, _⟩ := hq; simp)
  obtain ⟨v, rfl, hv, hm⟩ := hq
  subst hv
  refine lr_eqI (tgt := 1299) ok dL_law_999 rfl ?_
  exact K _ _ (hc.meq (mo_hopes hV).2.2.1 hm) ((mo_hopes hV).meq hm)
theorem lc_brings {k : lc_T} {i : Int} {h g : am_H} (ok : lc_ok k) (hi : 0 ≤ i ∧ i + 6 ≤ lc_L k) (hC : CRel h g) (hV : MOX g) (K : ∀ h' g' : am_H, CRel h' g' → MOX g' → LW k 1299 [some (am_R 2), some (am_R 0), some (am_R 1), some (am_I i)] [] h' g') : LW k 1004 [some (am_R 2), some (am_R 0), some (am_R 1), some (am_I i)] [] h g := by
  have lx := lc_xr k
  refine lr_aload ok dL_law_1004 rfl ?_
  refine lr_aload ok dL_law_1005 rfl ?_
  refine lr_iload ok dL_law_1006 rfl ?_
  refine lr_iconst ok dL_law_1007 ?_
  refine lr_iadd ok dL_law_1008 ?_
  refine lr_sld ok (by omega) dL_law_1009 ?_
  refine lr_callC (as := [am_I (lc_x k (i + 1))]) ok (c_X7_brings hC hV.ok (lx (i + 1))) lk_L_138 dL_law_1010 (by decide) rfl rfl rfl (fun a ha => by simp only [List.mem_cons, List.not_mem_nil, or_false] at ha; subst ha <;> exact ⟨_, rfl⟩) (fun _ => Nat.zero_le _) (fun r h1 hq _ => ?_) (fun r h1 hq c => by obtain ⟨v, rfl, _⟩ := hq; simp)
  obtain ⟨v, rfl, hv, hc⟩ := hq
  subst hv
  refine lr_aload ok dL_law_1013 rfl ?_
  refine lr_aload ok dL_law_1014 rfl ?_
  refine lr_iload ok dL_law_1015 rfl ?_
  refine lr_iconst ok dL_law_1016 ?_
  refine lr_iadd ok dL_law_1017 ?_
  refine lr_sld ok (by omega) dL_law_1018 ?_
  refine lr_callM (as := [am_I (lc_x k (i + 1))]) ok (c_X8_brings hV.2.2.1 hV.2.2.2.1.y hV.1 hV.2.2.2.1.d.1 (lx (i + 1))) lk_L_141 dL_law_1019 (by decide) rfl rfl rfl (fun a ha => by simp only [List.mem_cons, List.not_mem_nil, or_false] at ha; subst ha <;> exact ⟨_, rfl⟩) (fun _ => Nat.le_of_ble_eq_true rfl) (fun r g1 hq _ => ?_) (fun r g1 hq c => by obtain ⟨v, rfl, _⟩ := hq; simp)
  obtain ⟨v, rfl, hv, hm⟩ := hq
  subst hv
  refine lr_eqI (tgt := 1299) ok dL_law_1022 rfl ?_
  exact K _ _ (hc.meq (mo_brings hV).2.2.1 hm) ((mo_brings hV).meq hm)
theorem lc_knows {k : lc_T} {i : Int} {h g : am_H} (ok : lc_ok k) (hi : 0 ≤ i ∧ i + 6 ≤ lc_L k) (hC : CRel h g) (hV : MOX g) (K : ∀ h' g' : am_H, CRel h' g' → MOX g' → LW k 1299 [some (am_R 2), some (am_R 0), some (am_R 1), some (am_I i)] [] h' g') : LW k 1027 [some (am_R 2), some (am_R 0), some (am_R 1), some (am_I i)] [] h g := by
  have lx := lc_xr k
  refine lr_aload ok dL_law_1027 rfl ?_
  refine lr_aload ok dL_law_1028 rfl ?_
  refine lr_iload ok dL_law_1029 rfl ?_
  refine lr_iconst ok dL_law_1030 ?_
  refine lr_iadd ok dL_law_1031 ?_
  refine lr_sld ok (by omega) dL_law_1032 ?_
  refine lr_callC (as := [am_I (lc_x k (i + 1))]) ok (c_X7_knows hC hV.ok (lx (i + 1))) lk_L_142 dL_law_1033 (by decide) rfl rfl rfl (fun a ha => by simp only [List.mem_cons, List.not_mem_nil, or_false] at ha; subst ha <;> exact ⟨_, rfl⟩) (fun _ => Nat.zero_le _) (fun r h1 hq _ => ?_) (fun r h1 hq c => by obtain ⟨v, rfl, _⟩ := hq; simp)
  obtain ⟨v, rfl, hv, hc⟩ := hq
  subst hv
  refine lr_aload ok dL_law_1036 rfl ?_
  refine lr_aload ok dL_law_1037 rfl ?_
  refine lr_iload ok dL_law_1038 rfl ?_
  refine lr_iconst ok dL_law_1039 ?_
  refine lr_iadd ok dL_law_1040 ?_
  refine lr_sld ok (by omega) dL_law_1041 ?_
  refine lr_callM (as := [am_I (lc_x k (i + 1))]) ok (c_X8_knows hV.2.2.1 hV.2.2.2.1.y hV.1 hV.2.2.2.1.d.1 (lx (i + 1))) lk_L_145 dL_law_1042 (by decide) rfl rfl rfl (fun a ha => by simp only [List.mem_cons, List.not_mem_nil, or_false] at ha; subst ha <;> exact ⟨_, rfl⟩) (fun _ => Nat.le_of_ble_eq_true rfl) (fun r g1 hq _ => ?_) (fun r g1 hq c => by obtain ⟨v, rfl, _⟩ := hq; simp)
  obtain ⟨v, rfl, hv, hm⟩ := hq
  subst hv
  refine lr_eqI (tgt := 1299) ok dL_law_1045 rfl ?_
  exact K _ _ (hc.meq (mo_knows hV).2.2.1 hm) ((mo_knows hV).meq hm)
theorem lc_heard {k : lc_T} {i : Int} {h g : am_H} (ok : lc_ok k) (hi : 0 ≤ i ∧ i + 6 ≤ lc_L k) (hC : CRel h g) (hV : MOX g) (K : ∀ h' g' : am_H, CRel h' g' → MOX g' → LW k 1299 [some (am_R 2), some (am_R 0), some (am_R 1), some (am_I i)] [] h' g') : LW k 1050 [some (am_R 2), some (am_R 0), some (am_R 1), some (am_I i)] [] h g := by
  have lx := lc_xr k
  refine lr_aload ok dL_law_1050 rfl ?_
  refine lr_aload ok dL_law_1051 rfl ?_
  refine lr_iload ok dL_law_1052 rfl ?_
  refine lr_iconst ok dL_law_1053 ?_
  refine lr_iadd ok dL_law_1054 ?_
  refine lr_sld ok (by omega) dL_law_1055 ?_
  refine lr_callC (as := [am_I (lc_x k (i + 1))]) ok (c_X7_heard hC hV.ok (lx (i + 1))) lk_L_146 dL_law_1056 (by decide) rfl rfl rfl (fun a ha => by simp only [List.mem_cons, List.not_mem_nil, or_false] at ha; subst ha <;> exact ⟨_, rfl⟩) (fun _ => Nat.zero_le _) (fun r h1 hq _ => ?_) (fun r h1 hq c => by obtain ⟨v, rfl, _⟩ := hq; simp)
  obtain ⟨v, rfl, hv, hc⟩ := hq
  subst hv
  refine lr_aload ok dL_law_1059 rfl ?_
  refine lr_aload ok dL_law_1060 rfl ?_
  refine lr_iload ok dL_law_1061 rfl ?_
  refine lr_iconst ok dL_law_1062 ?_
  refine lr_iadd ok dL_law_1063 ?_
  refine lr_sld ok (by omega) dL_law_1064 ?_
  refine lr_callM (as := [am_I (lc_x k (i + 1))]) ok (c_X8_heard hV.2.2.1 hV.2.2.2.1.y hV.1 (lx (i + 1))) lk_L_149 dL_law_1065 (by decide) rfl rfl rfl (fun a ha => by simp only [List.mem_cons, List.not_mem_nil, or_false] at ha; subst ha <;> exact ⟨_, rfl⟩) (fun _ => Nat.le_of_ble_eq_true rfl) (fun r g1 hq _ => ?_) (fun r g1 hq c => by obtain ⟨v, rfl, _⟩ := hq; simp)
  obtain ⟨v, rfl, hv, hm⟩ := hq
  subst hv
  refine lr_eqI (tgt := 1299) ok dL_law_1068 rfl ?_
  exact K _ _ (hc.meq (mo_heard hV).2.2.1 hm) ((mo_heard hV).meq hm)
theorem lc_slips {k : lc_T} {i : Int} {h g : am_H} (ok : lc_ok k) (hi : 0 ≤ i ∧ i + 6 ≤ lc_L k) (hC : CRel h g) (hV : MOX g) (K : ∀ h' g' : am_H, CRel h' g' → MOX g' → LW k 1299 [some (am_R 2), some (am_R 0), some (am_R 1), some (am_I i)] [] h' g') : LW k 1073 [some (am_R 2), some (am_R 0), some (am_R 1), some (am_I i)] [] h g := by
  have lx := lc_xr k
  refine lr_aload ok dL_law_1073 rfl ?_
  refine lr_aload ok dL_law_1074 rfl ?_
  refine lr_iload ok dL_law_1075 rfl ?_
  refine lr_iconst ok dL_law_1076 ?_
  refine lr_iadd ok dL_law_1077 ?_
  refine lr_sld ok (by omega) dL_law_1078 ?_
  refine lr_callC (as := [am_I (lc_x k (i + 1))]) ok (c_X7_slips hC hV.ok (lx (i + 1))) lk_L_150 dL_law_1079 (by decide) rfl rfl rfl (fun a ha => by simp only [List.mem_cons, List.not_mem_nil, or_false] at ha; subst ha <;> exact ⟨_, rfl⟩) (fun _ => Nat.zero_le _) (fun r h1 hq _ => ?_) (fun r h1 hq c => by obtain ⟨v, rfl, _⟩ := hq; simp)
  obtain ⟨v, rfl, hv, hc⟩ := hq
  subst hv
  refine lr_aload ok dL_law_1082 rfl ?_
  refine lr_aload ok dL_law_1083 rfl ?_
  refine lr_iload ok dL_law_1084 rfl ?_
  refine lr_iconst ok dL_law_1085 ?_
  refine lr_iadd ok dL_law_1086 ?_
  refine lr_sld ok (by omega) dL_law_1087 ?_
  refine lr_callM (as := [am_I (lc_x k (i + 1))]) ok (c_X8_slips hV.2.2.1 hV.2.2.2.1.y hV.1 (lx (i + 1))) lk_L_153 dL_law_1088 (by decide) rfl rfl rfl (fun a ha => by simp only [List.mem_cons, List.not_mem_nil, or_false] at ha; subst ha <;> exact ⟨_, rfl⟩) (fun _ => Nat.le_of_ble_eq_true rfl) (fun r g1 hq _ => ?_) (fun r g1 hq c => by obtain ⟨v, rfl, _⟩ := hq; simp)
  obtain ⟨v, rfl, hv, hm⟩ := hq
  subst hv
  refine lr_eqI (tgt := 1299) ok dL_law_1091 rfl ?_
  exact K _ _ (hc.meq (mo_slips hV).2.2.1 hm) ((mo_slips hV).meq hm)
theorem lc_first {k : lc_T} {i : Int} {h g : am_H} (ok : lc_ok k) (hi : 0 ≤ i ∧ i + 6 ≤ lc_L k) (hC : CRel h g) (hV : MOX g) (K : ∀ h' g' : am_H, CRel h' g' → MOX g' → LW k 1299 [some (am_R 2), some (am_R 0), some (am_R 1), some (am_I i)] [] h' g') : LW k 1096 [some (am_R 2), some (am_R 0), some (am_R 1), some (am_I i)] [] h g := by
  have lx := lc_xr k
  refine lr_aload ok dL_law_1096 rfl ?_
  refine lr_aload ok dL_law_1097 rfl ?_
  refine lr_iload ok dL_law_1098 rfl ?_
  refine lr_iconst ok dL_law_1099 ?_
  refine lr_iadd ok dL_law_1100 ?_
  refine lr_sld ok (by omega) dL_law_1101 ?_
  refine lr_aload ok dL_law_1102 rfl ?_
  refine lr_iload ok dL_law_1103 rfl ?_
  refine lr_iconst ok dL_law_1104 ?_
  refine lr_iadd ok dL_law_1105 ?_
  refine lr_sld ok (by omega) dL_law_1106 ?_
  refine lr_callC (as := [am_I (lc_x k (i + 1)), am_I (lc_x k (i + 2))]) ok (c_X7_first hC hV.ok (lx (i + 1)) (lx (i + 2))) lk_L_154 dL_law_1107 (by decide) rfl rfl rfl (fun a ha => by simp only [List.mem_cons, List.not_mem_nil, or_false] at ha; rcases ha with rfl | rfl <;> exact ⟨_, rfl⟩) (fun _ => Nat.zero_le _) (fun r h1 hq _ => ?_) (fun r h1 hq c => by obtain ⟨v, rfl, _⟩ := hq; simp)
  obtain ⟨v, rfl, hv, hc⟩ := hq
  subst hv
  refine lr_aload ok dL_law_1110 rfl ?_
  refine lr_aload ok dL_law_1111 rfl ?_
  refine lr_iload ok dL_law_1112 rfl ?_
  refine lr_iconst ok dL_law_1113 ?_
  refine lr_iadd ok dL_law_1114 ?_
  refine lr_sld ok (by omega) dL_law_1115 ?_
  refine lr_aload ok dL_law_1116 rfl ?_
  refine lr_iload ok dL_law_1117 rfl ?_
  refine lr_iconst ok dL_law_1118 ?_
  refine lr_iadd ok dL_law_1119 ?_
  refine lr_sld ok (by omega) dL_law_1120 ?_
  refine lr_callM (as := [am_I (lc_x k (i + 1)), am_I (lc_x k (i + 2))]) ok (c_X8_first hV.2.2.1 hV.2.2.2.1.y hV.1 (lx (i + 1)) (lx (i + 2))) lk_L_157 dL_law_1121 (by decide) rfl rfl rfl (fun a ha => by simp only [List.mem_cons, List.not_mem_nil, or_false] at ha; rcases ha with rfl | rfl <;> exact ⟨_, rfl⟩) (fun _ => Nat.le_of_ble_eq_true rfl) (fun r g1 hq _ => ?_) (fun r g1 hq c => by obtain ⟨v, rfl, _⟩ := hq; simp)
  obtain ⟨v, rfl, hv, hm⟩ := hq
  subst hv
  refine lr_eqI (tgt := 1299) ok dL_law_1124 rfl ?_
  exact K _ _ (hc.meq (mo_first hV).2.2.1 hm) ((mo_first hV).meq hm)
theorem lc_least {k : lc_T} {i : Int} {h g : am_H} (ok : lc_ok k) (hi : 0 ≤ i ∧ i + 6 ≤ lc_L k) (hC : CRel h g) (hV : MOX g) (K : ∀ h' g' : am_H, CRel h' g' → MOX g' → LW k 1299 [some (am_R 2), some (am_R 0), some (am_R 1), some (am_I i)] [] h' g') : LW k 1129 [some (am_R 2), some (am_R 0), some (am_R 1), some (am_I i)] [] h g := by
  have lx := lc_xr k
  refine lr_aload ok dL_law_1129 rfl ?_
  refine lr_aload ok dL_law_1130 rfl ?_
  refine lr_iload ok dL_law_1131 rfl ?_
  refine lr_iconst ok dL_law_1132 ?_
  refine lr_iadd ok dL_law_1133 ?_
  refine lr_sld ok (by omega) dL_law_1134 ?_
  refine lr_callC (as := [am_I (lc_x k (i + 1))]) ok (c_X7_least hC hV.ok (lx (i + 1))) lk_L_158 dL_law_1135 (by decide) rfl rfl rfl (fun a ha => by simp only [List.mem_cons, List.not_mem_nil, or_false] at ha; subst ha <;> exact ⟨_, rfl⟩) (fun _ => Nat.zero_le _) (fun r h1 hq _ => ?_) (fun r h1 hq c => by obtain ⟨v, rfl, _⟩ := hq; simp)
  obtain ⟨v, rfl, hv, hc⟩ := hq
  subst hv
  refine lr_aload ok dL_law_1138 rfl ?_
  refine lr_aload ok dL_law_1139 rfl ?_
  refine lr_iload ok dL_law_1140 rfl ?_
  refine lr_iconst ok dL_law_1141 ?_
  refine lr_iadd ok dL_law_1142 ?_
  refine lr_sld ok (by omega) dL_law_1143 ?_
  refine lr_callM (as := [am_I (lc_x k (i + 1))]) ok (c_X8_least hV.2.2.1 hV.2.2.2.1.y hV.1 (lx (i + 1))) lk_L_161 dL_law_1144 (by decide) rfl rfl rfl (fun a ha => by simp only [List.mem_cons, List.not_mem_nil, or_false] at ha; subst ha <;> exact ⟨_, rfl⟩) (fun _ => Nat.le_of_ble_eq_true rfl) (fun r g1 hq _ => ?_) (fun r g1 hq c => by obtain ⟨v, rfl, _⟩ := hq; simp)
  obtain ⟨v, rfl, hv, hm⟩ := hq
  subst hv
  refine lr_eqI (tgt := 1299) ok dL_law_1147 rfl ?_
  exact K _ _ (hc.meq (mo_least hV).2.2.1 hm) ((mo_least hV).meq hm)
theorem lc_lots {k : lc_T} {i : Int} {h g : am_H} (ok : lc_ok k) (hi : 0 ≤ i ∧ i + 6 ≤ lc_L k) (hC : CRel h g) (hV : MOX g) (K : ∀ h' g' : am_H, CRel h' g' → MOX g' → LW k 1299 [some (am_R 2), some (am_R 0), some (am_R 1), some (am_I i)] [] h' g') : LW k 1152 [some (am_R 2), some (am_R 0), some (am_R 1), some (am_I i)] [] h g := by
  have lx := lc_xr k
  refine lr_aload ok dL_law_1152 rfl ?_
  refine lr_aload ok dL_law_1153 rfl ?_
  refine lr_iload ok dL_law_1154 rfl ?_
  refine lr_iconst ok dL_law_1155 ?_
  refine lr_iadd ok dL_law_1156 ?_
  refine lr_sld ok (by omega) dL_law_1157 ?_
  refine lr_aload ok dL_law_1158 rfl ?_
  refine lr_iload ok dL_law_1159 rfl ?_
  refine lr_iconst ok dL_law_1160 ?_
  refine lr_iadd ok dL_law_1161 ?_
  refine lr_sld ok (by omega) dL_law_1162 ?_
  refine lr_callC (as := [am_I (lc_x k (i + 1)), am_I (lc_x k (i + 2))]) ok (c_X7_lots hC hV.ok (lx (i + 1)) (lx (i + 2))) lk_L_162 dL_law_1163 (by decide) rfl rfl rfl (fun a ha => by simp only [List.mem_cons, List.not_mem_nil, or_false] at ha; rcases ha with rfl | rfl <;> exact ⟨_, rfl⟩) (fun _ => Nat.zero_le _) (fun r h1 hq _ => ?_) (fun r h1 hq c => by obtain ⟨v, rfl, _⟩ := hq; simp)
  obtain ⟨v, rfl, hv, hc⟩ := hq
  subst hv
  refine lr_aload ok dL_law_1166 rfl ?_
  refine lr_aload ok dL_law_1167 rfl ?_
  refine lr_iload ok dL_law_1168 rfl ?_
  refine lr_iconst ok dL_law_1169 ?_
  refine lr_iadd ok dL_law_1170 ?_
  refine lr_sld ok (by omega) dL_law_1171 ?_
  refine lr_aload ok dL_law_1172 rfl ?_
  refine lr_iload ok dL_law_1173 rfl ?_
  refine lr_iconst ok dL_law_1174 ?_
  refine lr_iadd ok dL_law_1175 ?_
  refine lr_sld ok (by omega) dL_law_1176 ?_
  refine lr_callM (as := [am_I (lc_x k (i + 1)), am_I (lc_x k (i + 2))]) ok (c_X8_lots hV.2.2.1 hV.2.2.2.1.y hV.2.2.2.1.d.1 (lx (i + 1)) (lx (i + 2))) lk_L_165 dL_law_1177 (by decide) rfl rfl rfl (fun a ha => by simp only [List.mem_cons, List.not_mem_nil, or_false] at ha; rcases ha with rfl | rfl <;> exact ⟨_, rfl⟩) (fun _ => Nat.le_of_ble_eq_true rfl) (fun r g1 hq _ => ?_) (fun r g1 hq c => by obtain ⟨v, rfl, _⟩ := hq; simp)
  obtain ⟨v, rfl, hv, hm⟩ := hq
  subst hv
  refine lr_eqI (tgt := 1299) ok dL_law_1180 rfl ?_
  exact K _ _ (hc.meq (mo_lots hV).2.2.1 hm) ((mo_lots hV).meq hm)
theorem lc_asked {k : lc_T} {i : Int} {h g : am_H} (ok : lc_ok k) (hi : 0 ≤ i ∧ i + 6 ≤ lc_L k) (hC : CRel h g) (hV : MOX g) (K : ∀ h' g' : am_H, CRel h' g' → MOX g' → LW k 1299 [some (am_R 2), some (am_R 0), some (am_R 1), some (am_I i)] [] h' g') : LW k 1185 [some (am_R 2), some (am_R 0), some (am_R 1), some (am_I i)] [] h g := by
  have lx := lc_xr k
  refine lr_aload ok dL_law_1185 rfl ?_
  refine lr_callC (as := []) ok (c_X7_asked hC) lk_L_166 dL_law_1186 (by decide) rfl rfl rfl (fun a ha => by simp at ha) (fun _ => Nat.zero_le _) (fun r h1 hq _ => ?_) (fun r h1 hq c => by obtain ⟨v, rfl, _⟩ := hq; simp)
  obtain ⟨v, rfl, hv, hc⟩ := hq
  subst hv
  refine lr_aload ok dL_law_1189 rfl ?_
  refine lr_callM (as := []) ok (c_X8_asked) lk_L_169 dL_law_1190 (by decide) rfl rfl rfl (fun a ha => by simp at ha) (fun _ => Nat.le_of_ble_eq_true rfl) (fun r g1 hq _ => ?_) (fun r g1 hq c => by obtain ⟨rfl, _⟩ := hq; simp)
  obtain ⟨rfl, rfl⟩ := hq
  refine lr_eqI (tgt := 1299) ok dL_law_1193 rfl ?_
  exact K _ _ hc hV
theorem lc_upper {k : lc_T} {i : Int} {h g : am_H} (ok : lc_ok k) (hi : 0 ≤ i ∧ i + 6 ≤ lc_L k) (hC : CRel h g) (hV : MOX g) (K : ∀ h' g' : am_H, CRel h' g' → MOX g' → LW k 1299 [some (am_R 2), some (am_R 0), some (am_R 1), some (am_I i)] [] h' g') : LW k 1198 [some (am_R 2), some (am_R 0), some (am_R 1), some (am_I i)] [] h g := by
  have lx := lc_xr k
  refine lr_aload ok dL_law_1198 rfl ?_
  refine lr_callC (as := []) ok (c_X7_upper hC) lk_L_170 dL_law_1199 (by decide) rfl rfl rfl (fun a ha => by simp at ha) (fun _ => Nat.zero_le _) (fun r h1 hq _ => ?_) (fun r h1 hq c => by obtain ⟨v, rfl, _⟩ := hq; simp)
  obtain ⟨v, rfl, hv, hc⟩ := hq
  subst hv
  refine lr_aload ok dL_law_1202 rfl ?_
  refine lr_callM (as := []) ok (c_X8_upper) lk_L_174 dL_law_1203 (by decide) rfl rfl rfl (fun a ha => by simp at ha) (fun _ => Nat.le_of_ble_eq_true rfl) (fun r g1 hq _ => ?_) (fun r g1 hq c => by obtain ⟨rfl, _⟩ := hq; simp)
  obtain ⟨rfl, rfl⟩ := hq
  refine lr_eqJ (tgt := 1299) ok dL_law_1206 dL_law_1207 rfl ?_
  exact K _ _ hc hV
theorem lc_lower {k : lc_T} {i : Int} {h g : am_H} (ok : lc_ok k) (hi : 0 ≤ i ∧ i + 6 ≤ lc_L k) (hC : CRel h g) (hV : MOX g) (K : ∀ h' g' : am_H, CRel h' g' → MOX g' → LW k 1299 [some (am_R 2), some (am_R 0), some (am_R 1), some (am_I i)] [] h' g') : LW k 1212 [some (am_R 2), some (am_R 0), some (am_R 1), some (am_I i)] [] h g := by
  have lx := lc_xr k
  refine lr_aload ok dL_law_1212 rfl ?_
  refine lr_callC (as := []) ok (c_X7_lower hC) lk_L_175 dL_law_1213 (by decide) rfl rfl rfl (fun a ha => by simp at ha) (fun _ => Nat.zero_le _) (fun r h1 hq _ => ?_) (fun r h1 hq c => by obtain ⟨v, rfl, _⟩ := hq; simp)
  obtain ⟨v, rfl, hv, hc⟩ := hq
  subst hv
  refine lr_aload ok dL_law_1216 rfl ?_
  refine lr_callM (as := []) ok (c_X8_lower) lk_L_178 dL_law_1217 (by decide) rfl rfl rfl (fun a ha => by simp at ha) (fun _ => Nat.le_of_ble_eq_true rfl) (fun r g1 hq _ => ?_) (fun r g1 hq c => by obtain ⟨rfl, _⟩ := hq; simp)
  obtain ⟨rfl, rfl⟩ := hq
  refine lr_eqJ (tgt := 1299) ok dL_law_1220 dL_law_1221 rfl ?_
  exact K _ _ hc hV
theorem lc_count {k : lc_T} {i : Int} {h g : am_H} (ok : lc_ok k) (hi : 0 ≤ i ∧ i + 6 ≤ lc_L k) (hC : CRel h g) (hV : MOX g) (K : ∀ h' g' : am_H, CRel h' g' → MOX g' → LW k 1299 [some (am_R 2), some (am_R 0), some (am_R 1), some (am_I i)] [] h' g') : LW k 1226 [some (am_R 2), some (am_R 0), some (am_R 1), some (am_I i)] [] h g := by
  have lx := lc_xr k
  refine lr_aload ok dL_law_1226 rfl ?_
  refine lr_aload ok dL_law_1227 rfl ?_
  refine lr_iload ok dL_law_1228 rfl ?_
  refine lr_iconst ok dL_law_1229 ?_
  refine lr_iadd ok dL_law_1230 ?_
  refine lr_sld ok (by omega) dL_law_1231 ?_
  refine lr_callC (as := [am_I (lc_x k (i + 1))]) ok (c_X7_count hC hV.ok (lx (i + 1))) lk_L_179 dL_law_1232 (by decide) rfl rfl rfl (fun a ha => by simp only [List.mem_cons, List.not_mem_nil, or_false] at ha; subst ha <;> exact ⟨_, rfl⟩) (fun _ => Nat.zero_le _) (fun r h1 hq _ => ?_) (fun r h1 hq c => by obtain ⟨v, rfl, _⟩ := hq; simp)
  obtain ⟨v, rfl, hv, hc⟩ := hq
  subst hv
  refine lr_aload ok dL_law_1235 rfl ?_
  refine lr_aload ok dL_law_1236 rfl ?_
  refine lr_iload ok dL_law_1237 rfl ?_
  refine lr_iconst ok dL_law_1238 ?_
  refine lr_iadd ok dL_law_1239 ?_
  refine lr_sld ok (by omega) dL_law_1240 ?_
  refine lr_callM (as := [am_I (lc_x k (i + 1))]) ok (c_X8_count hV.ok.z (lx (i + 1))) lk_L_182 dL_law_1241 (by decide) rfl rfl rfl (fun a ha => by simp only [List.mem_cons, List.not_mem_nil, or_false] at ha; subst ha <;> exact ⟨_, rfl⟩) (fun _ => Nat.le_of_ble_eq_true rfl) (fun r g1 hq _ => ?_) (fun r g1 hq c => by obtain ⟨rfl, _⟩ := hq; simp)
  obtain ⟨rfl, rfl⟩ := hq
  refine lr_eqI (tgt := 1299) ok dL_law_1244 rfl ?_
  exact K _ _ hc hV
theorem lc_finding {k : lc_T} {i : Int} {h g : am_H} (ok : lc_ok k) (hi : 0 ≤ i ∧ i + 6 ≤ lc_L k) (hC : CRel h g) (hV : MOX g) (K : ∀ h' g' : am_H, CRel h' g' → MOX g' → LW k 1299 [some (am_R 2), some (am_R 0), some (am_R 1), some (am_I i)] [] h' g') : LW k 1249 [some (am_R 2), some (am_R 0), some (am_R 1), some (am_I i)] [] h g := by
  have lx := lc_xr k
  refine lr_aload ok dL_law_1249 rfl ?_
  refine lr_callC (as := []) ok (c_X7_finding hC) lk_L_183 dL_law_1250 (by decide) rfl rfl rfl (fun a ha => by simp at ha) (fun _ => Nat.zero_le _) (fun r h1 hq _ => ?_) (fun r h1 hq c => by obtain ⟨v, rfl, _⟩ := hq; simp)
  obtain ⟨v, rfl, hv, hc⟩ := hq
  subst hv
  refine lr_aload ok dL_law_1253 rfl ?_
  refine lr_callM (as := []) ok (c_X8_finding) lk_L_186 dL_law_1254 (by decide) rfl rfl rfl (fun a ha => by simp at ha) (fun _ => Nat.le_of_ble_eq_true rfl) (fun r g1 hq _ => ?_) (fun r g1 hq c => by obtain ⟨rfl, _⟩ := hq; simp)
  obtain ⟨rfl, rfl⟩ := hq
  refine lr_eqI (tgt := 1299) ok dL_law_1257 rfl ?_
  exact K _ _ hc hV
theorem lc_findings {k : lc_T} {i : Int} {h g : am_H} (ok : lc_ok k) (hi : 0 ≤ i ∧ i + 6 ≤ lc_L k) (hC : CRel h g) (hV : MOX g) (K : ∀ h' g' : am_H, CRel h' g' → MOX g' → LW k 1299 [some (am_R 2), some (am_R 0), some (am_R 1), some (am_I i)] [] h' g') : LW k 1262 [some (am_R 2), some (am_R 0), some (am_R 1), some (am_I i)] [] h g := by
  have lx := lc_xr k
  refine lr_aload ok dL_law_1262 rfl ?_
  refine lr_aload ok dL_law_1263 rfl ?_
  refine lr_iload ok dL_law_1264 rfl ?_
  refine lr_iconst ok dL_law_1265 ?_
  refine lr_iadd ok dL_law_1266 ?_
  refine lr_sld ok (by omega) dL_law_1267 ?_
  refine lr_callC (as := [am_I (lc_x k (i + 1))]) ok (c_X7_findings hC (lx (i + 1))) lk_L_187 dL_law_1268 (by decide) rfl rfl rfl (fun a ha => by simp only [List.mem_cons, List.not_mem_nil, or_false] at ha; subst ha <;> exact ⟨_, rfl⟩) (fun _ => Nat.zero_le _) (fun r h1 hq _ => ?_) (fun r h1 hq c => by obtain ⟨v, rfl, _⟩ := hq; simp)
  obtain ⟨v, rfl, hv, hc⟩ := hq
  subst hv
  refine lr_aload ok dL_law_1271 rfl ?_
  refine lr_aload ok dL_law_1272 rfl ?_
  refine lr_iload ok dL_law_1273 rfl ?_
  refine lr_iconst ok dL_law_1274 ?_
  refine lr_iadd ok dL_law_1275 ?_
  refine lr_sld ok (by omega) dL_law_1276 ?_
  refine lr_callM (as := [am_I (lc_x k (i + 1))]) ok (c_X8_findings (lx (i + 1))) lk_L_190 dL_law_1277 (by decide) rfl rfl rfl (fun a ha => by simp only [List.mem_cons, List.not_mem_nil, or_false] at ha; subst ha <;> exact ⟨_, rfl⟩) (fun _ => Nat.le_of_ble_eq_true rfl) (fun r g1 hq _ => ?_) (fun r g1 hq c => by obtain ⟨v, rfl, _⟩ := hq; simp)
  obtain ⟨v, rfl, hv, hm⟩ := hq
  subst hv
  refine lr_eqI (tgt := 1299) ok dL_law_1280 rfl ?_
  exact K _ _ (hc.meq (mo_findings hV).2.2.1 hm) ((mo_findings hV).meq hm)
theorem lc_digest {k : lc_T} {i : Int} {h g : am_H} (ok : lc_ok k) (hi : 0 ≤ i ∧ i + 6 ≤ lc_L k) (hC : CRel h g) (hV : MOX g) (K : ∀ h' g' : am_H, CRel h' g' → MOX g' → LW k 1299 [some (am_R 2), some (am_R 0), some (am_R 1), some (am_I i)] [] h' g') : LW k 1285 [some (am_R 2), some (am_R 0), some (am_R 1), some (am_I i)] [] h g := by
  have lx := lc_xr k
  refine lr_aload ok dL_law_1285 rfl ?_
  refine lr_callC (as := []) ok (c_X7_digest hC hV.ok) lk_L_191 dL_law_1286 (by decide) rfl rfl rfl (fun a ha => by simp at ha) (fun _ => Nat.zero_le _) (fun r h1 hq _ => ?_) (fun r h1 hq c => by obtain ⟨v, rfl, _⟩ := hq; simp)
  obtain ⟨v, rfl, hv, hc⟩ := hq
  subst hv
  refine lr_aload ok dL_law_1289 rfl ?_
  refine lr_callM (as := []) ok (c_X8_digest hV.ok.z hV.2.2.2.1.y hV.ok.q) lk_L_194 dL_law_1290 (by decide) rfl rfl rfl (fun a ha => by simp at ha) (fun _ => Nat.le_of_ble_eq_true rfl) (fun r g1 hq _ => ?_) (fun r g1 hq c => by obtain ⟨v, rfl, _⟩ := hq; simp)
  obtain ⟨v, rfl, hv, hm⟩ := hq
  subst hv
  refine lr_eqJ (tgt := 1299) ok dL_law_1293 dL_law_1294 rfl ?_
  exact K _ _ (hc.meq hV.2.2.1 hm) (hV.meq hm)
