set_option maxRecDepth 100000 in
set_option maxHeartbeats 4000000 in
theorem law_town {nm : String} {G : pm_G} {B b cs zs cnt L i w : Nat} {σ : pm_S} {xs : Nat → Int32} (hG : pm_ok (mL_law nm) G B) (hR : pm_rm G 2000 600000 7302250) (hs : pm_scr G B b L xs) (hi : i + 6 ≤ L) (hL : L ≤ 3072) (hc : cs ≤ 590000) (hz : zs ≤ 7200000) (hw : w ≤ 1000) (hl : LI B σ cnt w) (hT : ∀ (σ' : pm_S) (cnt' cs' zs' : Nat), LI B σ' cnt' (w + 1) → cs' ≤ cs + 27 → zs' ≤ zs + 2170 → pm_wp (mL_law nm) G B 2105 [some (.ref b), some (.ref (B + 0)), some (.ref (B + 54)), some (.int (nI i))] [] cs' zs' cnt' σ') : pm_wp (mL_law nm) G B 268 [some (.ref b), some (.ref (B + 0)), some (.ref (B + 54)), some (.int (nI i))] [] cs zs cnt σ := by
  obtain ⟨h74, kp, S, T, lc, lm, ⟨K, h⟩, hx, hk⟩ := hl
  refine pm_weak (pm_sub_two lc) ?_
  refine pm_aloadn hG dL_law_268 rfl ?_
  obtain ⟨v, S1, T1, e1, e2, hr1, hx1, kx⟩ := (op_town  h).x hx
  refine pm_callV (As := []) (rest := []) hG hR dL_law_269 (lkL_13 _ rfl) okV_X11_town rfl rfl (c_X11_town (d := 1999) (by decide) e1) rfl rfl (by decide) (by omega) (by omega) (by decide) (pm_ki (fun v1 σ1 cnt1 hq => ?_))
  obtain ⟨rfl, rfl, rfl⟩ := hq
  have lm1 : pm_lies (cst B kp S1 σ) 54 (md_F B T.1 T.2) := lm.same (fun j h1 _ => pm_two_hi h1)
  refine pm_weak (pm_sub_mid lm1) ?_
  refine pm_pop hG dL_law_272 rfl ?_
  refine pm_aloadn hG dL_law_273 rfl ?_
  refine pm_callV (As := []) (rest := []) hG hR dL_law_274 (lkL_17 _ rfl) okV_X12_town rfl rfl (c_X12_town (d := 1999) (by decide) e2) rfl rfl (by decide) (by omega) (by omega) (by decide) (pm_ki (fun v2 σ2 cnt2 hq => ?_))
  obtain ⟨rfl, rfl, rfl⟩ := hq
  refine pm_pop hG dL_law_277 rfl ?_
  refine pm_goto (tgt := 2105) hG dL_law_278 rfl ?_
  exact hT _ _ _ _ (LI.nx h74 hk hr1 hx1 kx) (by omega) (by omega)

set_option maxRecDepth 100000 in
set_option maxHeartbeats 4000000 in
theorem law_road {nm : String} {G : pm_G} {B b cs zs cnt L i w : Nat} {σ : pm_S} {xs : Nat → Int32} (hG : pm_ok (mL_law nm) G B) (hR : pm_rm G 2000 600000 7302250) (hs : pm_scr G B b L xs) (hi : i + 6 ≤ L) (hL : L ≤ 3072) (hc : cs ≤ 590000) (hz : zs ≤ 7200000) (hw : w ≤ 1000) (hl : LI B σ cnt w) (hT : ∀ (σ' : pm_S) (cnt' cs' zs' : Nat), LI B σ' cnt' (w + 1) → cs' ≤ cs + 27 → zs' ≤ zs + 2170 → pm_wp (mL_law nm) G B 2105 [some (.ref b), some (.ref (B + 0)), some (.ref (B + 54)), some (.int (nI i))] [] cs' zs' cnt' σ') : pm_wp (mL_law nm) G B 281 [some (.ref b), some (.ref (B + 0)), some (.ref (B + 54)), some (.int (nI i))] [] cs zs cnt σ := by
  obtain ⟨h74, kp, S, T, lc, lm, ⟨K, h⟩, hx, hk⟩ := hl
  refine pm_weak (pm_sub_two lc) ?_
  refine pm_aloadn hG dL_law_281 rfl ?_
  refine pm_aloadn hG dL_law_282 rfl ?_
  refine pm_iloadn hG dL_law_283 rfl ?_
  refine pm_iconst (v := nI 1) hG dL_law_284 (by decide) ?_
  refine pm_iaddN (c := i + 1) hG dL_law_285 (by omega) ?_
  refine pm_sldN hG hs dL_law_286 (by omega) hL ?_
  refine pm_aloadn hG dL_law_287 rfl ?_
  refine pm_iloadn hG dL_law_288 rfl ?_
  refine pm_iconst (v := nI 2) hG dL_law_289 (by decide) ?_
  refine pm_iaddN (c := i + 2) hG dL_law_290 (by omega) ?_
  refine pm_sldN hG hs dL_law_291 (by omega) hL ?_
  refine pm_aloadn hG dL_law_292 rfl ?_
  refine pm_iloadn hG dL_law_293 rfl ?_
  refine pm_iconst (v := nI 3) hG dL_law_294 (by decide) ?_
  refine pm_iaddN (c := i + 3) hG dL_law_295 (by omega) ?_
  refine pm_sldN hG hs dL_law_296 (by omega) hL ?_
  obtain ⟨v, S1, T1, e1, e2, hr1, hx1, kx⟩ := (op_road (za := xs (i + 1)) (zb := xs (i + 2)) (zc := xs (i + 3)) h).x hx
  refine pm_callV (As := [.int (xs (i + 1)), .int (xs (i + 2)), .int (xs (i + 3))]) (rest := []) hG hR dL_law_297 (lkL_18 _ rfl) okV_X11_road rfl rfl (c_X11_road (d := 1999) (by decide) e1) rfl rfl (by decide) (by omega) (by omega) (by decide) (pm_ki (fun v1 σ1 cnt1 hq => ?_))
  obtain ⟨rfl, rfl, rfl⟩ := hq
  have lm1 : pm_lies (cst B kp S1 σ) 54 (md_F B T.1 T.2) := lm.same (fun j h1 _ => pm_two_hi h1)
  refine pm_weak (pm_sub_mid lm1) ?_
  refine pm_pop hG dL_law_300 rfl ?_
  refine pm_aloadn hG dL_law_301 rfl ?_
  refine pm_aloadn hG dL_law_302 rfl ?_
  refine pm_iloadn hG dL_law_303 rfl ?_
  refine pm_iconst (v := nI 1) hG dL_law_304 (by decide) ?_
  refine pm_iaddN (c := i + 1) hG dL_law_305 (by omega) ?_
  refine pm_sldN hG hs dL_law_306 (by omega) hL ?_
  refine pm_aloadn hG dL_law_307 rfl ?_
  refine pm_iloadn hG dL_law_308 rfl ?_
  refine pm_iconst (v := nI 2) hG dL_law_309 (by decide) ?_
  refine pm_iaddN (c := i + 2) hG dL_law_310 (by omega) ?_
  refine pm_sldN hG hs dL_law_311 (by omega) hL ?_
  refine pm_aloadn hG dL_law_312 rfl ?_
  refine pm_iloadn hG dL_law_313 rfl ?_
  refine pm_iconst (v := nI 3) hG dL_law_314 (by decide) ?_
  refine pm_iaddN (c := i + 3) hG dL_law_315 (by omega) ?_
  refine pm_sldN hG hs dL_law_316 (by omega) hL ?_
  refine pm_callV (As := [.int (xs (i + 1)), .int (xs (i + 2)), .int (xs (i + 3))]) (rest := []) hG hR dL_law_317 (lkL_22 _ rfl) okV_X12_road rfl rfl (c_X12_road (d := 1999) (by decide) e2) rfl rfl (by decide) (by omega) (by omega) (by decide) (pm_ki (fun v2 σ2 cnt2 hq => ?_))
  obtain ⟨rfl, rfl, rfl⟩ := hq
  refine pm_pop hG dL_law_320 rfl ?_
  refine pm_goto (tgt := 2105) hG dL_law_321 rfl ?_
  exact hT _ _ _ _ (LI.nx h74 hk hr1 hx1 kx) (by omega) (by omega)

set_option maxRecDepth 100000 in
set_option maxHeartbeats 4000000 in
theorem law_far {nm : String} {G : pm_G} {B b cs zs cnt L i w : Nat} {σ : pm_S} {xs : Nat → Int32} (hG : pm_ok (mL_law nm) G B) (hR : pm_rm G 2000 600000 7302250) (hs : pm_scr G B b L xs) (hi : i + 6 ≤ L) (hL : L ≤ 3072) (hc : cs ≤ 590000) (hz : zs ≤ 7200000) (hw : w ≤ 1000) (hl : LI B σ cnt w) (hT : ∀ (σ' : pm_S) (cnt' cs' zs' : Nat), LI B σ' cnt' (w + 1) → cs' ≤ cs + 27 → zs' ≤ zs + 2170 → pm_wp (mL_law nm) G B 2105 [some (.ref b), some (.ref (B + 0)), some (.ref (B + 54)), some (.int (nI i))] [] cs' zs' cnt' σ') : pm_wp (mL_law nm) G B 324 [some (.ref b), some (.ref (B + 0)), some (.ref (B + 54)), some (.int (nI i))] [] cs zs cnt σ := by
  obtain ⟨h74, kp, S, T, lc, lm, ⟨K, h⟩, hx, hk⟩ := hl
  refine pm_weak (pm_sub_two lc) ?_
  refine pm_aloadn hG dL_law_324 rfl ?_
  refine pm_aloadn hG dL_law_325 rfl ?_
  refine pm_iloadn hG dL_law_326 rfl ?_
  refine pm_iconst (v := nI 1) hG dL_law_327 (by decide) ?_
  refine pm_iaddN (c := i + 1) hG dL_law_328 (by omega) ?_
  refine pm_sldN hG hs dL_law_329 (by omega) hL ?_
  refine pm_aloadn hG dL_law_330 rfl ?_
  refine pm_iloadn hG dL_law_331 rfl ?_
  refine pm_iconst (v := nI 2) hG dL_law_332 (by decide) ?_
  refine pm_iaddN (c := i + 2) hG dL_law_333 (by omega) ?_
  refine pm_sldN hG hs dL_law_334 (by omega) hL ?_
  obtain ⟨v, S1, T1, e1, e2, hr1, hx1, kx⟩ := (op_far (za := xs (i + 1)) (zb := xs (i + 2)) h).x hx
  refine pm_callV (As := [.int (xs (i + 1)), .int (xs (i + 2))]) (rest := []) hG hR dL_law_335 (lkL_23 _ rfl) okV_X11_far rfl rfl (c_X11_far (d := 1999) (by decide) e1) rfl rfl (by decide) (by omega) (by omega) (by decide) (pm_ki (fun v1 σ1 cnt1 hq => ?_))
  obtain ⟨rfl, rfl, rfl⟩ := hq
  have lm1 : pm_lies (cst B kp S1 σ) 54 (md_F B T.1 T.2) := lm.same (fun j h1 _ => pm_two_hi h1)
  refine pm_weak (pm_sub_mid lm1) ?_
  refine pm_pop hG dL_law_338 rfl ?_
  refine pm_aloadn hG dL_law_339 rfl ?_
  refine pm_aloadn hG dL_law_340 rfl ?_
  refine pm_iloadn hG dL_law_341 rfl ?_
  refine pm_iconst (v := nI 1) hG dL_law_342 (by decide) ?_
  refine pm_iaddN (c := i + 1) hG dL_law_343 (by omega) ?_
  refine pm_sldN hG hs dL_law_344 (by omega) hL ?_
  refine pm_aloadn hG dL_law_345 rfl ?_
  refine pm_iloadn hG dL_law_346 rfl ?_
  refine pm_iconst (v := nI 2) hG dL_law_347 (by decide) ?_
  refine pm_iaddN (c := i + 2) hG dL_law_348 (by omega) ?_
  refine pm_sldN hG hs dL_law_349 (by omega) hL ?_
  refine pm_callV (As := [.int (xs (i + 1)), .int (xs (i + 2))]) (rest := []) hG hR dL_law_350 (lkL_27 _ rfl) okV_X12_far rfl rfl (c_X12_far (d := 1999) (by decide) e2) rfl rfl (by decide) (by omega) (by omega) (by decide) (pm_ki (fun v2 σ2 cnt2 hq => ?_))
  obtain ⟨rfl, rfl, rfl⟩ := hq
  refine pm_pop hG dL_law_353 rfl ?_
  refine pm_goto (tgt := 2105) hG dL_law_354 rfl ?_
  exact hT _ _ _ _ (LI.nx h74 hk hr1 hx1 kx) (by omega) (by omega)

set_option maxRecDepth 100000 in
set_option maxHeartbeats 4000000 in
theorem law_person {nm : String} {G : pm_G} {B b cs zs cnt L i w : Nat} {σ : pm_S} {xs : Nat → Int32} (hG : pm_ok (mL_law nm) G B) (hR : pm_rm G 2000 600000 7302250) (hs : pm_scr G B b L xs) (hi : i + 6 ≤ L) (hL : L ≤ 3072) (hc : cs ≤ 590000) (hz : zs ≤ 7200000) (hw : w ≤ 1000) (hl : LI B σ cnt w) (hT : ∀ (σ' : pm_S) (cnt' cs' zs' : Nat), LI B σ' cnt' (w + 1) → cs' ≤ cs + 27 → zs' ≤ zs + 2170 → pm_wp (mL_law nm) G B 2105 [some (.ref b), some (.ref (B + 0)), some (.ref (B + 54)), some (.int (nI i))] [] cs' zs' cnt' σ') : pm_wp (mL_law nm) G B 357 [some (.ref b), some (.ref (B + 0)), some (.ref (B + 54)), some (.int (nI i))] [] cs zs cnt σ := by
  obtain ⟨h74, kp, S, T, lc, lm, ⟨K, h⟩, hx, hk⟩ := hl
  refine pm_weak (pm_sub_two lc) ?_
  refine pm_aloadn hG dL_law_357 rfl ?_
  refine pm_aloadn hG dL_law_358 rfl ?_
  refine pm_iloadn hG dL_law_359 rfl ?_
  refine pm_iconst (v := nI 1) hG dL_law_360 (by decide) ?_
  refine pm_iaddN (c := i + 1) hG dL_law_361 (by omega) ?_
  refine pm_sldN hG hs dL_law_362 (by omega) hL ?_
  refine pm_aloadn hG dL_law_363 rfl ?_
  refine pm_iloadn hG dL_law_364 rfl ?_
  refine pm_iconst (v := nI 2) hG dL_law_365 (by decide) ?_
  refine pm_iaddN (c := i + 2) hG dL_law_366 (by omega) ?_
  refine pm_sldN hG hs dL_law_367 (by omega) hL ?_
  refine pm_aloadn hG dL_law_368 rfl ?_
  refine pm_iloadn hG dL_law_369 rfl ?_
  refine pm_iconst (v := nI 3) hG dL_law_370 (by decide) ?_
  refine pm_iaddN (c := i + 3) hG dL_law_371 (by omega) ?_
  refine pm_sldN hG hs dL_law_372 (by omega) hL ?_
  refine pm_aloadn hG dL_law_373 rfl ?_
  refine pm_iloadn hG dL_law_374 rfl ?_
  refine pm_iconst (v := nI 4) hG dL_law_375 (by decide) ?_
  refine pm_iaddN (c := i + 4) hG dL_law_376 (by omega) ?_
  refine pm_sldN hG hs dL_law_377 (by omega) hL ?_
  obtain ⟨v, S1, T1, e1, e2, hr1, hx1, kx⟩ := (op_person (za := xs (i + 1)) (zb := xs (i + 2)) (zc := xs (i + 3)) (zd := xs (i + 4)) h).x hx
  refine pm_callV (As := [.int (xs (i + 1)), .int (xs (i + 2)), .int (xs (i + 3)), .int (xs (i + 4))]) (rest := []) hG hR dL_law_378 (lkL_28 _ rfl) okV_X11_person rfl rfl (c_X11_person (d := 1999) (by decide) e1) rfl rfl (by decide) (by omega) (by omega) (by decide) (pm_ki (fun v1 σ1 cnt1 hq => ?_))
  obtain ⟨rfl, rfl, rfl⟩ := hq
  have lm1 : pm_lies (cst B kp S1 σ) 54 (md_F B T.1 T.2) := lm.same (fun j h1 _ => pm_two_hi h1)
  refine pm_weak (pm_sub_mid lm1) ?_
  refine pm_pop hG dL_law_381 rfl ?_
  refine pm_aloadn hG dL_law_382 rfl ?_
  refine pm_aloadn hG dL_law_383 rfl ?_
  refine pm_iloadn hG dL_law_384 rfl ?_
  refine pm_iconst (v := nI 1) hG dL_law_385 (by decide) ?_
  refine pm_iaddN (c := i + 1) hG dL_law_386 (by omega) ?_
  refine pm_sldN hG hs dL_law_387 (by omega) hL ?_
  refine pm_aloadn hG dL_law_388 rfl ?_
  refine pm_iloadn hG dL_law_389 rfl ?_
  refine pm_iconst (v := nI 2) hG dL_law_390 (by decide) ?_
  refine pm_iaddN (c := i + 2) hG dL_law_391 (by omega) ?_
  refine pm_sldN hG hs dL_law_392 (by omega) hL ?_
  refine pm_aloadn hG dL_law_393 rfl ?_
  refine pm_iloadn hG dL_law_394 rfl ?_
  refine pm_iconst (v := nI 3) hG dL_law_395 (by decide) ?_
  refine pm_iaddN (c := i + 3) hG dL_law_396 (by omega) ?_
  refine pm_sldN hG hs dL_law_397 (by omega) hL ?_
  refine pm_aloadn hG dL_law_398 rfl ?_
  refine pm_iloadn hG dL_law_399 rfl ?_
  refine pm_iconst (v := nI 4) hG dL_law_400 (by decide) ?_
  refine pm_iaddN (c := i + 4) hG dL_law_401 (by omega) ?_
  refine pm_sldN hG hs dL_law_402 (by omega) hL ?_
  refine pm_callV (As := [.int (xs (i + 1)), .int (xs (i + 2)), .int (xs (i + 3)), .int (xs (i + 4))]) (rest := []) hG hR dL_law_403 (lkL_32 _ rfl) okV_X12_person rfl rfl (c_X12_person (d := 1999) (by decide) e2) rfl rfl (by decide) (by omega) (by omega) (by decide) (pm_ki (fun v2 σ2 cnt2 hq => ?_))
  obtain ⟨rfl, rfl, rfl⟩ := hq
  refine pm_pop hG dL_law_406 rfl ?_
  refine pm_goto (tgt := 2105) hG dL_law_407 rfl ?_
  exact hT _ _ _ _ (LI.nx h74 hk hr1 hx1 kx) (by omega) (by omega)

set_option maxRecDepth 100000 in
set_option maxHeartbeats 4000000 in
theorem law_die {nm : String} {G : pm_G} {B b cs zs cnt L i w : Nat} {σ : pm_S} {xs : Nat → Int32} (hG : pm_ok (mL_law nm) G B) (hR : pm_rm G 2000 600000 7302250) (hs : pm_scr G B b L xs) (hi : i + 6 ≤ L) (hL : L ≤ 3072) (hc : cs ≤ 590000) (hz : zs ≤ 7200000) (hw : w ≤ 1000) (hl : LI B σ cnt w) (hT : ∀ (σ' : pm_S) (cnt' cs' zs' : Nat), LI B σ' cnt' (w + 1) → cs' ≤ cs + 27 → zs' ≤ zs + 2170 → pm_wp (mL_law nm) G B 2105 [some (.ref b), some (.ref (B + 0)), some (.ref (B + 54)), some (.int (nI i))] [] cs' zs' cnt' σ') : pm_wp (mL_law nm) G B 410 [some (.ref b), some (.ref (B + 0)), some (.ref (B + 54)), some (.int (nI i))] [] cs zs cnt σ := by
  obtain ⟨h74, kp, S, T, lc, lm, ⟨K, h⟩, hx, hk⟩ := hl
  refine pm_weak (pm_sub_two lc) ?_
  refine pm_aloadn hG dL_law_410 rfl ?_
  refine pm_aloadn hG dL_law_411 rfl ?_
  refine pm_iloadn hG dL_law_412 rfl ?_
  refine pm_iconst (v := nI 1) hG dL_law_413 (by decide) ?_
  refine pm_iaddN (c := i + 1) hG dL_law_414 (by omega) ?_
  refine pm_sldN hG hs dL_law_415 (by omega) hL ?_
  obtain ⟨v, S1, T1, e1, e2, hr1, hx1, kx⟩ := (op_die (za := xs (i + 1)) h).x hx
  refine pm_callV (As := [.int (xs (i + 1))]) (rest := []) hG hR dL_law_416 (lkL_33 _ rfl) okV_X11_die rfl rfl (c_X11_die (d := 1999) (by decide) e1) rfl rfl (by decide) (by omega) (by omega) (by decide) (pm_ki (fun v1 σ1 cnt1 hq => ?_))
  obtain ⟨rfl, rfl, rfl⟩ := hq
  have lm1 : pm_lies (cst B kp S1 σ) 54 (md_F B T.1 T.2) := lm.same (fun j h1 _ => pm_two_hi h1)
  refine pm_weak (pm_sub_mid lm1) ?_
  refine pm_pop hG dL_law_419 rfl ?_
  refine pm_aloadn hG dL_law_420 rfl ?_
  refine pm_aloadn hG dL_law_421 rfl ?_
  refine pm_iloadn hG dL_law_422 rfl ?_
  refine pm_iconst (v := nI 1) hG dL_law_423 (by decide) ?_
  refine pm_iaddN (c := i + 1) hG dL_law_424 (by omega) ?_
  refine pm_sldN hG hs dL_law_425 (by omega) hL ?_
  refine pm_callV (As := [.int (xs (i + 1))]) (rest := []) hG hR dL_law_426 (lkL_37 _ rfl) okV_X12_die rfl rfl (c_X12_die (d := 1999) (by decide) e2) rfl rfl (by decide) (by omega) (by omega) (by decide) (pm_ki (fun v2 σ2 cnt2 hq => ?_))
  obtain ⟨rfl, rfl, rfl⟩ := hq
  refine pm_pop hG dL_law_429 rfl ?_
  refine pm_goto (tgt := 2105) hG dL_law_430 rfl ?_
  exact hT _ _ _ _ (LI.nx h74 hk hr1 hx1 kx) (by omega) (by omega)

set_option maxRecDepth 100000 in
set_option maxHeartbeats 4000000 in
theorem law_go {nm : String} {G : pm_G} {B b cs zs cnt L i w : Nat} {σ : pm_S} {xs : Nat → Int32} (hG : pm_ok (mL_law nm) G B) (hR : pm_rm G 2000 600000 7302250) (hs : pm_scr G B b L xs) (hi : i + 6 ≤ L) (hL : L ≤ 3072) (hc : cs ≤ 590000) (hz : zs ≤ 7200000) (hw : w ≤ 1000) (hl : LI B σ cnt w) (hT : ∀ (σ' : pm_S) (cnt' cs' zs' : Nat), LI B σ' cnt' (w + 1) → cs' ≤ cs + 27 → zs' ≤ zs + 2170 → pm_wp (mL_law nm) G B 2105 [some (.ref b), some (.ref (B + 0)), some (.ref (B + 54)), some (.int (nI i))] [] cs' zs' cnt' σ') : pm_wp (mL_law nm) G B 433 [some (.ref b), some (.ref (B + 0)), some (.ref (B + 54)), some (.int (nI i))] [] cs zs cnt σ := by
  obtain ⟨h74, kp, S, T, lc, lm, ⟨K, h⟩, hx, hk⟩ := hl
  refine pm_weak (pm_sub_two lc) ?_
  refine pm_aloadn hG dL_law_433 rfl ?_
  refine pm_aloadn hG dL_law_434 rfl ?_
  refine pm_iloadn hG dL_law_435 rfl ?_
  refine pm_iconst (v := nI 1) hG dL_law_436 (by decide) ?_
  refine pm_iaddN (c := i + 1) hG dL_law_437 (by omega) ?_
  refine pm_sldN hG hs dL_law_438 (by omega) hL ?_
  refine pm_aloadn hG dL_law_439 rfl ?_
  refine pm_iloadn hG dL_law_440 rfl ?_
  refine pm_iconst (v := nI 2) hG dL_law_441 (by decide) ?_
  refine pm_iaddN (c := i + 2) hG dL_law_442 (by omega) ?_
  refine pm_sldN hG hs dL_law_443 (by omega) hL ?_
  obtain ⟨v, S1, T1, e1, e2, hr1, hx1, kx⟩ := (op_go (za := xs (i + 1)) (zb := xs (i + 2)) h).x hx
  refine pm_callV (As := [.int (xs (i + 1)), .int (xs (i + 2))]) (rest := []) hG hR dL_law_444 (lkL_38 _ rfl) okV_X11_go rfl rfl (c_X11_go (d := 1999) (by decide) e1) rfl rfl (by decide) (by omega) (by omega) (by decide) (pm_ki (fun v1 σ1 cnt1 hq => ?_))
  obtain ⟨rfl, rfl, rfl⟩ := hq
  have lm1 : pm_lies (cst B kp S1 σ) 54 (md_F B T.1 T.2) := lm.same (fun j h1 _ => pm_two_hi h1)
  refine pm_weak (pm_sub_mid lm1) ?_
  refine pm_pop hG dL_law_447 rfl ?_
  refine pm_aloadn hG dL_law_448 rfl ?_
  refine pm_aloadn hG dL_law_449 rfl ?_
  refine pm_iloadn hG dL_law_450 rfl ?_
  refine pm_iconst (v := nI 1) hG dL_law_451 (by decide) ?_
  refine pm_iaddN (c := i + 1) hG dL_law_452 (by omega) ?_
  refine pm_sldN hG hs dL_law_453 (by omega) hL ?_
  refine pm_aloadn hG dL_law_454 rfl ?_
  refine pm_iloadn hG dL_law_455 rfl ?_
  refine pm_iconst (v := nI 2) hG dL_law_456 (by decide) ?_
  refine pm_iaddN (c := i + 2) hG dL_law_457 (by omega) ?_
  refine pm_sldN hG hs dL_law_458 (by omega) hL ?_
  refine pm_callV (As := [.int (xs (i + 1)), .int (xs (i + 2))]) (rest := []) hG hR dL_law_459 (lkL_41 _ rfl) okV_X12_go rfl rfl (c_X12_go (d := 1999) (by decide) e2) rfl rfl (by decide) (by omega) (by omega) (by decide) (pm_ki (fun v2 σ2 cnt2 hq => ?_))
  obtain ⟨rfl, rfl, rfl⟩ := hq
  refine pm_pop hG dL_law_462 rfl ?_
  refine pm_goto (tgt := 2105) hG dL_law_463 rfl ?_
  exact hT _ _ _ _ (LI.nx h74 hk hr1 hx1 kx) (by omega) (by omega)

set_option maxRecDepth 100000 in
set_option maxHeartbeats 4000000 in
theorem law_about {nm : String} {G : pm_G} {B b cs zs cnt L i w : Nat} {σ : pm_S} {xs : Nat → Int32} (hG : pm_ok (mL_law nm) G B) (hR : pm_rm G 2000 600000 7302250) (hs : pm_scr G B b L xs) (hi : i + 6 ≤ L) (hL : L ≤ 3072) (hc : cs ≤ 590000) (hz : zs ≤ 7200000) (hw : w ≤ 1000) (hl : LI B σ cnt w) (hT : ∀ (σ' : pm_S) (cnt' cs' zs' : Nat), LI B σ' cnt' (w + 1) → cs' ≤ cs + 27 → zs' ≤ zs + 2170 → pm_wp (mL_law nm) G B 2105 [some (.ref b), some (.ref (B + 0)), some (.ref (B + 54)), some (.int (nI i))] [] cs' zs' cnt' σ') : pm_wp (mL_law nm) G B 466 [some (.ref b), some (.ref (B + 0)), some (.ref (B + 54)), some (.int (nI i))] [] cs zs cnt σ := by
  obtain ⟨h74, kp, S, T, lc, lm, ⟨K, h⟩, hx, hk⟩ := hl
  refine pm_weak (pm_sub_two lc) ?_
  refine pm_aloadn hG dL_law_466 rfl ?_
  refine pm_aloadn hG dL_law_467 rfl ?_
  refine pm_iloadn hG dL_law_468 rfl ?_
  refine pm_iconst (v := nI 1) hG dL_law_469 (by decide) ?_
  refine pm_iaddN (c := i + 1) hG dL_law_470 (by omega) ?_
  refine pm_sldN hG hs dL_law_471 (by omega) hL ?_
  refine pm_aloadn hG dL_law_472 rfl ?_
  refine pm_iloadn hG dL_law_473 rfl ?_
  refine pm_iconst (v := nI 2) hG dL_law_474 (by decide) ?_
  refine pm_iaddN (c := i + 2) hG dL_law_475 (by omega) ?_
  refine pm_sldN hG hs dL_law_476 (by omega) hL ?_
  obtain ⟨v, u, S1, T1, e1, e2, hr1, hx1, kx⟩ := (op_about (za := xs (i + 1)) (zb := xs (i + 2)) h).x hx
  refine pm_callV (As := [.int (xs (i + 1)), .int (xs (i + 2))]) (rest := []) hG hR dL_law_477 (lkL_42 _ rfl) okV_X11_about rfl rfl (c_X11_about (d := 1999) (by decide) e1) rfl rfl (by decide) (by omega) (by omega) (by decide) (pm_ki (fun v1 σ1 cnt1 hq => ?_))
  obtain ⟨rfl, rfl, rfl⟩ := hq
  have lm1 : pm_lies (cst B kp S1 σ) 54 (md_F B T.1 T.2) := lm.same (fun j h1 _ => pm_two_hi h1)
  refine pm_weak (pm_sub_mid lm1) ?_
  refine pm_pop hG dL_law_480 rfl ?_
  refine pm_aloadn hG dL_law_481 rfl ?_
  refine pm_aloadn hG dL_law_482 rfl ?_
  refine pm_iloadn hG dL_law_483 rfl ?_
  refine pm_iconst (v := nI 1) hG dL_law_484 (by decide) ?_
  refine pm_iaddN (c := i + 1) hG dL_law_485 (by omega) ?_
  refine pm_sldN hG hs dL_law_486 (by omega) hL ?_
  refine pm_aloadn hG dL_law_487 rfl ?_
  refine pm_iloadn hG dL_law_488 rfl ?_
  refine pm_iconst (v := nI 2) hG dL_law_489 (by decide) ?_
  refine pm_iaddN (c := i + 2) hG dL_law_490 (by omega) ?_
  refine pm_sldN hG hs dL_law_491 (by omega) hL ?_
  refine pm_callV (As := [.int (xs (i + 1)), .int (xs (i + 2))]) (rest := []) hG hR dL_law_492 (lkL_45 _ rfl) okV_X12_about rfl rfl (c_X12_about (d := 1999) (by decide) e2) rfl rfl (by decide) (by omega) (by omega) (by decide) (pm_ki (fun v2 σ2 cnt2 hq => ?_))
  obtain ⟨rfl, rfl, rfl⟩ := hq
  refine pm_pop hG dL_law_495 rfl ?_
  refine pm_goto (tgt := 2105) hG dL_law_496 rfl ?_
  exact hT _ _ _ _ (LI.nx h74 hk hr1 hx1 kx) (by omega) (by omega)

set_option maxRecDepth 100000 in
set_option maxHeartbeats 4000000 in
theorem law_pay {nm : String} {G : pm_G} {B b cs zs cnt L i w : Nat} {σ : pm_S} {xs : Nat → Int32} (hG : pm_ok (mL_law nm) G B) (hR : pm_rm G 2000 600000 7302250) (hs : pm_scr G B b L xs) (hi : i + 6 ≤ L) (hL : L ≤ 3072) (hc : cs ≤ 590000) (hz : zs ≤ 7200000) (hw : w ≤ 1000) (hl : LI B σ cnt w) (hT : ∀ (σ' : pm_S) (cnt' cs' zs' : Nat), LI B σ' cnt' (w + 1) → cs' ≤ cs + 27 → zs' ≤ zs + 2170 → pm_wp (mL_law nm) G B 2105 [some (.ref b), some (.ref (B + 0)), some (.ref (B + 54)), some (.int (nI i))] [] cs' zs' cnt' σ') : pm_wp (mL_law nm) G B 499 [some (.ref b), some (.ref (B + 0)), some (.ref (B + 54)), some (.int (nI i))] [] cs zs cnt σ := by
  obtain ⟨h74, kp, S, T, lc, lm, ⟨K, h⟩, hx, hk⟩ := hl
  refine pm_weak (pm_sub_two lc) ?_
  refine pm_aloadn hG dL_law_499 rfl ?_
  refine pm_aloadn hG dL_law_500 rfl ?_
  refine pm_iloadn hG dL_law_501 rfl ?_
  refine pm_iconst (v := nI 1) hG dL_law_502 (by decide) ?_
  refine pm_iaddN (c := i + 1) hG dL_law_503 (by omega) ?_
  refine pm_sldN hG hs dL_law_504 (by omega) hL ?_
  refine pm_aloadn hG dL_law_505 rfl ?_
  refine pm_iloadn hG dL_law_506 rfl ?_
  refine pm_iconst (v := nI 2) hG dL_law_507 (by decide) ?_
  refine pm_iaddN (c := i + 2) hG dL_law_508 (by omega) ?_
  refine pm_sldN hG hs dL_law_509 (by omega) hL ?_
  obtain ⟨v, S1, T1, e1, e2, hr1, hx1, kx⟩ := (op_pay (za := xs (i + 1)) (zb := xs (i + 2)) h).x hx
  refine pm_callV (As := [.int (xs (i + 1)), .int (xs (i + 2))]) (rest := []) hG hR dL_law_510 (lkL_46 _ rfl) okV_X11_pay rfl rfl (c_X11_pay (d := 1999) (by decide) e1) rfl rfl (by decide) (by omega) (by omega) (by decide) (pm_ki (fun v1 σ1 cnt1 hq => ?_))
  obtain ⟨rfl, rfl, rfl⟩ := hq
  have lm1 : pm_lies (cst B kp S1 σ) 54 (md_F B T.1 T.2) := lm.same (fun j h1 _ => pm_two_hi h1)
  refine pm_weak (pm_sub_mid lm1) ?_
  refine pm_pop hG dL_law_513 rfl ?_
  refine pm_aloadn hG dL_law_514 rfl ?_
  refine pm_aloadn hG dL_law_515 rfl ?_
  refine pm_iloadn hG dL_law_516 rfl ?_
  refine pm_iconst (v := nI 1) hG dL_law_517 (by decide) ?_
  refine pm_iaddN (c := i + 1) hG dL_law_518 (by omega) ?_
  refine pm_sldN hG hs dL_law_519 (by omega) hL ?_
  refine pm_aloadn hG dL_law_520 rfl ?_
  refine pm_iloadn hG dL_law_521 rfl ?_
  refine pm_iconst (v := nI 2) hG dL_law_522 (by decide) ?_
  refine pm_iaddN (c := i + 2) hG dL_law_523 (by omega) ?_
  refine pm_sldN hG hs dL_law_524 (by omega) hL ?_
  refine pm_callV (As := [.int (xs (i + 1)), .int (xs (i + 2))]) (rest := []) hG hR dL_law_525 (lkL_49 _ rfl) okV_X12_pay rfl rfl (c_X12_pay (d := 1999) (by decide) e2) rfl rfl (by decide) (by omega) (by omega) (by decide) (pm_ki (fun v2 σ2 cnt2 hq => ?_))
  obtain ⟨rfl, rfl, rfl⟩ := hq
  refine pm_pop hG dL_law_528 rfl ?_
  refine pm_goto (tgt := 2105) hG dL_law_529 rfl ?_
  exact hT _ _ _ _ (LI.nx h74 hk hr1 hx1 kx) (by omega) (by omega)

set_option maxRecDepth 100000 in
set_option maxHeartbeats 4000000 in
theorem law_men {nm : String} {G : pm_G} {B b cs zs cnt L i w : Nat} {σ : pm_S} {xs : Nat → Int32} (hG : pm_ok (mL_law nm) G B) (hR : pm_rm G 2000 600000 7302250) (hs : pm_scr G B b L xs) (hi : i + 6 ≤ L) (hL : L ≤ 3072) (hc : cs ≤ 590000) (hz : zs ≤ 7200000) (hw : w ≤ 1000) (hl : LI B σ cnt w) (hT : ∀ (σ' : pm_S) (cnt' cs' zs' : Nat), LI B σ' cnt' (w + 1) → cs' ≤ cs + 27 → zs' ≤ zs + 2170 → pm_wp (mL_law nm) G B 2105 [some (.ref b), some (.ref (B + 0)), some (.ref (B + 54)), some (.int (nI i))] [] cs' zs' cnt' σ') : pm_wp (mL_law nm) G B 532 [some (.ref b), some (.ref (B + 0)), some (.ref (B + 54)), some (.int (nI i))] [] cs zs cnt σ := by
  obtain ⟨h74, kp, S, T, lc, lm, ⟨K, h⟩, hx, hk⟩ := hl
  refine pm_weak (pm_sub_two lc) ?_
  refine pm_aloadn hG dL_law_532 rfl ?_
  refine pm_aloadn hG dL_law_533 rfl ?_
  refine pm_iloadn hG dL_law_534 rfl ?_
  refine pm_iconst (v := nI 1) hG dL_law_535 (by decide) ?_
  refine pm_iaddN (c := i + 1) hG dL_law_536 (by omega) ?_
  refine pm_sldN hG hs dL_law_537 (by omega) hL ?_
  refine pm_aloadn hG dL_law_538 rfl ?_
  refine pm_iloadn hG dL_law_539 rfl ?_
  refine pm_iconst (v := nI 2) hG dL_law_540 (by decide) ?_
  refine pm_iaddN (c := i + 2) hG dL_law_541 (by omega) ?_
  refine pm_sldN hG hs dL_law_542 (by omega) hL ?_
  obtain ⟨v, S1, T1, e1, e2, hr1, hx1, kx⟩ := (op_men (za := xs (i + 1)) (zb := xs (i + 2)) h).x hx
  refine pm_callV (As := [.int (xs (i + 1)), .int (xs (i + 2))]) (rest := []) hG hR dL_law_543 (lkL_50 _ rfl) okV_X11_men rfl rfl (c_X11_men (d := 1999) (by decide) e1) rfl rfl (by decide) (by omega) (by omega) (by decide) (pm_ki (fun v1 σ1 cnt1 hq => ?_))
  obtain ⟨rfl, rfl, rfl⟩ := hq
  have lm1 : pm_lies (cst B kp S1 σ) 54 (md_F B T.1 T.2) := lm.same (fun j h1 _ => pm_two_hi h1)
  refine pm_weak (pm_sub_mid lm1) ?_
  refine pm_pop hG dL_law_546 rfl ?_
  refine pm_aloadn hG dL_law_547 rfl ?_
  refine pm_aloadn hG dL_law_548 rfl ?_
  refine pm_iloadn hG dL_law_549 rfl ?_
  refine pm_iconst (v := nI 1) hG dL_law_550 (by decide) ?_
  refine pm_iaddN (c := i + 1) hG dL_law_551 (by omega) ?_
  refine pm_sldN hG hs dL_law_552 (by omega) hL ?_
  refine pm_aloadn hG dL_law_553 rfl ?_
  refine pm_iloadn hG dL_law_554 rfl ?_
  refine pm_iconst (v := nI 2) hG dL_law_555 (by decide) ?_
  refine pm_iaddN (c := i + 2) hG dL_law_556 (by omega) ?_
  refine pm_sldN hG hs dL_law_557 (by omega) hL ?_
  refine pm_callV (As := [.int (xs (i + 1)), .int (xs (i + 2))]) (rest := []) hG hR dL_law_558 (lkL_53 _ rfl) okV_X12_men rfl rfl (c_X12_men (d := 1999) (by decide) e2) rfl rfl (by decide) (by omega) (by omega) (by decide) (pm_ki (fun v2 σ2 cnt2 hq => ?_))
  obtain ⟨rfl, rfl, rfl⟩ := hq
  refine pm_pop hG dL_law_561 rfl ?_
  refine pm_goto (tgt := 2105) hG dL_law_562 rfl ?_
  exact hT _ _ _ _ (LI.nx h74 hk hr1 hx1 kx) (by omega) (by omega)

set_option maxRecDepth 100000 in
set_option maxHeartbeats 4000000 in
theorem law_power {nm : String} {G : pm_G} {B b cs zs cnt L i w : Nat} {σ : pm_S} {xs : Nat → Int32} (hG : pm_ok (mL_law nm) G B) (hR : pm_rm G 2000 600000 7302250) (hs : pm_scr G B b L xs) (hi : i + 6 ≤ L) (hL : L ≤ 3072) (hc : cs ≤ 590000) (hz : zs ≤ 7200000) (hw : w ≤ 1000) (hl : LI B σ cnt w) (hT : ∀ (σ' : pm_S) (cnt' cs' zs' : Nat), LI B σ' cnt' (w + 1) → cs' ≤ cs + 27 → zs' ≤ zs + 2170 → pm_wp (mL_law nm) G B 2105 [some (.ref b), some (.ref (B + 0)), some (.ref (B + 54)), some (.int (nI i))] [] cs' zs' cnt' σ') : pm_wp (mL_law nm) G B 565 [some (.ref b), some (.ref (B + 0)), some (.ref (B + 54)), some (.int (nI i))] [] cs zs cnt σ := by
  obtain ⟨h74, kp, S, T, lc, lm, ⟨K, h⟩, hx, hk⟩ := hl
  refine pm_weak (pm_sub_two lc) ?_
  refine pm_aloadn hG dL_law_565 rfl ?_
  refine pm_aloadn hG dL_law_566 rfl ?_
  refine pm_iloadn hG dL_law_567 rfl ?_
  refine pm_iconst (v := nI 1) hG dL_law_568 (by decide) ?_
  refine pm_iaddN (c := i + 1) hG dL_law_569 (by omega) ?_
  refine pm_sldN hG hs dL_law_570 (by omega) hL ?_
  refine pm_aloadn hG dL_law_571 rfl ?_
  refine pm_iloadn hG dL_law_572 rfl ?_
  refine pm_iconst (v := nI 2) hG dL_law_573 (by decide) ?_
  refine pm_iaddN (c := i + 2) hG dL_law_574 (by omega) ?_
  refine pm_sldN hG hs dL_law_575 (by omega) hL ?_
  refine pm_aloadn hG dL_law_576 rfl ?_
  refine pm_iloadn hG dL_law_577 rfl ?_
  refine pm_iconst (v := nI 3) hG dL_law_578 (by decide) ?_
  refine pm_iaddN (c := i + 3) hG dL_law_579 (by omega) ?_
  refine pm_sldN hG hs dL_law_580 (by omega) hL ?_
  obtain ⟨v, S1, T1, e1, e2, hr1, hx1, kx⟩ := (op_power (za := xs (i + 1)) (zb := xs (i + 2)) (zc := xs (i + 3)) h).x hx
  refine pm_callV (As := [.int (xs (i + 1)), .int (xs (i + 2)), .int (xs (i + 3))]) (rest := []) hG hR dL_law_581 (lkL_54 _ rfl) okV_X11_power rfl rfl (c_X11_power (d := 1999) (by decide) e1) rfl rfl (by decide) (by omega) (by omega) (by decide) (pm_ki (fun v1 σ1 cnt1 hq => ?_))
  obtain ⟨rfl, rfl, rfl⟩ := hq
  have lm1 : pm_lies (cst B kp S1 σ) 54 (md_F B T.1 T.2) := lm.same (fun j h1 _ => pm_two_hi h1)
  refine pm_weak (pm_sub_mid lm1) ?_
  refine pm_pop hG dL_law_584 rfl ?_
  refine pm_aloadn hG dL_law_585 rfl ?_
  refine pm_aloadn hG dL_law_586 rfl ?_
  refine pm_iloadn hG dL_law_587 rfl ?_
  refine pm_iconst (v := nI 1) hG dL_law_588 (by decide) ?_
  refine pm_iaddN (c := i + 1) hG dL_law_589 (by omega) ?_
  refine pm_sldN hG hs dL_law_590 (by omega) hL ?_
  refine pm_aloadn hG dL_law_591 rfl ?_
  refine pm_iloadn hG dL_law_592 rfl ?_
  refine pm_iconst (v := nI 2) hG dL_law_593 (by decide) ?_
  refine pm_iaddN (c := i + 2) hG dL_law_594 (by omega) ?_
  refine pm_sldN hG hs dL_law_595 (by omega) hL ?_
  refine pm_aloadn hG dL_law_596 rfl ?_
  refine pm_iloadn hG dL_law_597 rfl ?_
  refine pm_iconst (v := nI 3) hG dL_law_598 (by decide) ?_
  refine pm_iaddN (c := i + 3) hG dL_law_599 (by omega) ?_
  refine pm_sldN hG hs dL_law_600 (by omega) hL ?_
  refine pm_callV (As := [.int (xs (i + 1)), .int (xs (i + 2)), .int (xs (i + 3))]) (rest := []) hG hR dL_law_601 (lkL_57 _ rfl) okV_X12_power rfl rfl (c_X12_power (d := 1999) (by decide) e2) rfl rfl (by decide) (by omega) (by omega) (by decide) (pm_ki (fun v2 σ2 cnt2 hq => ?_))
  obtain ⟨rfl, rfl, rfl⟩ := hq
  refine pm_pop hG dL_law_604 rfl ?_
  refine pm_goto (tgt := 2105) hG dL_law_605 rfl ?_
  exact hT _ _ _ _ (LI.nx h74 hk hr1 hx1 kx) (by omega) (by omega)

set_option maxRecDepth 100000 in
set_option maxHeartbeats 4000000 in
theorem law_as {nm : String} {G : pm_G} {B b cs zs cnt L i w : Nat} {σ : pm_S} {xs : Nat → Int32} (hG : pm_ok (mL_law nm) G B) (hR : pm_rm G 2000 600000 7302250) (hs : pm_scr G B b L xs) (hi : i + 6 ≤ L) (hL : L ≤ 3072) (hc : cs ≤ 590000) (hz : zs ≤ 7200000) (hw : w ≤ 1000) (hl : LI B σ cnt w) (hT : ∀ (σ' : pm_S) (cnt' cs' zs' : Nat), LI B σ' cnt' (w + 1) → cs' ≤ cs + 27 → zs' ≤ zs + 2170 → pm_wp (mL_law nm) G B 2105 [some (.ref b), some (.ref (B + 0)), some (.ref (B + 54)), some (.int (nI i))] [] cs' zs' cnt' σ') : pm_wp (mL_law nm) G B 608 [some (.ref b), some (.ref (B + 0)), some (.ref (B + 54)), some (.int (nI i))] [] cs zs cnt σ := by
  obtain ⟨h74, kp, S, T, lc, lm, ⟨K, h⟩, hx, hk⟩ := hl
  refine pm_weak (pm_sub_two lc) ?_
  refine pm_aloadn hG dL_law_608 rfl ?_
  refine pm_aloadn hG dL_law_609 rfl ?_
  refine pm_iloadn hG dL_law_610 rfl ?_
  refine pm_iconst (v := nI 1) hG dL_law_611 (by decide) ?_
  refine pm_iaddN (c := i + 1) hG dL_law_612 (by omega) ?_
  refine pm_sldN hG hs dL_law_613 (by omega) hL ?_
  refine pm_aloadn hG dL_law_614 rfl ?_
  refine pm_iloadn hG dL_law_615 rfl ?_
  refine pm_iconst (v := nI 2) hG dL_law_616 (by decide) ?_
  refine pm_iaddN (c := i + 2) hG dL_law_617 (by omega) ?_
  refine pm_sldN hG hs dL_law_618 (by omega) hL ?_
  obtain ⟨v, S1, T1, e1, e2, hr1, hx1, kx⟩ := (op_as (za := xs (i + 1)) (zb := xs (i + 2)) h).x hx
  refine pm_callV (As := [.int (xs (i + 1)), .int (xs (i + 2))]) (rest := []) hG hR dL_law_619 (lkL_58 _ rfl) okV_X11_as rfl rfl (c_X11_as (d := 1999) (by decide) e1) rfl rfl (by decide) (by omega) (by omega) (by decide) (pm_ki (fun v1 σ1 cnt1 hq => ?_))
  obtain ⟨rfl, rfl, rfl⟩ := hq
  have lm1 : pm_lies (cst B kp S1 σ) 54 (md_F B T.1 T.2) := lm.same (fun j h1 _ => pm_two_hi h1)
  refine pm_weak (pm_sub_mid lm1) ?_
  refine pm_pop hG dL_law_622 rfl ?_
  refine pm_aloadn hG dL_law_623 rfl ?_
  refine pm_aloadn hG dL_law_624 rfl ?_
  refine pm_iloadn hG dL_law_625 rfl ?_
  refine pm_iconst (v := nI 1) hG dL_law_626 (by decide) ?_
  refine pm_iaddN (c := i + 1) hG dL_law_627 (by omega) ?_
  refine pm_sldN hG hs dL_law_628 (by omega) hL ?_
  refine pm_aloadn hG dL_law_629 rfl ?_
  refine pm_iloadn hG dL_law_630 rfl ?_
  refine pm_iconst (v := nI 2) hG dL_law_631 (by decide) ?_
  refine pm_iaddN (c := i + 2) hG dL_law_632 (by omega) ?_
  refine pm_sldN hG hs dL_law_633 (by omega) hL ?_
  refine pm_callV (As := [.int (xs (i + 1)), .int (xs (i + 2))]) (rest := []) hG hR dL_law_634 (lkL_61 _ rfl) okV_X12_as rfl rfl (c_X12_as (d := 1999) (by decide) e2) rfl rfl (by decide) (by omega) (by omega) (by decide) (pm_ki (fun v2 σ2 cnt2 hq => ?_))
  obtain ⟨rfl, rfl, rfl⟩ := hq
  refine pm_pop hG dL_law_637 rfl ?_
  refine pm_goto (tgt := 2105) hG dL_law_638 rfl ?_
  exact hT _ _ _ _ (LI.nx h74 hk hr1 hx1 kx) (by omega) (by omega)

set_option maxRecDepth 100000 in
set_option maxHeartbeats 4000000 in
theorem law_held {nm : String} {G : pm_G} {B b cs zs cnt L i w : Nat} {σ : pm_S} {xs : Nat → Int32} (hG : pm_ok (mL_law nm) G B) (hR : pm_rm G 2000 600000 7302250) (hs : pm_scr G B b L xs) (hi : i + 6 ≤ L) (hL : L ≤ 3072) (hc : cs ≤ 590000) (hz : zs ≤ 7200000) (hw : w ≤ 1000) (hl : LI B σ cnt w) (hT : ∀ (σ' : pm_S) (cnt' cs' zs' : Nat), LI B σ' cnt' (w + 1) → cs' ≤ cs + 27 → zs' ≤ zs + 2170 → pm_wp (mL_law nm) G B 2105 [some (.ref b), some (.ref (B + 0)), some (.ref (B + 54)), some (.int (nI i))] [] cs' zs' cnt' σ') : pm_wp (mL_law nm) G B 641 [some (.ref b), some (.ref (B + 0)), some (.ref (B + 54)), some (.int (nI i))] [] cs zs cnt σ := by
  obtain ⟨h74, kp, S, T, lc, lm, ⟨K, h⟩, hx, hk⟩ := hl
  refine pm_weak (pm_sub_two lc) ?_
  refine pm_aloadn hG dL_law_641 rfl ?_
  refine pm_aloadn hG dL_law_642 rfl ?_
  refine pm_iloadn hG dL_law_643 rfl ?_
  refine pm_iconst (v := nI 1) hG dL_law_644 (by decide) ?_
  refine pm_iaddN (c := i + 1) hG dL_law_645 (by omega) ?_
  refine pm_sldN hG hs dL_law_646 (by omega) hL ?_
  refine pm_aloadn hG dL_law_647 rfl ?_
  refine pm_iloadn hG dL_law_648 rfl ?_
  refine pm_iconst (v := nI 2) hG dL_law_649 (by decide) ?_
  refine pm_iaddN (c := i + 2) hG dL_law_650 (by omega) ?_
  refine pm_sldN hG hs dL_law_651 (by omega) hL ?_
  obtain ⟨v, S1, T1, e1, e2, hr1, hx1, kx⟩ := (op_held (za := xs (i + 1)) (zb := xs (i + 2)) h).x hx
  refine pm_callV (As := [.int (xs (i + 1)), .int (xs (i + 2))]) (rest := []) hG hR dL_law_652 (lkL_62 _ rfl) okV_X11_held rfl rfl (c_X11_held (d := 1999) (by decide) e1) rfl rfl (by decide) (by omega) (by omega) (by decide) (pm_ki (fun v1 σ1 cnt1 hq => ?_))
  obtain ⟨rfl, rfl, rfl⟩ := hq
  have lm1 : pm_lies (cst B kp S1 σ) 54 (md_F B T.1 T.2) := lm.same (fun j h1 _ => pm_two_hi h1)
  refine pm_weak (pm_sub_mid lm1) ?_
  refine pm_pop hG dL_law_655 rfl ?_
  refine pm_aloadn hG dL_law_656 rfl ?_
  refine pm_aloadn hG dL_law_657 rfl ?_
  refine pm_iloadn hG dL_law_658 rfl ?_
  refine pm_iconst (v := nI 1) hG dL_law_659 (by decide) ?_
  refine pm_iaddN (c := i + 1) hG dL_law_660 (by omega) ?_
  refine pm_sldN hG hs dL_law_661 (by omega) hL ?_
  refine pm_aloadn hG dL_law_662 rfl ?_
  refine pm_iloadn hG dL_law_663 rfl ?_
  refine pm_iconst (v := nI 2) hG dL_law_664 (by decide) ?_
  refine pm_iaddN (c := i + 2) hG dL_law_665 (by omega) ?_
  refine pm_sldN hG hs dL_law_666 (by omega) hL ?_
  refine pm_callV (As := [.int (xs (i + 1)), .int (xs (i + 2))]) (rest := []) hG hR dL_law_667 (lkL_65 _ rfl) okV_X12_held rfl rfl (c_X12_held (d := 1999) (by decide) e2) rfl rfl (by decide) (by omega) (by omega) (by decide) (pm_ki (fun v2 σ2 cnt2 hq => ?_))
  obtain ⟨rfl, rfl, rfl⟩ := hq
  refine pm_pop hG dL_law_670 rfl ?_
  refine pm_goto (tgt := 2105) hG dL_law_671 rfl ?_
  exact hT _ _ _ _ (LI.nx h74 hk hr1 hx1 kx) (by omega) (by omega)

set_option maxRecDepth 100000 in
set_option maxHeartbeats 4000000 in
theorem law_give {nm : String} {G : pm_G} {B b cs zs cnt L i w : Nat} {σ : pm_S} {xs : Nat → Int32} (hG : pm_ok (mL_law nm) G B) (hR : pm_rm G 2000 600000 7302250) (hs : pm_scr G B b L xs) (hi : i + 6 ≤ L) (hL : L ≤ 3072) (hc : cs ≤ 590000) (hz : zs ≤ 7200000) (hw : w ≤ 1000) (hl : LI B σ cnt w) (hT : ∀ (σ' : pm_S) (cnt' cs' zs' : Nat), LI B σ' cnt' (w + 1) → cs' ≤ cs + 27 → zs' ≤ zs + 2170 → pm_wp (mL_law nm) G B 2105 [some (.ref b), some (.ref (B + 0)), some (.ref (B + 54)), some (.int (nI i))] [] cs' zs' cnt' σ') : pm_wp (mL_law nm) G B 674 [some (.ref b), some (.ref (B + 0)), some (.ref (B + 54)), some (.int (nI i))] [] cs zs cnt σ := by
  obtain ⟨h74, kp, S, T, lc, lm, ⟨K, h⟩, hx, hk⟩ := hl
  refine pm_weak (pm_sub_two lc) ?_
  refine pm_aloadn hG dL_law_674 rfl ?_
  refine pm_aloadn hG dL_law_675 rfl ?_
  refine pm_iloadn hG dL_law_676 rfl ?_
  refine pm_iconst (v := nI 1) hG dL_law_677 (by decide) ?_
  refine pm_iaddN (c := i + 1) hG dL_law_678 (by omega) ?_
  refine pm_sldN hG hs dL_law_679 (by omega) hL ?_
  refine pm_aloadn hG dL_law_680 rfl ?_
  refine pm_iloadn hG dL_law_681 rfl ?_
  refine pm_iconst (v := nI 2) hG dL_law_682 (by decide) ?_
  refine pm_iaddN (c := i + 2) hG dL_law_683 (by omega) ?_
  refine pm_sldN hG hs dL_law_684 (by omega) hL ?_
  obtain ⟨v, S1, T1, e1, e2, hr1, hx1, kx⟩ := (op_give (za := xs (i + 1)) (zb := xs (i + 2)) h).x hx
  refine pm_callV (As := [.int (xs (i + 1)), .int (xs (i + 2))]) (rest := []) hG hR dL_law_685 (lkL_66 _ rfl) okV_X11_give rfl rfl (c_X11_give (d := 1999) (by decide) e1) rfl rfl (by decide) (by omega) (by omega) (by decide) (pm_ki (fun v1 σ1 cnt1 hq => ?_))
  obtain ⟨rfl, rfl, rfl⟩ := hq
  have lm1 : pm_lies (cst B kp S1 σ) 54 (md_F B T.1 T.2) := lm.same (fun j h1 _ => pm_two_hi h1)
  refine pm_weak (pm_sub_mid lm1) ?_
  refine pm_pop hG dL_law_688 rfl ?_
  refine pm_aloadn hG dL_law_689 rfl ?_
  refine pm_aloadn hG dL_law_690 rfl ?_
  refine pm_iloadn hG dL_law_691 rfl ?_
  refine pm_iconst (v := nI 1) hG dL_law_692 (by decide) ?_
  refine pm_iaddN (c := i + 1) hG dL_law_693 (by omega) ?_
  refine pm_sldN hG hs dL_law_694 (by omega) hL ?_
  refine pm_aloadn hG dL_law_695 rfl ?_
  refine pm_iloadn hG dL_law_696 rfl ?_
  refine pm_iconst (v := nI 2) hG dL_law_697 (by decide) ?_
  refine pm_iaddN (c := i + 2) hG dL_law_698 (by omega) ?_
  refine pm_sldN hG hs dL_law_699 (by omega) hL ?_
  refine pm_callV (As := [.int (xs (i + 1)), .int (xs (i + 2))]) (rest := []) hG hR dL_law_700 (lkL_69 _ rfl) okV_X12_give rfl rfl (c_X12_give (d := 1999) (by decide) e2) rfl rfl (by decide) (by omega) (by omega) (by decide) (pm_ki (fun v2 σ2 cnt2 hq => ?_))
  obtain ⟨rfl, rfl, rfl⟩ := hq
  refine pm_pop hG dL_law_703 rfl ?_
  refine pm_goto (tgt := 2105) hG dL_law_704 rfl ?_
  exact hT _ _ _ _ (LI.nx h74 hk hr1 hx1 kx) (by omega) (by omega)

set_option maxRecDepth 100000 in
set_option maxHeartbeats 4000000 in
theorem law_lend {nm : String} {G : pm_G} {B b cs zs cnt L i w : Nat} {σ : pm_S} {xs : Nat → Int32} (hG : pm_ok (mL_law nm) G B) (hR : pm_rm G 2000 600000 7302250) (hs : pm_scr G B b L xs) (hi : i + 6 ≤ L) (hL : L ≤ 3072) (hc : cs ≤ 590000) (hz : zs ≤ 7200000) (hw : w ≤ 1000) (hl : LI B σ cnt w) (hT : ∀ (σ' : pm_S) (cnt' cs' zs' : Nat), LI B σ' cnt' (w + 1) → cs' ≤ cs + 27 → zs' ≤ zs + 2170 → pm_wp (mL_law nm) G B 2105 [some (.ref b), some (.ref (B + 0)), some (.ref (B + 54)), some (.int (nI i))] [] cs' zs' cnt' σ') : pm_wp (mL_law nm) G B 707 [some (.ref b), some (.ref (B + 0)), some (.ref (B + 54)), some (.int (nI i))] [] cs zs cnt σ := by
  obtain ⟨h74, kp, S, T, lc, lm, ⟨K, h⟩, hx, hk⟩ := hl
  refine pm_weak (pm_sub_two lc) ?_
  refine pm_aloadn hG dL_law_707 rfl ?_
  refine pm_aloadn hG dL_law_708 rfl ?_
  refine pm_iloadn hG dL_law_709 rfl ?_
  refine pm_iconst (v := nI 1) hG dL_law_710 (by decide) ?_
  refine pm_iaddN (c := i + 1) hG dL_law_711 (by omega) ?_
  refine pm_sldN hG hs dL_law_712 (by omega) hL ?_
  refine pm_aloadn hG dL_law_713 rfl ?_
  refine pm_iloadn hG dL_law_714 rfl ?_
  refine pm_iconst (v := nI 2) hG dL_law_715 (by decide) ?_
  refine pm_iaddN (c := i + 2) hG dL_law_716 (by omega) ?_
  refine pm_sldN hG hs dL_law_717 (by omega) hL ?_
  refine pm_aloadn hG dL_law_718 rfl ?_
  refine pm_iloadn hG dL_law_719 rfl ?_
  refine pm_iconst (v := nI 3) hG dL_law_720 (by decide) ?_
  refine pm_iaddN (c := i + 3) hG dL_law_721 (by omega) ?_
  refine pm_sldN hG hs dL_law_722 (by omega) hL ?_
  obtain ⟨v, S1, T1, e1, e2, hr1, hx1, kx⟩ := (op_lend (za := xs (i + 1)) (zb := xs (i + 2)) (zc := xs (i + 3)) h).x hx
  refine pm_callV (As := [.int (xs (i + 1)), .int (xs (i + 2)), .int (xs (i + 3))]) (rest := []) hG hR dL_law_723 (lkL_70 _ rfl) okV_X11_lend rfl rfl (c_X11_lend (d := 1999) (by decide) e1) rfl rfl (by decide) (by omega) (by omega) (by decide) (pm_ki (fun v1 σ1 cnt1 hq => ?_))
  obtain ⟨rfl, rfl, rfl⟩ := hq
  have lm1 : pm_lies (cst B kp S1 σ) 54 (md_F B T.1 T.2) := lm.same (fun j h1 _ => pm_two_hi h1)
  refine pm_weak (pm_sub_mid lm1) ?_
  refine pm_pop hG dL_law_726 rfl ?_
  refine pm_aloadn hG dL_law_727 rfl ?_
  refine pm_aloadn hG dL_law_728 rfl ?_
  refine pm_iloadn hG dL_law_729 rfl ?_
  refine pm_iconst (v := nI 1) hG dL_law_730 (by decide) ?_
  refine pm_iaddN (c := i + 1) hG dL_law_731 (by omega) ?_
  refine pm_sldN hG hs dL_law_732 (by omega) hL ?_
  refine pm_aloadn hG dL_law_733 rfl ?_
  refine pm_iloadn hG dL_law_734 rfl ?_
  refine pm_iconst (v := nI 2) hG dL_law_735 (by decide) ?_
  refine pm_iaddN (c := i + 2) hG dL_law_736 (by omega) ?_
  refine pm_sldN hG hs dL_law_737 (by omega) hL ?_
  refine pm_aloadn hG dL_law_738 rfl ?_
  refine pm_iloadn hG dL_law_739 rfl ?_
  refine pm_iconst (v := nI 3) hG dL_law_740 (by decide) ?_
  refine pm_iaddN (c := i + 3) hG dL_law_741 (by omega) ?_
  refine pm_sldN hG hs dL_law_742 (by omega) hL ?_
  refine pm_callV (As := [.int (xs (i + 1)), .int (xs (i + 2)), .int (xs (i + 3))]) (rest := []) hG hR dL_law_743 (lkL_73 _ rfl) okV_X12_lend rfl rfl (c_X12_lend (d := 1999) (by decide) e2) rfl rfl (by decide) (by omega) (by omega) (by decide) (pm_ki (fun v2 σ2 cnt2 hq => ?_))
  obtain ⟨rfl, rfl, rfl⟩ := hq
  refine pm_pop hG dL_law_746 rfl ?_
  refine pm_goto (tgt := 2105) hG dL_law_747 rfl ?_
  exact hT _ _ _ _ (LI.nx h74 hk hr1 hx1 kx) (by omega) (by omega)

set_option maxRecDepth 100000 in
set_option maxHeartbeats 4000000 in
theorem law_copy {nm : String} {G : pm_G} {B b cs zs cnt L i w : Nat} {σ : pm_S} {xs : Nat → Int32} (hG : pm_ok (mL_law nm) G B) (hR : pm_rm G 2000 600000 7302250) (hs : pm_scr G B b L xs) (hi : i + 6 ≤ L) (hL : L ≤ 3072) (hc : cs ≤ 590000) (hz : zs ≤ 7200000) (hw : w ≤ 1000) (hl : LI B σ cnt w) (hT : ∀ (σ' : pm_S) (cnt' cs' zs' : Nat), LI B σ' cnt' (w + 1) → cs' ≤ cs + 27 → zs' ≤ zs + 2170 → pm_wp (mL_law nm) G B 2105 [some (.ref b), some (.ref (B + 0)), some (.ref (B + 54)), some (.int (nI i))] [] cs' zs' cnt' σ') : pm_wp (mL_law nm) G B 750 [some (.ref b), some (.ref (B + 0)), some (.ref (B + 54)), some (.int (nI i))] [] cs zs cnt σ := by
  obtain ⟨h74, kp, S, T, lc, lm, ⟨K, h⟩, hx, hk⟩ := hl
  refine pm_weak (pm_sub_two lc) ?_
  refine pm_aloadn hG dL_law_750 rfl ?_
  refine pm_aloadn hG dL_law_751 rfl ?_
  refine pm_iloadn hG dL_law_752 rfl ?_
  refine pm_iconst (v := nI 1) hG dL_law_753 (by decide) ?_
  refine pm_iaddN (c := i + 1) hG dL_law_754 (by omega) ?_
  refine pm_sldN hG hs dL_law_755 (by omega) hL ?_
  obtain ⟨v, S1, T1, e1, e2, hr1, hx1, kx⟩ := (op_copy (za := xs (i + 1)) h).x hx
  refine pm_callV (As := [.int (xs (i + 1))]) (rest := []) hG hR dL_law_756 (lkL_74 _ rfl) okV_X11_copy rfl rfl (c_X11_copy (d := 1999) (by decide) e1) rfl rfl (by decide) (by omega) (by omega) (by decide) (pm_ki (fun v1 σ1 cnt1 hq => ?_))
  obtain ⟨rfl, rfl, rfl⟩ := hq
  have lm1 : pm_lies (cst B kp S1 σ) 54 (md_F B T.1 T.2) := lm.same (fun j h1 _ => pm_two_hi h1)
  refine pm_weak (pm_sub_mid lm1) ?_
  refine pm_pop hG dL_law_759 rfl ?_
  refine pm_aloadn hG dL_law_760 rfl ?_
  refine pm_aloadn hG dL_law_761 rfl ?_
  refine pm_iloadn hG dL_law_762 rfl ?_
  refine pm_iconst (v := nI 1) hG dL_law_763 (by decide) ?_
  refine pm_iaddN (c := i + 1) hG dL_law_764 (by omega) ?_
  refine pm_sldN hG hs dL_law_765 (by omega) hL ?_
  refine pm_callV (As := [.int (xs (i + 1))]) (rest := []) hG hR dL_law_766 (lkL_77 _ rfl) okV_X12_copy rfl rfl (c_X12_copy (d := 1999) (by decide) e2) rfl rfl (by decide) (by omega) (by omega) (by decide) (pm_ki (fun v2 σ2 cnt2 hq => ?_))
  obtain ⟨rfl, rfl, rfl⟩ := hq
  refine pm_pop hG dL_law_769 rfl ?_
  refine pm_goto (tgt := 2105) hG dL_law_770 rfl ?_
  exact hT _ _ _ _ (LI.nx h74 hk hr1 hx1 kx) (by omega) (by omega)

set_option maxRecDepth 100000 in
set_option maxHeartbeats 4000000 in
theorem law_feed {nm : String} {G : pm_G} {B b cs zs cnt L i w : Nat} {σ : pm_S} {xs : Nat → Int32} (hG : pm_ok (mL_law nm) G B) (hR : pm_rm G 2000 600000 7302250) (hs : pm_scr G B b L xs) (hi : i + 6 ≤ L) (hL : L ≤ 3072) (hc : cs ≤ 590000) (hz : zs ≤ 7200000) (hw : w ≤ 1000) (hl : LI B σ cnt w) (hT : ∀ (σ' : pm_S) (cnt' cs' zs' : Nat), LI B σ' cnt' (w + 1) → cs' ≤ cs + 27 → zs' ≤ zs + 2170 → pm_wp (mL_law nm) G B 2105 [some (.ref b), some (.ref (B + 0)), some (.ref (B + 54)), some (.int (nI i))] [] cs' zs' cnt' σ') : pm_wp (mL_law nm) G B 773 [some (.ref b), some (.ref (B + 0)), some (.ref (B + 54)), some (.int (nI i))] [] cs zs cnt σ := by
  obtain ⟨h74, kp, S, T, lc, lm, ⟨K, h⟩, hx, hk⟩ := hl
  refine pm_weak (pm_sub_two lc) ?_
  refine pm_aloadn hG dL_law_773 rfl ?_
  refine pm_aloadn hG dL_law_774 rfl ?_
  refine pm_iloadn hG dL_law_775 rfl ?_
  refine pm_iconst (v := nI 1) hG dL_law_776 (by decide) ?_
  refine pm_iaddN (c := i + 1) hG dL_law_777 (by omega) ?_
  refine pm_sldN hG hs dL_law_778 (by omega) hL ?_
  refine pm_i2l hG dL_law_779 rfl ?_
  refine pm_bipush (v := nI 32) hG dL_law_780 (by decide) ?_
  refine pm_lshl hG dL_law_782 rfl ?_
  refine pm_aloadn hG dL_law_783 rfl ?_
  refine pm_iloadn hG dL_law_784 rfl ?_
  refine pm_iconst (v := nI 2) hG dL_law_785 (by decide) ?_
  refine pm_iaddN (c := i + 2) hG dL_law_786 (by omega) ?_
  refine pm_sldN hG hs dL_law_787 (by omega) hL ?_
  refine pm_i2l hG dL_law_788 rfl ?_
  refine pm_ldc2 hG dL_law_789 (ctL_78 _ rfl) ?_
  refine pm_land hG dL_law_792 ?_
  refine pm_lor hG dL_law_793 ?_
  refine pm_aloadn hG dL_law_794 rfl ?_
  refine pm_iloadn hG dL_law_795 rfl ?_
  refine pm_iconst (v := nI 3) hG dL_law_796 (by decide) ?_
  refine pm_iaddN (c := i + 3) hG dL_law_797 (by omega) ?_
  refine pm_sldN hG hs dL_law_798 (by omega) hL ?_
  obtain ⟨v, S1, T1, e1, e2, hr1, hx1, kx⟩ := (op_feed (za := (((xs (i + 1)).toInt64) <<< ((nI 32 : Int32).toInt64 &&& 63)) ||| (((xs (i + 2)).toInt64) &&& (4294967295 : Int64))) (zb := xs (i + 3)) h).x hx
  refine pm_callV (As := [.long ((((xs (i + 1)).toInt64) <<< ((nI 32 : Int32).toInt64 &&& 63)) ||| (((xs (i + 2)).toInt64) &&& (4294967295 : Int64))), .int (xs (i + 3))]) (rest := []) hG hR dL_law_799 (lkL_80 _ rfl) okV_X11_feed rfl rfl (c_X11_feed (d := 1999) (by decide) e1) rfl rfl (by decide) (by omega) (by omega) (by decide) (pm_ki (fun v1 σ1 cnt1 hq => ?_))
  obtain ⟨rfl, rfl, rfl⟩ := hq
  have lm1 : pm_lies (cst B kp S1 σ) 54 (md_F B T.1 T.2) := lm.same (fun j h1 _ => pm_two_hi h1)
  refine pm_weak (pm_sub_mid lm1) ?_
  refine pm_pop hG dL_law_802 rfl ?_
  refine pm_aloadn hG dL_law_803 rfl ?_
  refine pm_aloadn hG dL_law_804 rfl ?_
  refine pm_iloadn hG dL_law_805 rfl ?_
  refine pm_iconst (v := nI 1) hG dL_law_806 (by decide) ?_
  refine pm_iaddN (c := i + 1) hG dL_law_807 (by omega) ?_
  refine pm_sldN hG hs dL_law_808 (by omega) hL ?_
  refine pm_i2l hG dL_law_809 rfl ?_
  refine pm_bipush (v := nI 32) hG dL_law_810 (by decide) ?_
  refine pm_lshl hG dL_law_812 rfl ?_
  refine pm_aloadn hG dL_law_813 rfl ?_
  refine pm_iloadn hG dL_law_814 rfl ?_
  refine pm_iconst (v := nI 2) hG dL_law_815 (by decide) ?_
  refine pm_iaddN (c := i + 2) hG dL_law_816 (by omega) ?_
  refine pm_sldN hG hs dL_law_817 (by omega) hL ?_
  refine pm_i2l hG dL_law_818 rfl ?_
  refine pm_ldc2 hG dL_law_819 (ctL_78 _ rfl) ?_
  refine pm_land hG dL_law_822 ?_
  refine pm_lor hG dL_law_823 ?_
  refine pm_aloadn hG dL_law_824 rfl ?_
  refine pm_iloadn hG dL_law_825 rfl ?_
  refine pm_iconst (v := nI 3) hG dL_law_826 (by decide) ?_
  refine pm_iaddN (c := i + 3) hG dL_law_827 (by omega) ?_
  refine pm_sldN hG hs dL_law_828 (by omega) hL ?_
  refine pm_callV (As := [.long ((((xs (i + 1)).toInt64) <<< ((nI 32 : Int32).toInt64 &&& 63)) ||| (((xs (i + 2)).toInt64) &&& (4294967295 : Int64))), .int (xs (i + 3))]) (rest := []) hG hR dL_law_829 (lkL_84 _ rfl) okV_X12_feed rfl rfl (c_X12_feed (d := 1999) (by decide) e2) rfl rfl (by decide) (by omega) (by omega) (by decide) (pm_ki (fun v2 σ2 cnt2 hq => ?_))
  obtain ⟨rfl, rfl, rfl⟩ := hq
  refine pm_pop hG dL_law_832 rfl ?_
  refine pm_goto (tgt := 2105) hG dL_law_833 rfl ?_
  exact hT _ _ _ _ (LI.nx h74 hk hr1 hx1 kx) (by omega) (by omega)

set_option maxRecDepth 100000 in
set_option maxHeartbeats 4000000 in
theorem law_law {nm : String} {G : pm_G} {B b cs zs cnt L i w : Nat} {σ : pm_S} {xs : Nat → Int32} (hG : pm_ok (mL_law nm) G B) (hR : pm_rm G 2000 600000 7302250) (hs : pm_scr G B b L xs) (hi : i + 6 ≤ L) (hL : L ≤ 3072) (hc : cs ≤ 590000) (hz : zs ≤ 7200000) (hw : w ≤ 1000) (hl : LI B σ cnt w) (hT : ∀ (σ' : pm_S) (cnt' cs' zs' : Nat), LI B σ' cnt' (w + 1) → cs' ≤ cs + 27 → zs' ≤ zs + 2170 → pm_wp (mL_law nm) G B 2105 [some (.ref b), some (.ref (B + 0)), some (.ref (B + 54)), some (.int (nI i))] [] cs' zs' cnt' σ') : pm_wp (mL_law nm) G B 836 [some (.ref b), some (.ref (B + 0)), some (.ref (B + 54)), some (.int (nI i))] [] cs zs cnt σ := by
  obtain ⟨h74, kp, S, T, lc, lm, ⟨K, h⟩, hx, hk⟩ := hl
  refine pm_weak (pm_sub_two lc) ?_
  refine pm_aloadn hG dL_law_836 rfl ?_
  refine pm_aloadn hG dL_law_837 rfl ?_
  refine pm_iloadn hG dL_law_838 rfl ?_
  refine pm_iconst (v := nI 1) hG dL_law_839 (by decide) ?_
  refine pm_iaddN (c := i + 1) hG dL_law_840 (by omega) ?_
  refine pm_sldN hG hs dL_law_841 (by omega) hL ?_
  refine pm_aloadn hG dL_law_842 rfl ?_
  refine pm_iloadn hG dL_law_843 rfl ?_
  refine pm_iconst (v := nI 2) hG dL_law_844 (by decide) ?_
  refine pm_iaddN (c := i + 2) hG dL_law_845 (by omega) ?_
  refine pm_sldN hG hs dL_law_846 (by omega) hL ?_
  obtain ⟨v, S1, T1, e1, e2, hr1, hx1, kx⟩ := (op_law (za := xs (i + 1)) (zb := xs (i + 2)) h).x hx
  refine pm_callV (As := [.int (xs (i + 1)), .int (xs (i + 2))]) (rest := []) hG hR dL_law_847 (lkL_85 _ rfl) okV_X11_law rfl rfl (c_X11_law (d := 1999) (by decide) e1) rfl rfl (by decide) (by omega) (by omega) (by decide) (pm_ki (fun v1 σ1 cnt1 hq => ?_))
  obtain ⟨rfl, rfl, rfl⟩ := hq
  have lm1 : pm_lies (cst B kp S1 σ) 54 (md_F B T.1 T.2) := lm.same (fun j h1 _ => pm_two_hi h1)
  refine pm_weak (pm_sub_mid lm1) ?_
  refine pm_pop hG dL_law_850 rfl ?_
  refine pm_aloadn hG dL_law_851 rfl ?_
  refine pm_aloadn hG dL_law_852 rfl ?_
  refine pm_iloadn hG dL_law_853 rfl ?_
  refine pm_iconst (v := nI 1) hG dL_law_854 (by decide) ?_
  refine pm_iaddN (c := i + 1) hG dL_law_855 (by omega) ?_
  refine pm_sldN hG hs dL_law_856 (by omega) hL ?_
  refine pm_aloadn hG dL_law_857 rfl ?_
  refine pm_iloadn hG dL_law_858 rfl ?_
  refine pm_iconst (v := nI 2) hG dL_law_859 (by decide) ?_
  refine pm_iaddN (c := i + 2) hG dL_law_860 (by omega) ?_
  refine pm_sldN hG hs dL_law_861 (by omega) hL ?_
  refine pm_callV (As := [.int (xs (i + 1)), .int (xs (i + 2))]) (rest := []) hG hR dL_law_862 (lkL_88 _ rfl) okV_X12_law rfl rfl (c_X12_law (d := 1999) (by decide) e2) rfl rfl (by decide) (by omega) (by omega) (by decide) (pm_ki (fun v2 σ2 cnt2 hq => ?_))
  obtain ⟨rfl, rfl, rfl⟩ := hq
  refine pm_pop hG dL_law_865 rfl ?_
  refine pm_goto (tgt := 2105) hG dL_law_866 rfl ?_
  exact hT _ _ _ _ (LI.nx h74 hk hr1 hx1 kx) (by omega) (by omega)

set_option maxRecDepth 100000 in
set_option maxHeartbeats 4000000 in
theorem law_strike {nm : String} {G : pm_G} {B b cs zs cnt L i w : Nat} {σ : pm_S} {xs : Nat → Int32} (hG : pm_ok (mL_law nm) G B) (hR : pm_rm G 2000 600000 7302250) (hs : pm_scr G B b L xs) (hi : i + 6 ≤ L) (hL : L ≤ 3072) (hc : cs ≤ 590000) (hz : zs ≤ 7200000) (hw : w ≤ 1000) (hl : LI B σ cnt w) (hT : ∀ (σ' : pm_S) (cnt' cs' zs' : Nat), LI B σ' cnt' (w + 1) → cs' ≤ cs + 27 → zs' ≤ zs + 2170 → pm_wp (mL_law nm) G B 2105 [some (.ref b), some (.ref (B + 0)), some (.ref (B + 54)), some (.int (nI i))] [] cs' zs' cnt' σ') : pm_wp (mL_law nm) G B 869 [some (.ref b), some (.ref (B + 0)), some (.ref (B + 54)), some (.int (nI i))] [] cs zs cnt σ := by
  obtain ⟨h74, kp, S, T, lc, lm, ⟨K, h⟩, hx, hk⟩ := hl
  refine pm_weak (pm_sub_two lc) ?_
  refine pm_aloadn hG dL_law_869 rfl ?_
  refine pm_aloadn hG dL_law_870 rfl ?_
  refine pm_iloadn hG dL_law_871 rfl ?_
  refine pm_iconst (v := nI 1) hG dL_law_872 (by decide) ?_
  refine pm_iaddN (c := i + 1) hG dL_law_873 (by omega) ?_
  refine pm_sldN hG hs dL_law_874 (by omega) hL ?_
  obtain ⟨v, S1, T1, e1, e2, hr1, hx1, kx⟩ := (op_strike (za := xs (i + 1)) h).x hx
  refine pm_callV (As := [.int (xs (i + 1))]) (rest := []) hG hR dL_law_875 (lkL_89 _ rfl) okV_X11_strike rfl rfl (c_X11_strike (d := 1999) (by decide) e1) rfl rfl (by decide) (by omega) (by omega) (by decide) (pm_ki (fun v1 σ1 cnt1 hq => ?_))
  obtain ⟨rfl, rfl, rfl⟩ := hq
  have lm1 : pm_lies (cst B kp S1 σ) 54 (md_F B T.1 T.2) := lm.same (fun j h1 _ => pm_two_hi h1)
  refine pm_weak (pm_sub_mid lm1) ?_
  refine pm_pop hG dL_law_878 rfl ?_
  refine pm_aloadn hG dL_law_879 rfl ?_
  refine pm_aloadn hG dL_law_880 rfl ?_
  refine pm_iloadn hG dL_law_881 rfl ?_
  refine pm_iconst (v := nI 1) hG dL_law_882 (by decide) ?_
  refine pm_iaddN (c := i + 1) hG dL_law_883 (by omega) ?_
  refine pm_sldN hG hs dL_law_884 (by omega) hL ?_
  refine pm_callV (As := [.int (xs (i + 1))]) (rest := []) hG hR dL_law_885 (lkL_92 _ rfl) okV_X12_strike rfl rfl (c_X12_strike (d := 1999) (by decide) e2) rfl rfl (by decide) (by omega) (by omega) (by decide) (pm_ki (fun v2 σ2 cnt2 hq => ?_))
  obtain ⟨rfl, rfl, rfl⟩ := hq
  refine pm_pop hG dL_law_888 rfl ?_
  refine pm_goto (tgt := 2105) hG dL_law_889 rfl ?_
  exact hT _ _ _ _ (LI.nx h74 hk hr1 hx1 kx) (by omega) (by omega)
