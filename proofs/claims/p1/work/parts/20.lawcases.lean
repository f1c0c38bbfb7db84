set_option maxRecDepth 100000 in
set_option maxHeartbeats 4000000 in
theorem law_town {nm : String} {G : pm_G} {B b : Nat} {xs : Nat → Int32} {fw : Nat → Int32} (hG : pm_ok (mL_law nm) G B) (hR : pm_rm G 2000 600000 7302250) (hs : pm_scr G B b 6 xs) (hE : pm_lend nm G B) : pm_wp (mL_law nm) G B 268 [some (.ref b), some (.ref (B + 0)), some (.ref (B + 54)), some (.int 0)] [] 74 7345 74 (pm_cat (pm_ofL (l_k_class B fw)) 54 (l_k_model B)) := by
  refine pm_aloadn hG dL_law_268 rfl ?_
  refine pm_callV (As := []) (rest := []) hG hR dL_law_269 (lkL_13 _ rfl) okV_X11_town rfl rfl (oc_town (R := l_k_model B) (d := 1999) (by decide)) rfl rfl (by decide) (by decide) (by decide) (by decide) (pm_ki (fun v σ' cnt' hq => ?_))
  obtain ⟨rfl, hl, rfl⟩ := hq
  refine pm_weak (pm_lies_sub hl) ?_
  refine pm_aloadn hG dL_law_272 rfl ?_
  refine pm_callV (As := []) (rest := [.int v_town]) hG hR dL_law_273 (lkL_17 _ rfl) okV_X12_town rfl rfl (om_town (d := 1999) (by decide)) rfl rfl (by decide) (by decide) (by decide) (by first | decide | exact Nat.le_of_ble_eq_true rfl) (pm_ki (fun v σ' cnt' hq => ?_))
  obtain rfl := hq
  refine pm_icmp_eq (tgt := 2105) hG dL_law_276 rfl (fun _ => ?_) (fun q => absurd rfl q)
  exact law_tail hG hs hE (Nat.le_of_ble_eq_true rfl) (Nat.le_of_ble_eq_true rfl)

set_option maxRecDepth 100000 in
set_option maxHeartbeats 4000000 in
theorem law_road {nm : String} {G : pm_G} {B b : Nat} {xs : Nat → Int32} {fw : Nat → Int32} (hG : pm_ok (mL_law nm) G B) (hR : pm_rm G 2000 600000 7302250) (hs : pm_scr G B b 6 xs) (hE : pm_lend nm G B) : pm_wp (mL_law nm) G B 281 [some (.ref b), some (.ref (B + 0)), some (.ref (B + 54)), some (.int 0)] [] 74 7345 74 (pm_cat (pm_ofL (l_k_class B fw)) 54 (l_k_model B)) := by
  refine pm_aloadn hG dL_law_281 rfl ?_
  refine pm_aloadn hG dL_law_282 rfl ?_
  refine pm_iloadn hG dL_law_283 rfl ?_
  refine pm_iconst (v := 1) hG dL_law_284 (by decide) ?_
  refine pm_iadd hG dL_law_285 ?_
  refine pm_top (v := 1) (by decide) ?_
  refine pm_sld hG hs dL_law_286 (pm_inb (by decide)) ?_
  refine pm_aloadn hG dL_law_287 rfl ?_
  refine pm_iloadn hG dL_law_288 rfl ?_
  refine pm_iconst (v := 2) hG dL_law_289 (by decide) ?_
  refine pm_iadd hG dL_law_290 ?_
  refine pm_top (v := 2) (by decide) ?_
  refine pm_sld hG hs dL_law_291 (pm_inb (by decide)) ?_
  refine pm_aloadn hG dL_law_292 rfl ?_
  refine pm_iloadn hG dL_law_293 rfl ?_
  refine pm_iconst (v := 3) hG dL_law_294 (by decide) ?_
  refine pm_iadd hG dL_law_295 ?_
  refine pm_top (v := 3) (by decide) ?_
  refine pm_sld hG hs dL_law_296 (pm_inb (by decide)) ?_
  refine pm_callV (As := [.int (xs (1 : Int32).toNatClampNeg), .int (xs (2 : Int32).toNatClampNeg), .int (xs (3 : Int32).toNatClampNeg)]) (rest := []) hG hR dL_law_297 (lkL_18 _ rfl) okV_X11_road rfl rfl (oc_road (R := l_k_model B) (d := 1999) (by decide)) rfl rfl (by decide) (by decide) (by decide) (by decide) (pm_ki (fun v σ' cnt' hq => ?_))
  obtain ⟨rfl, hl, rfl⟩ := hq
  refine pm_weak (pm_lies_sub hl) ?_
  refine pm_aloadn hG dL_law_300 rfl ?_
  refine pm_aloadn hG dL_law_301 rfl ?_
  refine pm_iloadn hG dL_law_302 rfl ?_
  refine pm_iconst (v := 1) hG dL_law_303 (by decide) ?_
  refine pm_iadd hG dL_law_304 ?_
  refine pm_top (v := 1) (by decide) ?_
  refine pm_sld hG hs dL_law_305 (pm_inb (by decide)) ?_
  refine pm_aloadn hG dL_law_306 rfl ?_
  refine pm_iloadn hG dL_law_307 rfl ?_
  refine pm_iconst (v := 2) hG dL_law_308 (by decide) ?_
  refine pm_iadd hG dL_law_309 ?_
  refine pm_top (v := 2) (by decide) ?_
  refine pm_sld hG hs dL_law_310 (pm_inb (by decide)) ?_
  refine pm_aloadn hG dL_law_311 rfl ?_
  refine pm_iloadn hG dL_law_312 rfl ?_
  refine pm_iconst (v := 3) hG dL_law_313 (by decide) ?_
  refine pm_iadd hG dL_law_314 ?_
  refine pm_top (v := 3) (by decide) ?_
  refine pm_sld hG hs dL_law_315 (pm_inb (by decide)) ?_
  refine pm_callV (As := [.int (xs (1 : Int32).toNatClampNeg), .int (xs (2 : Int32).toNatClampNeg), .int (xs (3 : Int32).toNatClampNeg)]) (rest := [.int (v_road (xs (1 : Int32).toNatClampNeg) (xs (2 : Int32).toNatClampNeg) (xs (3 : Int32).toNatClampNeg))]) hG hR dL_law_316 (lkL_22 _ rfl) okV_X12_road rfl rfl (om_road (d := 1999) (by decide)) rfl rfl (by decide) (by decide) (by decide) (by first | decide | exact Nat.le_of_ble_eq_true rfl) (pm_ki (fun v σ' cnt' hq => ?_))
  obtain rfl := hq
  refine pm_icmp_eq (tgt := 2105) hG dL_law_319 rfl (fun _ => ?_) (fun q => absurd rfl q)
  exact law_tail hG hs hE (Nat.le_of_ble_eq_true rfl) (Nat.le_of_ble_eq_true rfl)

set_option maxRecDepth 100000 in
set_option maxHeartbeats 4000000 in
theorem law_far {nm : String} {G : pm_G} {B b : Nat} {xs : Nat → Int32} {fw : Nat → Int32} (hG : pm_ok (mL_law nm) G B) (hR : pm_rm G 2000 600000 7302250) (hs : pm_scr G B b 6 xs) (hE : pm_lend nm G B) : pm_wp (mL_law nm) G B 324 [some (.ref b), some (.ref (B + 0)), some (.ref (B + 54)), some (.int 0)] [] 74 7345 74 (pm_cat (pm_ofL (l_k_class B fw)) 54 (l_k_model B)) := by
  refine pm_aloadn hG dL_law_324 rfl ?_
  refine pm_aloadn hG dL_law_325 rfl ?_
  refine pm_iloadn hG dL_law_326 rfl ?_
  refine pm_iconst (v := 1) hG dL_law_327 (by decide) ?_
  refine pm_iadd hG dL_law_328 ?_
  refine pm_top (v := 1) (by decide) ?_
  refine pm_sld hG hs dL_law_329 (pm_inb (by decide)) ?_
  refine pm_aloadn hG dL_law_330 rfl ?_
  refine pm_iloadn hG dL_law_331 rfl ?_
  refine pm_iconst (v := 2) hG dL_law_332 (by decide) ?_
  refine pm_iadd hG dL_law_333 ?_
  refine pm_top (v := 2) (by decide) ?_
  refine pm_sld hG hs dL_law_334 (pm_inb (by decide)) ?_
  refine pm_callV (As := [.int (xs (1 : Int32).toNatClampNeg), .int (xs (2 : Int32).toNatClampNeg)]) (rest := []) hG hR dL_law_335 (lkL_23 _ rfl) okV_X11_far rfl rfl (oc_far (R := l_k_model B) (d := 1999) (by decide)) rfl rfl (by decide) (by decide) (by decide) (by decide) (pm_ki (fun v σ' cnt' hq => ?_))
  obtain ⟨rfl, hl, rfl⟩ := hq
  refine pm_weak (pm_lies_sub hl) ?_
  refine pm_aloadn hG dL_law_338 rfl ?_
  refine pm_aloadn hG dL_law_339 rfl ?_
  refine pm_iloadn hG dL_law_340 rfl ?_
  refine pm_iconst (v := 1) hG dL_law_341 (by decide) ?_
  refine pm_iadd hG dL_law_342 ?_
  refine pm_top (v := 1) (by decide) ?_
  refine pm_sld hG hs dL_law_343 (pm_inb (by decide)) ?_
  refine pm_aloadn hG dL_law_344 rfl ?_
  refine pm_iloadn hG dL_law_345 rfl ?_
  refine pm_iconst (v := 2) hG dL_law_346 (by decide) ?_
  refine pm_iadd hG dL_law_347 ?_
  refine pm_top (v := 2) (by decide) ?_
  refine pm_sld hG hs dL_law_348 (pm_inb (by decide)) ?_
  refine pm_callV (As := [.int (xs (1 : Int32).toNatClampNeg), .int (xs (2 : Int32).toNatClampNeg)]) (rest := [.int (v_far (xs (1 : Int32).toNatClampNeg) (xs (2 : Int32).toNatClampNeg))]) hG hR dL_law_349 (lkL_27 _ rfl) okV_X12_far rfl rfl (om_far (d := 1999) (by decide)) rfl rfl (by decide) (by decide) (by decide) (by first | decide | exact Nat.le_of_ble_eq_true rfl) (pm_ki (fun v σ' cnt' hq => ?_))
  obtain rfl := hq
  refine pm_icmp_eq (tgt := 2105) hG dL_law_352 rfl (fun _ => ?_) (fun q => absurd rfl q)
  exact law_tail hG hs hE (Nat.le_of_ble_eq_true rfl) (Nat.le_of_ble_eq_true rfl)

set_option maxRecDepth 100000 in
set_option maxHeartbeats 4000000 in
theorem law_person {nm : String} {G : pm_G} {B b : Nat} {xs : Nat → Int32} {fw : Nat → Int32} (hG : pm_ok (mL_law nm) G B) (hR : pm_rm G 2000 600000 7302250) (hs : pm_scr G B b 6 xs) (hE : pm_lend nm G B) : pm_wp (mL_law nm) G B 357 [some (.ref b), some (.ref (B + 0)), some (.ref (B + 54)), some (.int 0)] [] 74 7345 74 (pm_cat (pm_ofL (l_k_class B fw)) 54 (l_k_model B)) := by
  refine pm_aloadn hG dL_law_357 rfl ?_
  refine pm_aloadn hG dL_law_358 rfl ?_
  refine pm_iloadn hG dL_law_359 rfl ?_
  refine pm_iconst (v := 1) hG dL_law_360 (by decide) ?_
  refine pm_iadd hG dL_law_361 ?_
  refine pm_top (v := 1) (by decide) ?_
  refine pm_sld hG hs dL_law_362 (pm_inb (by decide)) ?_
  refine pm_aloadn hG dL_law_363 rfl ?_
  refine pm_iloadn hG dL_law_364 rfl ?_
  refine pm_iconst (v := 2) hG dL_law_365 (by decide) ?_
  refine pm_iadd hG dL_law_366 ?_
  refine pm_top (v := 2) (by decide) ?_
  refine pm_sld hG hs dL_law_367 (pm_inb (by decide)) ?_
  refine pm_aloadn hG dL_law_368 rfl ?_
  refine pm_iloadn hG dL_law_369 rfl ?_
  refine pm_iconst (v := 3) hG dL_law_370 (by decide) ?_
  refine pm_iadd hG dL_law_371 ?_
  refine pm_top (v := 3) (by decide) ?_
  refine pm_sld hG hs dL_law_372 (pm_inb (by decide)) ?_
  refine pm_aloadn hG dL_law_373 rfl ?_
  refine pm_iloadn hG dL_law_374 rfl ?_
  refine pm_iconst (v := 4) hG dL_law_375 (by decide) ?_
  refine pm_iadd hG dL_law_376 ?_
  refine pm_top (v := 4) (by decide) ?_
  refine pm_sld hG hs dL_law_377 (pm_inb (by decide)) ?_
  refine pm_callV (As := [.int (xs (1 : Int32).toNatClampNeg), .int (xs (2 : Int32).toNatClampNeg), .int (xs (3 : Int32).toNatClampNeg), .int (xs (4 : Int32).toNatClampNeg)]) (rest := []) hG hR dL_law_378 (lkL_28 _ rfl) okV_X11_person rfl rfl (oc_person (R := l_k_model B) (d := 1999) (by decide)) rfl rfl (by decide) (by decide) (by decide) (by decide) (pm_ki (fun v σ' cnt' hq => ?_))
  obtain ⟨rfl, hl, rfl⟩ := hq
  refine pm_weak (pm_lies_sub hl) ?_
  refine pm_aloadn hG dL_law_381 rfl ?_
  refine pm_aloadn hG dL_law_382 rfl ?_
  refine pm_iloadn hG dL_law_383 rfl ?_
  refine pm_iconst (v := 1) hG dL_law_384 (by decide) ?_
  refine pm_iadd hG dL_law_385 ?_
  refine pm_top (v := 1) (by decide) ?_
  refine pm_sld hG hs dL_law_386 (pm_inb (by decide)) ?_
  refine pm_aloadn hG dL_law_387 rfl ?_
  refine pm_iloadn hG dL_law_388 rfl ?_
  refine pm_iconst (v := 2) hG dL_law_389 (by decide) ?_
  refine pm_iadd hG dL_law_390 ?_
  refine pm_top (v := 2) (by decide) ?_
  refine pm_sld hG hs dL_law_391 (pm_inb (by decide)) ?_
  refine pm_aloadn hG dL_law_392 rfl ?_
  refine pm_iloadn hG dL_law_393 rfl ?_
  refine pm_iconst (v := 3) hG dL_law_394 (by decide) ?_
  refine pm_iadd hG dL_law_395 ?_
  refine pm_top (v := 3) (by decide) ?_
  refine pm_sld hG hs dL_law_396 (pm_inb (by decide)) ?_
  refine pm_aloadn hG dL_law_397 rfl ?_
  refine pm_iloadn hG dL_law_398 rfl ?_
  refine pm_iconst (v := 4) hG dL_law_399 (by decide) ?_
  refine pm_iadd hG dL_law_400 ?_
  refine pm_top (v := 4) (by decide) ?_
  refine pm_sld hG hs dL_law_401 (pm_inb (by decide)) ?_
  refine pm_callV (As := [.int (xs (1 : Int32).toNatClampNeg), .int (xs (2 : Int32).toNatClampNeg), .int (xs (3 : Int32).toNatClampNeg), .int (xs (4 : Int32).toNatClampNeg)]) (rest := [.int (v_person (xs (1 : Int32).toNatClampNeg) (xs (2 : Int32).toNatClampNeg) (xs (3 : Int32).toNatClampNeg) (xs (4 : Int32).toNatClampNeg))]) hG hR dL_law_402 (lkL_32 _ rfl) okV_X12_person rfl rfl (om_person (d := 1999) (by decide)) rfl rfl (by decide) (by decide) (by decide) (by first | decide | exact Nat.le_of_ble_eq_true rfl) (pm_ki (fun v σ' cnt' hq => ?_))
  obtain rfl := hq
  refine pm_icmp_eq (tgt := 2105) hG dL_law_405 rfl (fun _ => ?_) (fun q => absurd rfl q)
  exact law_tail hG hs hE (Nat.le_of_ble_eq_true rfl) (Nat.le_of_ble_eq_true rfl)

set_option maxRecDepth 100000 in
set_option maxHeartbeats 4000000 in
theorem law_die {nm : String} {G : pm_G} {B b : Nat} {xs : Nat → Int32} {fw : Nat → Int32} (hG : pm_ok (mL_law nm) G B) (hR : pm_rm G 2000 600000 7302250) (hs : pm_scr G B b 6 xs) (hE : pm_lend nm G B) : pm_wp (mL_law nm) G B 410 [some (.ref b), some (.ref (B + 0)), some (.ref (B + 54)), some (.int 0)] [] 74 7345 74 (pm_cat (pm_ofL (l_k_class B fw)) 54 (l_k_model B)) := by
  refine pm_aloadn hG dL_law_410 rfl ?_
  refine pm_aloadn hG dL_law_411 rfl ?_
  refine pm_iloadn hG dL_law_412 rfl ?_
  refine pm_iconst (v := 1) hG dL_law_413 (by decide) ?_
  refine pm_iadd hG dL_law_414 ?_
  refine pm_top (v := 1) (by decide) ?_
  refine pm_sld hG hs dL_law_415 (pm_inb (by decide)) ?_
  refine pm_callV (As := [.int (xs (1 : Int32).toNatClampNeg)]) (rest := []) hG hR dL_law_416 (lkL_33 _ rfl) okV_X11_die rfl rfl (oc_die (R := l_k_model B) (d := 1999) (by decide)) rfl rfl (by decide) (by decide) (by decide) (by decide) (pm_ki (fun v σ' cnt' hq => ?_))
  obtain ⟨rfl, hl, rfl⟩ := hq
  refine pm_weak (pm_lies_sub hl) ?_
  refine pm_aloadn hG dL_law_419 rfl ?_
  refine pm_aloadn hG dL_law_420 rfl ?_
  refine pm_iloadn hG dL_law_421 rfl ?_
  refine pm_iconst (v := 1) hG dL_law_422 (by decide) ?_
  refine pm_iadd hG dL_law_423 ?_
  refine pm_top (v := 1) (by decide) ?_
  refine pm_sld hG hs dL_law_424 (pm_inb (by decide)) ?_
  refine pm_callV (As := [.int (xs (1 : Int32).toNatClampNeg)]) (rest := [.int (v_die (xs (1 : Int32).toNatClampNeg))]) hG hR dL_law_425 (lkL_37 _ rfl) okV_X12_die rfl rfl (om_die (d := 1999) (by decide)) rfl rfl (by decide) (by decide) (by decide) (by first | decide | exact Nat.le_of_ble_eq_true rfl) (pm_ki (fun v σ' cnt' hq => ?_))
  obtain rfl := hq
  refine pm_icmp_eq (tgt := 2105) hG dL_law_428 rfl (fun _ => ?_) (fun q => absurd rfl q)
  exact law_tail hG hs hE (Nat.le_of_ble_eq_true rfl) (Nat.le_of_ble_eq_true rfl)

set_option maxRecDepth 100000 in
set_option maxHeartbeats 4000000 in
theorem law_go {nm : String} {G : pm_G} {B b : Nat} {xs : Nat → Int32} {fw : Nat → Int32} (hG : pm_ok (mL_law nm) G B) (hR : pm_rm G 2000 600000 7302250) (hs : pm_scr G B b 6 xs) (hE : pm_lend nm G B) : pm_wp (mL_law nm) G B 433 [some (.ref b), some (.ref (B + 0)), some (.ref (B + 54)), some (.int 0)] [] 74 7345 74 (pm_cat (pm_ofL (l_k_class B fw)) 54 (l_k_model B)) := by
  refine pm_aloadn hG dL_law_433 rfl ?_
  refine pm_aloadn hG dL_law_434 rfl ?_
  refine pm_iloadn hG dL_law_435 rfl ?_
  refine pm_iconst (v := 1) hG dL_law_436 (by decide) ?_
  refine pm_iadd hG dL_law_437 ?_
  refine pm_top (v := 1) (by decide) ?_
  refine pm_sld hG hs dL_law_438 (pm_inb (by decide)) ?_
  refine pm_aloadn hG dL_law_439 rfl ?_
  refine pm_iloadn hG dL_law_440 rfl ?_
  refine pm_iconst (v := 2) hG dL_law_441 (by decide) ?_
  refine pm_iadd hG dL_law_442 ?_
  refine pm_top (v := 2) (by decide) ?_
  refine pm_sld hG hs dL_law_443 (pm_inb (by decide)) ?_
  refine pm_callV (As := [.int (xs (1 : Int32).toNatClampNeg), .int (xs (2 : Int32).toNatClampNeg)]) (rest := []) hG hR dL_law_444 (lkL_38 _ rfl) okV_X11_go rfl rfl (oc_go (R := l_k_model B) (d := 1999) (by decide)) rfl rfl (by decide) (by decide) (by decide) (by decide) (pm_ki (fun v σ' cnt' hq => ?_))
  obtain ⟨rfl, hl, rfl⟩ := hq
  refine pm_weak (pm_lies_sub hl) ?_
  refine pm_aloadn hG dL_law_447 rfl ?_
  refine pm_aloadn hG dL_law_448 rfl ?_
  refine pm_iloadn hG dL_law_449 rfl ?_
  refine pm_iconst (v := 1) hG dL_law_450 (by decide) ?_
  refine pm_iadd hG dL_law_451 ?_
  refine pm_top (v := 1) (by decide) ?_
  refine pm_sld hG hs dL_law_452 (pm_inb (by decide)) ?_
  refine pm_aloadn hG dL_law_453 rfl ?_
  refine pm_iloadn hG dL_law_454 rfl ?_
  refine pm_iconst (v := 2) hG dL_law_455 (by decide) ?_
  refine pm_iadd hG dL_law_456 ?_
  refine pm_top (v := 2) (by decide) ?_
  refine pm_sld hG hs dL_law_457 (pm_inb (by decide)) ?_
  refine pm_callV (As := [.int (xs (1 : Int32).toNatClampNeg), .int (xs (2 : Int32).toNatClampNeg)]) (rest := [.int (v_go (xs (1 : Int32).toNatClampNeg) (xs (2 : Int32).toNatClampNeg))]) hG hR dL_law_458 (lkL_41 _ rfl) okV_X12_go rfl rfl (om_go (d := 1999) (by decide)) rfl rfl (by decide) (by decide) (by decide) (by first | decide | exact Nat.le_of_ble_eq_true rfl) (pm_ki (fun v σ' cnt' hq => ?_))
  obtain rfl := hq
  refine pm_icmp_eq (tgt := 2105) hG dL_law_461 rfl (fun _ => ?_) (fun q => absurd rfl q)
  exact law_tail hG hs hE (Nat.le_of_ble_eq_true rfl) (Nat.le_of_ble_eq_true rfl)

set_option maxRecDepth 100000 in
set_option maxHeartbeats 4000000 in
theorem law_about {nm : String} {G : pm_G} {B b : Nat} {xs : Nat → Int32} {fw : Nat → Int32} (hG : pm_ok (mL_law nm) G B) (hR : pm_rm G 2000 600000 7302250) (hs : pm_scr G B b 6 xs) (hE : pm_lend nm G B) : pm_wp (mL_law nm) G B 466 [some (.ref b), some (.ref (B + 0)), some (.ref (B + 54)), some (.int 0)] [] 74 7345 74 (pm_cat (pm_ofL (l_k_class B fw)) 54 (l_k_model B)) := by
  refine pm_aloadn hG dL_law_466 rfl ?_
  refine pm_aloadn hG dL_law_467 rfl ?_
  refine pm_iloadn hG dL_law_468 rfl ?_
  refine pm_iconst (v := 1) hG dL_law_469 (by decide) ?_
  refine pm_iadd hG dL_law_470 ?_
  refine pm_top (v := 1) (by decide) ?_
  refine pm_sld hG hs dL_law_471 (pm_inb (by decide)) ?_
  refine pm_aloadn hG dL_law_472 rfl ?_
  refine pm_iloadn hG dL_law_473 rfl ?_
  refine pm_iconst (v := 2) hG dL_law_474 (by decide) ?_
  refine pm_iadd hG dL_law_475 ?_
  refine pm_top (v := 2) (by decide) ?_
  refine pm_sld hG hs dL_law_476 (pm_inb (by decide)) ?_
  refine pm_callV (As := [.int (xs (1 : Int32).toNatClampNeg), .int (xs (2 : Int32).toNatClampNeg)]) (rest := []) hG hR dL_law_477 (lkL_42 _ rfl) okV_X11_about rfl rfl (oc_about (R := l_k_model B) (d := 1999) (by decide)) rfl rfl (by decide) (by decide) (by decide) (by decide) (pm_ki (fun v σ' cnt' hq => ?_))
  obtain ⟨rfl, hl, rfl⟩ := hq
  refine pm_weak (pm_lies_sub hl) ?_
  refine pm_aloadn hG dL_law_480 rfl ?_
  refine pm_aloadn hG dL_law_481 rfl ?_
  refine pm_iloadn hG dL_law_482 rfl ?_
  refine pm_iconst (v := 1) hG dL_law_483 (by decide) ?_
  refine pm_iadd hG dL_law_484 ?_
  refine pm_top (v := 1) (by decide) ?_
  refine pm_sld hG hs dL_law_485 (pm_inb (by decide)) ?_
  refine pm_aloadn hG dL_law_486 rfl ?_
  refine pm_iloadn hG dL_law_487 rfl ?_
  refine pm_iconst (v := 2) hG dL_law_488 (by decide) ?_
  refine pm_iadd hG dL_law_489 ?_
  refine pm_top (v := 2) (by decide) ?_
  refine pm_sld hG hs dL_law_490 (pm_inb (by decide)) ?_
  refine pm_callV (As := [.int (xs (1 : Int32).toNatClampNeg), .int (xs (2 : Int32).toNatClampNeg)]) (rest := [.int (v_about (xs (1 : Int32).toNatClampNeg) (xs (2 : Int32).toNatClampNeg))]) hG hR dL_law_491 (lkL_45 _ rfl) okV_X12_about rfl rfl (om_about (d := 1999) (by decide)) rfl rfl (by decide) (by decide) (by decide) (by first | decide | exact Nat.le_of_ble_eq_true rfl) (pm_ki (fun v σ' cnt' hq => ?_))
  obtain rfl := hq
  refine pm_icmp_eq (tgt := 2105) hG dL_law_494 rfl (fun _ => ?_) (fun q => absurd rfl q)
  exact law_tail hG hs hE (Nat.le_of_ble_eq_true rfl) (Nat.le_of_ble_eq_true rfl)

set_option maxRecDepth 100000 in
set_option maxHeartbeats 4000000 in
theorem law_pay {nm : String} {G : pm_G} {B b : Nat} {xs : Nat → Int32} {fw : Nat → Int32} (hG : pm_ok (mL_law nm) G B) (hR : pm_rm G 2000 600000 7302250) (hs : pm_scr G B b 6 xs) (hE : pm_lend nm G B) : pm_wp (mL_law nm) G B 499 [some (.ref b), some (.ref (B + 0)), some (.ref (B + 54)), some (.int 0)] [] 74 7345 74 (pm_cat (pm_ofL (l_k_class B fw)) 54 (l_k_model B)) := by
  refine pm_aloadn hG dL_law_499 rfl ?_
  refine pm_aloadn hG dL_law_500 rfl ?_
  refine pm_iloadn hG dL_law_501 rfl ?_
  refine pm_iconst (v := 1) hG dL_law_502 (by decide) ?_
  refine pm_iadd hG dL_law_503 ?_
  refine pm_top (v := 1) (by decide) ?_
  refine pm_sld hG hs dL_law_504 (pm_inb (by decide)) ?_
  refine pm_aloadn hG dL_law_505 rfl ?_
  refine pm_iloadn hG dL_law_506 rfl ?_
  refine pm_iconst (v := 2) hG dL_law_507 (by decide) ?_
  refine pm_iadd hG dL_law_508 ?_
  refine pm_top (v := 2) (by decide) ?_
  refine pm_sld hG hs dL_law_509 (pm_inb (by decide)) ?_
  refine pm_callV (As := [.int (xs (1 : Int32).toNatClampNeg), .int (xs (2 : Int32).toNatClampNeg)]) (rest := []) hG hR dL_law_510 (lkL_46 _ rfl) okV_X11_pay rfl rfl (oc_pay (R := l_k_model B) (d := 1999) (by decide)) rfl rfl (by decide) (by decide) (by decide) (by decide) (pm_ki (fun v σ' cnt' hq => ?_))
  obtain ⟨rfl, hl, rfl⟩ := hq
  refine pm_weak (pm_lies_sub hl) ?_
  refine pm_aloadn hG dL_law_513 rfl ?_
  refine pm_aloadn hG dL_law_514 rfl ?_
  refine pm_iloadn hG dL_law_515 rfl ?_
  refine pm_iconst (v := 1) hG dL_law_516 (by decide) ?_
  refine pm_iadd hG dL_law_517 ?_
  refine pm_top (v := 1) (by decide) ?_
  refine pm_sld hG hs dL_law_518 (pm_inb (by decide)) ?_
  refine pm_aloadn hG dL_law_519 rfl ?_
  refine pm_iloadn hG dL_law_520 rfl ?_
  refine pm_iconst (v := 2) hG dL_law_521 (by decide) ?_
  refine pm_iadd hG dL_law_522 ?_
  refine pm_top (v := 2) (by decide) ?_
  refine pm_sld hG hs dL_law_523 (pm_inb (by decide)) ?_
  refine pm_callV (As := [.int (xs (1 : Int32).toNatClampNeg), .int (xs (2 : Int32).toNatClampNeg)]) (rest := [.int (v_pay (xs (1 : Int32).toNatClampNeg) (xs (2 : Int32).toNatClampNeg))]) hG hR dL_law_524 (lkL_49 _ rfl) okV_X12_pay rfl rfl (om_pay (d := 1999) (by decide)) rfl rfl (by decide) (by decide) (by decide) (by first | decide | exact Nat.le_of_ble_eq_true rfl) (pm_ki (fun v σ' cnt' hq => ?_))
  obtain rfl := hq
  refine pm_icmp_eq (tgt := 2105) hG dL_law_527 rfl (fun _ => ?_) (fun q => absurd rfl q)
  exact law_tail hG hs hE (Nat.le_of_ble_eq_true rfl) (Nat.le_of_ble_eq_true rfl)

set_option maxRecDepth 100000 in
set_option maxHeartbeats 4000000 in
theorem law_men {nm : String} {G : pm_G} {B b : Nat} {xs : Nat → Int32} {fw : Nat → Int32} (hG : pm_ok (mL_law nm) G B) (hR : pm_rm G 2000 600000 7302250) (hs : pm_scr G B b 6 xs) (hE : pm_lend nm G B) : pm_wp (mL_law nm) G B 532 [some (.ref b), some (.ref (B + 0)), some (.ref (B + 54)), some (.int 0)] [] 74 7345 74 (pm_cat (pm_ofL (l_k_class B fw)) 54 (l_k_model B)) := by
  refine pm_aloadn hG dL_law_532 rfl ?_
  refine pm_aloadn hG dL_law_533 rfl ?_
  refine pm_iloadn hG dL_law_534 rfl ?_
  refine pm_iconst (v := 1) hG dL_law_535 (by decide) ?_
  refine pm_iadd hG dL_law_536 ?_
  refine pm_top (v := 1) (by decide) ?_
  refine pm_sld hG hs dL_law_537 (pm_inb (by decide)) ?_
  refine pm_aloadn hG dL_law_538 rfl ?_
  refine pm_iloadn hG dL_law_539 rfl ?_
  refine pm_iconst (v := 2) hG dL_law_540 (by decide) ?_
  refine pm_iadd hG dL_law_541 ?_
  refine pm_top (v := 2) (by decide) ?_
  refine pm_sld hG hs dL_law_542 (pm_inb (by decide)) ?_
  refine pm_callV (As := [.int (xs (1 : Int32).toNatClampNeg), .int (xs (2 : Int32).toNatClampNeg)]) (rest := []) hG hR dL_law_543 (lkL_50 _ rfl) okV_X11_men rfl rfl (oc_men (R := l_k_model B) (d := 1999) (by decide)) rfl rfl (by decide) (by decide) (by decide) (by decide) (pm_ki (fun v σ' cnt' hq => ?_))
  obtain ⟨rfl, hl, rfl⟩ := hq
  refine pm_weak (pm_lies_sub hl) ?_
  refine pm_aloadn hG dL_law_546 rfl ?_
  refine pm_aloadn hG dL_law_547 rfl ?_
  refine pm_iloadn hG dL_law_548 rfl ?_
  refine pm_iconst (v := 1) hG dL_law_549 (by decide) ?_
  refine pm_iadd hG dL_law_550 ?_
  refine pm_top (v := 1) (by decide) ?_
  refine pm_sld hG hs dL_law_551 (pm_inb (by decide)) ?_
  refine pm_aloadn hG dL_law_552 rfl ?_
  refine pm_iloadn hG dL_law_553 rfl ?_
  refine pm_iconst (v := 2) hG dL_law_554 (by decide) ?_
  refine pm_iadd hG dL_law_555 ?_
  refine pm_top (v := 2) (by decide) ?_
  refine pm_sld hG hs dL_law_556 (pm_inb (by decide)) ?_
  refine pm_callV (As := [.int (xs (1 : Int32).toNatClampNeg), .int (xs (2 : Int32).toNatClampNeg)]) (rest := [.int (v_men (xs (1 : Int32).toNatClampNeg) (xs (2 : Int32).toNatClampNeg))]) hG hR dL_law_557 (lkL_53 _ rfl) okV_X12_men rfl rfl (om_men (d := 1999) (by decide)) rfl rfl (by decide) (by decide) (by decide) (by first | decide | exact Nat.le_of_ble_eq_true rfl) (pm_ki (fun v σ' cnt' hq => ?_))
  obtain rfl := hq
  refine pm_icmp_eq (tgt := 2105) hG dL_law_560 rfl (fun _ => ?_) (fun q => absurd rfl q)
  exact law_tail hG hs hE (Nat.le_of_ble_eq_true rfl) (Nat.le_of_ble_eq_true rfl)

set_option maxRecDepth 100000 in
set_option maxHeartbeats 4000000 in
theorem law_power {nm : String} {G : pm_G} {B b : Nat} {xs : Nat → Int32} {fw : Nat → Int32} (hG : pm_ok (mL_law nm) G B) (hR : pm_rm G 2000 600000 7302250) (hs : pm_scr G B b 6 xs) (hE : pm_lend nm G B) : pm_wp (mL_law nm) G B 565 [some (.ref b), some (.ref (B + 0)), some (.ref (B + 54)), some (.int 0)] [] 74 7345 74 (pm_cat (pm_ofL (l_k_class B fw)) 54 (l_k_model B)) := by
  refine pm_aloadn hG dL_law_565 rfl ?_
  refine pm_aloadn hG dL_law_566 rfl ?_
  refine pm_iloadn hG dL_law_567 rfl ?_
  refine pm_iconst (v := 1) hG dL_law_568 (by decide) ?_
  refine pm_iadd hG dL_law_569 ?_
  refine pm_top (v := 1) (by decide) ?_
  refine pm_sld hG hs dL_law_570 (pm_inb (by decide)) ?_
  refine pm_aloadn hG dL_law_571 rfl ?_
  refine pm_iloadn hG dL_law_572 rfl ?_
  refine pm_iconst (v := 2) hG dL_law_573 (by decide) ?_
  refine pm_iadd hG dL_law_574 ?_
  refine pm_top (v := 2) (by decide) ?_
  refine pm_sld hG hs dL_law_575 (pm_inb (by decide)) ?_
  refine pm_aloadn hG dL_law_576 rfl ?_
  refine pm_iloadn hG dL_law_577 rfl ?_
  refine pm_iconst (v := 3) hG dL_law_578 (by decide) ?_
  refine pm_iadd hG dL_law_579 ?_
  refine pm_top (v := 3) (by decide) ?_
  refine pm_sld hG hs dL_law_580 (pm_inb (by decide)) ?_
  refine pm_callV (As := [.int (xs (1 : Int32).toNatClampNeg), .int (xs (2 : Int32).toNatClampNeg), .int (xs (3 : Int32).toNatClampNeg)]) (rest := []) hG hR dL_law_581 (lkL_54 _ rfl) okV_X11_power rfl rfl (oc_power (R := l_k_model B) (d := 1999) (by decide)) rfl rfl (by decide) (by decide) (by decide) (by decide) (pm_ki (fun v σ' cnt' hq => ?_))
  obtain ⟨rfl, hl, rfl⟩ := hq
  refine pm_weak (pm_lies_sub hl) ?_
  refine pm_aloadn hG dL_law_584 rfl ?_
  refine pm_aloadn hG dL_law_585 rfl ?_
  refine pm_iloadn hG dL_law_586 rfl ?_
  refine pm_iconst (v := 1) hG dL_law_587 (by decide) ?_
  refine pm_iadd hG dL_law_588 ?_
  refine pm_top (v := 1) (by decide) ?_
  refine pm_sld hG hs dL_law_589 (pm_inb (by decide)) ?_
  refine pm_aloadn hG dL_law_590 rfl ?_
  refine pm_iloadn hG dL_law_591 rfl ?_
  refine pm_iconst (v := 2) hG dL_law_592 (by decide) ?_
  refine pm_iadd hG dL_law_593 ?_
  refine pm_top (v := 2) (by decide) ?_
  refine pm_sld hG hs dL_law_594 (pm_inb (by decide)) ?_
  refine pm_aloadn hG dL_law_595 rfl ?_
  refine pm_iloadn hG dL_law_596 rfl ?_
  refine pm_iconst (v := 3) hG dL_law_597 (by decide) ?_
  refine pm_iadd hG dL_law_598 ?_
  refine pm_top (v := 3) (by decide) ?_
  refine pm_sld hG hs dL_law_599 (pm_inb (by decide)) ?_
  refine pm_callV (As := [.int (xs (1 : Int32).toNatClampNeg), .int (xs (2 : Int32).toNatClampNeg), .int (xs (3 : Int32).toNatClampNeg)]) (rest := [.int (v_power (xs (1 : Int32).toNatClampNeg) (xs (2 : Int32).toNatClampNeg) (xs (3 : Int32).toNatClampNeg))]) hG hR dL_law_600 (lkL_57 _ rfl) okV_X12_power rfl rfl (om_power (d := 1999) (by decide)) rfl rfl (by decide) (by decide) (by decide) (by first | decide | exact Nat.le_of_ble_eq_true rfl) (pm_ki (fun v σ' cnt' hq => ?_))
  obtain rfl := hq
  refine pm_icmp_eq (tgt := 2105) hG dL_law_603 rfl (fun _ => ?_) (fun q => absurd rfl q)
  exact law_tail hG hs hE (Nat.le_of_ble_eq_true rfl) (Nat.le_of_ble_eq_true rfl)

set_option maxRecDepth 100000 in
set_option maxHeartbeats 4000000 in
theorem law_as {nm : String} {G : pm_G} {B b : Nat} {xs : Nat → Int32} {fw : Nat → Int32} (hG : pm_ok (mL_law nm) G B) (hR : pm_rm G 2000 600000 7302250) (hs : pm_scr G B b 6 xs) (hE : pm_lend nm G B) : pm_wp (mL_law nm) G B 608 [some (.ref b), some (.ref (B + 0)), some (.ref (B + 54)), some (.int 0)] [] 74 7345 74 (pm_cat (pm_ofL (l_k_class B fw)) 54 (l_k_model B)) := by
  refine pm_aloadn hG dL_law_608 rfl ?_
  refine pm_aloadn hG dL_law_609 rfl ?_
  refine pm_iloadn hG dL_law_610 rfl ?_
  refine pm_iconst (v := 1) hG dL_law_611 (by decide) ?_
  refine pm_iadd hG dL_law_612 ?_
  refine pm_top (v := 1) (by decide) ?_
  refine pm_sld hG hs dL_law_613 (pm_inb (by decide)) ?_
  refine pm_aloadn hG dL_law_614 rfl ?_
  refine pm_iloadn hG dL_law_615 rfl ?_
  refine pm_iconst (v := 2) hG dL_law_616 (by decide) ?_
  refine pm_iadd hG dL_law_617 ?_
  refine pm_top (v := 2) (by decide) ?_
  refine pm_sld hG hs dL_law_618 (pm_inb (by decide)) ?_
  refine pm_callV (As := [.int (xs (1 : Int32).toNatClampNeg), .int (xs (2 : Int32).toNatClampNeg)]) (rest := []) hG hR dL_law_619 (lkL_58 _ rfl) okV_X11_as rfl rfl (oc_as (R := l_k_model B) (d := 1999) (by decide)) rfl rfl (by decide) (by decide) (by decide) (by decide) (pm_ki (fun v σ' cnt' hq => ?_))
  obtain ⟨rfl, hl, rfl⟩ := hq
  refine pm_weak (pm_lies_sub hl) ?_
  refine pm_aloadn hG dL_law_622 rfl ?_
  refine pm_aloadn hG dL_law_623 rfl ?_
  refine pm_iloadn hG dL_law_624 rfl ?_
  refine pm_iconst (v := 1) hG dL_law_625 (by decide) ?_
  refine pm_iadd hG dL_law_626 ?_
  refine pm_top (v := 1) (by decide) ?_
  refine pm_sld hG hs dL_law_627 (pm_inb (by decide)) ?_
  refine pm_aloadn hG dL_law_628 rfl ?_
  refine pm_iloadn hG dL_law_629 rfl ?_
  refine pm_iconst (v := 2) hG dL_law_630 (by decide) ?_
  refine pm_iadd hG dL_law_631 ?_
  refine pm_top (v := 2) (by decide) ?_
  refine pm_sld hG hs dL_law_632 (pm_inb (by decide)) ?_
  refine pm_callV (As := [.int (xs (1 : Int32).toNatClampNeg), .int (xs (2 : Int32).toNatClampNeg)]) (rest := [.int (v_as (xs (1 : Int32).toNatClampNeg) (xs (2 : Int32).toNatClampNeg))]) hG hR dL_law_633 (lkL_61 _ rfl) okV_X12_as rfl rfl (om_as (d := 1999) (by decide)) rfl rfl (by decide) (by decide) (by decide) (by first | decide | exact Nat.le_of_ble_eq_true rfl) (pm_ki (fun v σ' cnt' hq => ?_))
  obtain rfl := hq
  refine pm_icmp_eq (tgt := 2105) hG dL_law_636 rfl (fun _ => ?_) (fun q => absurd rfl q)
  exact law_tail hG hs hE (Nat.le_of_ble_eq_true rfl) (Nat.le_of_ble_eq_true rfl)

set_option maxRecDepth 100000 in
set_option maxHeartbeats 4000000 in
theorem law_held {nm : String} {G : pm_G} {B b : Nat} {xs : Nat → Int32} {fw : Nat → Int32} (hG : pm_ok (mL_law nm) G B) (hR : pm_rm G 2000 600000 7302250) (hs : pm_scr G B b 6 xs) (hE : pm_lend nm G B) : pm_wp (mL_law nm) G B 641 [some (.ref b), some (.ref (B + 0)), some (.ref (B + 54)), some (.int 0)] [] 74 7345 74 (pm_cat (pm_ofL (l_k_class B fw)) 54 (l_k_model B)) := by
  refine pm_aloadn hG dL_law_641 rfl ?_
  refine pm_aloadn hG dL_law_642 rfl ?_
  refine pm_iloadn hG dL_law_643 rfl ?_
  refine pm_iconst (v := 1) hG dL_law_644 (by decide) ?_
  refine pm_iadd hG dL_law_645 ?_
  refine pm_top (v := 1) (by decide) ?_
  refine pm_sld hG hs dL_law_646 (pm_inb (by decide)) ?_
  refine pm_aloadn hG dL_law_647 rfl ?_
  refine pm_iloadn hG dL_law_648 rfl ?_
  refine pm_iconst (v := 2) hG dL_law_649 (by decide) ?_
  refine pm_iadd hG dL_law_650 ?_
  refine pm_top (v := 2) (by decide) ?_
  refine pm_sld hG hs dL_law_651 (pm_inb (by decide)) ?_
  refine pm_callV (As := [.int (xs (1 : Int32).toNatClampNeg), .int (xs (2 : Int32).toNatClampNeg)]) (rest := []) hG hR dL_law_652 (lkL_62 _ rfl) okV_X11_held rfl rfl (oc_held (R := l_k_model B) (d := 1999) (by decide)) rfl rfl (by decide) (by decide) (by decide) (by decide) (pm_ki (fun v σ' cnt' hq => ?_))
  obtain ⟨rfl, hl, rfl⟩ := hq
  refine pm_weak (pm_lies_sub hl) ?_
  refine pm_aloadn hG dL_law_655 rfl ?_
  refine pm_aloadn hG dL_law_656 rfl ?_
  refine pm_iloadn hG dL_law_657 rfl ?_
  refine pm_iconst (v := 1) hG dL_law_658 (by decide) ?_
  refine pm_iadd hG dL_law_659 ?_
  refine pm_top (v := 1) (by decide) ?_
  refine pm_sld hG hs dL_law_660 (pm_inb (by decide)) ?_
  refine pm_aloadn hG dL_law_661 rfl ?_
  refine pm_iloadn hG dL_law_662 rfl ?_
  refine pm_iconst (v := 2) hG dL_law_663 (by decide) ?_
  refine pm_iadd hG dL_law_664 ?_
  refine pm_top (v := 2) (by decide) ?_
  refine pm_sld hG hs dL_law_665 (pm_inb (by decide)) ?_
  refine pm_callV (As := [.int (xs (1 : Int32).toNatClampNeg), .int (xs (2 : Int32).toNatClampNeg)]) (rest := [.int (v_held (xs (1 : Int32).toNatClampNeg) (xs (2 : Int32).toNatClampNeg))]) hG hR dL_law_666 (lkL_65 _ rfl) okV_X12_held rfl rfl (om_held (d := 1999) (by decide)) rfl rfl (by decide) (by decide) (by decide) (by first | decide | exact Nat.le_of_ble_eq_true rfl) (pm_ki (fun v σ' cnt' hq => ?_))
  obtain rfl := hq
  refine pm_icmp_eq (tgt := 2105) hG dL_law_669 rfl (fun _ => ?_) (fun q => absurd rfl q)
  exact law_tail hG hs hE (Nat.le_of_ble_eq_true rfl) (Nat.le_of_ble_eq_true rfl)

set_option maxRecDepth 100000 in
set_option maxHeartbeats 4000000 in
theorem law_give {nm : String} {G : pm_G} {B b : Nat} {xs : Nat → Int32} {fw : Nat → Int32} (hG : pm_ok (mL_law nm) G B) (hR : pm_rm G 2000 600000 7302250) (hs : pm_scr G B b 6 xs) (hE : pm_lend nm G B) : pm_wp (mL_law nm) G B 674 [some (.ref b), some (.ref (B + 0)), some (.ref (B + 54)), some (.int 0)] [] 74 7345 74 (pm_cat (pm_ofL (l_k_class B fw)) 54 (l_k_model B)) := by
  refine pm_aloadn hG dL_law_674 rfl ?_
  refine pm_aloadn hG dL_law_675 rfl ?_
  refine pm_iloadn hG dL_law_676 rfl ?_
  refine pm_iconst (v := 1) hG dL_law_677 (by decide) ?_
  refine pm_iadd hG dL_law_678 ?_
  refine pm_top (v := 1) (by decide) ?_
  refine pm_sld hG hs dL_law_679 (pm_inb (by decide)) ?_
  refine pm_aloadn hG dL_law_680 rfl ?_
  refine pm_iloadn hG dL_law_681 rfl ?_
  refine pm_iconst (v := 2) hG dL_law_682 (by decide) ?_
  refine pm_iadd hG dL_law_683 ?_
  refine pm_top (v := 2) (by decide) ?_
  refine pm_sld hG hs dL_law_684 (pm_inb (by decide)) ?_
  refine pm_callV (As := [.int (xs (1 : Int32).toNatClampNeg), .int (xs (2 : Int32).toNatClampNeg)]) (rest := []) hG hR dL_law_685 (lkL_66 _ rfl) okV_X11_give rfl rfl (oc_give (R := l_k_model B) (d := 1999) (by decide)) rfl rfl (by decide) (by decide) (by decide) (by decide) (pm_ki (fun v σ' cnt' hq => ?_))
  obtain ⟨rfl, hl, rfl⟩ := hq
  refine pm_weak (pm_lies_sub hl) ?_
  refine pm_aloadn hG dL_law_688 rfl ?_
  refine pm_aloadn hG dL_law_689 rfl ?_
  refine pm_iloadn hG dL_law_690 rfl ?_
  refine pm_iconst (v := 1) hG dL_law_691 (by decide) ?_
  refine pm_iadd hG dL_law_692 ?_
  refine pm_top (v := 1) (by decide) ?_
  refine pm_sld hG hs dL_law_693 (pm_inb (by decide)) ?_
  refine pm_aloadn hG dL_law_694 rfl ?_
  refine pm_iloadn hG dL_law_695 rfl ?_
  refine pm_iconst (v := 2) hG dL_law_696 (by decide) ?_
  refine pm_iadd hG dL_law_697 ?_
  refine pm_top (v := 2) (by decide) ?_
  refine pm_sld hG hs dL_law_698 (pm_inb (by decide)) ?_
  refine pm_callV (As := [.int (xs (1 : Int32).toNatClampNeg), .int (xs (2 : Int32).toNatClampNeg)]) (rest := [.int (v_give (xs (1 : Int32).toNatClampNeg) (xs (2 : Int32).toNatClampNeg))]) hG hR dL_law_699 (lkL_69 _ rfl) okV_X12_give rfl rfl (om_give (d := 1999) (by decide)) rfl rfl (by decide) (by decide) (by decide) (by first | decide | exact Nat.le_of_ble_eq_true rfl) (pm_ki (fun v σ' cnt' hq => ?_))
  obtain rfl := hq
  refine pm_icmp_eq (tgt := 2105) hG dL_law_702 rfl (fun _ => ?_) (fun q => absurd rfl q)
  exact law_tail hG hs hE (Nat.le_of_ble_eq_true rfl) (Nat.le_of_ble_eq_true rfl)

set_option maxRecDepth 100000 in
set_option maxHeartbeats 4000000 in
theorem law_lend {nm : String} {G : pm_G} {B b : Nat} {xs : Nat → Int32} {fw : Nat → Int32} (hG : pm_ok (mL_law nm) G B) (hR : pm_rm G 2000 600000 7302250) (hs : pm_scr G B b 6 xs) (hE : pm_lend nm G B) : pm_wp (mL_law nm) G B 707 [some (.ref b), some (.ref (B + 0)), some (.ref (B + 54)), some (.int 0)] [] 74 7345 74 (pm_cat (pm_ofL (l_k_class B fw)) 54 (l_k_model B)) := by
  refine pm_aloadn hG dL_law_707 rfl ?_
  refine pm_aloadn hG dL_law_708 rfl ?_
  refine pm_iloadn hG dL_law_709 rfl ?_
  refine pm_iconst (v := 1) hG dL_law_710 (by decide) ?_
  refine pm_iadd hG dL_law_711 ?_
  refine pm_top (v := 1) (by decide) ?_
  refine pm_sld hG hs dL_law_712 (pm_inb (by decide)) ?_
  refine pm_aloadn hG dL_law_713 rfl ?_
  refine pm_iloadn hG dL_law_714 rfl ?_
  refine pm_iconst (v := 2) hG dL_law_715 (by decide) ?_
  refine pm_iadd hG dL_law_716 ?_
  refine pm_top (v := 2) (by decide) ?_
  refine pm_sld hG hs dL_law_717 (pm_inb (by decide)) ?_
  refine pm_aloadn hG dL_law_718 rfl ?_
  refine pm_iloadn hG dL_law_719 rfl ?_
  refine pm_iconst (v := 3) hG dL_law_720 (by decide) ?_
  refine pm_iadd hG dL_law_721 ?_
  refine pm_top (v := 3) (by decide) ?_
  refine pm_sld hG hs dL_law_722 (pm_inb (by decide)) ?_
  refine pm_callV (As := [.int (xs (1 : Int32).toNatClampNeg), .int (xs (2 : Int32).toNatClampNeg), .int (xs (3 : Int32).toNatClampNeg)]) (rest := []) hG hR dL_law_723 (lkL_70 _ rfl) okV_X11_lend rfl rfl (oc_lend (R := l_k_model B) (d := 1999) (by decide)) rfl rfl (by decide) (by decide) (by decide) (by decide) (pm_ki (fun v σ' cnt' hq => ?_))
  obtain ⟨rfl, hl, rfl⟩ := hq
  refine pm_weak (pm_lies_sub hl) ?_
  refine pm_aloadn hG dL_law_726 rfl ?_
  refine pm_aloadn hG dL_law_727 rfl ?_
  refine pm_iloadn hG dL_law_728 rfl ?_
  refine pm_iconst (v := 1) hG dL_law_729 (by decide) ?_
  refine pm_iadd hG dL_law_730 ?_
  refine pm_top (v := 1) (by decide) ?_
  refine pm_sld hG hs dL_law_731 (pm_inb (by decide)) ?_
  refine pm_aloadn hG dL_law_732 rfl ?_
  refine pm_iloadn hG dL_law_733 rfl ?_
  refine pm_iconst (v := 2) hG dL_law_734 (by decide) ?_
  refine pm_iadd hG dL_law_735 ?_
  refine pm_top (v := 2) (by decide) ?_
  refine pm_sld hG hs dL_law_736 (pm_inb (by decide)) ?_
  refine pm_aloadn hG dL_law_737 rfl ?_
  refine pm_iloadn hG dL_law_738 rfl ?_
  refine pm_iconst (v := 3) hG dL_law_739 (by decide) ?_
  refine pm_iadd hG dL_law_740 ?_
  refine pm_top (v := 3) (by decide) ?_
  refine pm_sld hG hs dL_law_741 (pm_inb (by decide)) ?_
  refine pm_callV (As := [.int (xs (1 : Int32).toNatClampNeg), .int (xs (2 : Int32).toNatClampNeg), .int (xs (3 : Int32).toNatClampNeg)]) (rest := [.int (v_lend (xs (1 : Int32).toNatClampNeg) (xs (2 : Int32).toNatClampNeg) (xs (3 : Int32).toNatClampNeg))]) hG hR dL_law_742 (lkL_73 _ rfl) okV_X12_lend rfl rfl (om_lend (d := 1999) (by decide)) rfl rfl (by decide) (by decide) (by decide) (by first | decide | exact Nat.le_of_ble_eq_true rfl) (pm_ki (fun v σ' cnt' hq => ?_))
  obtain rfl := hq
  refine pm_icmp_eq (tgt := 2105) hG dL_law_745 rfl (fun _ => ?_) (fun q => absurd rfl q)
  exact law_tail hG hs hE (Nat.le_of_ble_eq_true rfl) (Nat.le_of_ble_eq_true rfl)

set_option maxRecDepth 100000 in
set_option maxHeartbeats 4000000 in
theorem law_copy {nm : String} {G : pm_G} {B b : Nat} {xs : Nat → Int32} {fw : Nat → Int32} (hG : pm_ok (mL_law nm) G B) (hR : pm_rm G 2000 600000 7302250) (hs : pm_scr G B b 6 xs) (hE : pm_lend nm G B) : pm_wp (mL_law nm) G B 750 [some (.ref b), some (.ref (B + 0)), some (.ref (B + 54)), some (.int 0)] [] 74 7345 74 (pm_cat (pm_ofL (l_k_class B fw)) 54 (l_k_model B)) := by
  refine pm_aloadn hG dL_law_750 rfl ?_
  refine pm_aloadn hG dL_law_751 rfl ?_
  refine pm_iloadn hG dL_law_752 rfl ?_
  refine pm_iconst (v := 1) hG dL_law_753 (by decide) ?_
  refine pm_iadd hG dL_law_754 ?_
  refine pm_top (v := 1) (by decide) ?_
  refine pm_sld hG hs dL_law_755 (pm_inb (by decide)) ?_
  refine pm_callV (As := [.int (xs (1 : Int32).toNatClampNeg)]) (rest := []) hG hR dL_law_756 (lkL_74 _ rfl) okV_X11_copy rfl rfl (oc_copy (R := l_k_model B) (d := 1999) (by decide)) rfl rfl (by decide) (by decide) (by decide) (by decide) (pm_ki (fun v σ' cnt' hq => ?_))
  obtain ⟨rfl, hl, rfl⟩ := hq
  refine pm_weak (pm_lies_sub hl) ?_
  refine pm_aloadn hG dL_law_759 rfl ?_
  refine pm_aloadn hG dL_law_760 rfl ?_
  refine pm_iloadn hG dL_law_761 rfl ?_
  refine pm_iconst (v := 1) hG dL_law_762 (by decide) ?_
  refine pm_iadd hG dL_law_763 ?_
  refine pm_top (v := 1) (by decide) ?_
  refine pm_sld hG hs dL_law_764 (pm_inb (by decide)) ?_
  refine pm_callV (As := [.int (xs (1 : Int32).toNatClampNeg)]) (rest := [.int (v_copy (xs (1 : Int32).toNatClampNeg))]) hG hR dL_law_765 (lkL_77 _ rfl) okV_X12_copy rfl rfl (om_copy (d := 1999) (by decide)) rfl rfl (by decide) (by decide) (by decide) (by first | decide | exact Nat.le_of_ble_eq_true rfl) (pm_ki (fun v σ' cnt' hq => ?_))
  obtain rfl := hq
  refine pm_icmp_eq (tgt := 2105) hG dL_law_768 rfl (fun _ => ?_) (fun q => absurd rfl q)
  exact law_tail hG hs hE (Nat.le_of_ble_eq_true rfl) (Nat.le_of_ble_eq_true rfl)

set_option maxRecDepth 100000 in
set_option maxHeartbeats 4000000 in
theorem law_feed {nm : String} {G : pm_G} {B b : Nat} {xs : Nat → Int32} {fw : Nat → Int32} (hG : pm_ok (mL_law nm) G B) (hR : pm_rm G 2000 600000 7302250) (hs : pm_scr G B b 6 xs) (hE : pm_lend nm G B) : pm_wp (mL_law nm) G B 773 [some (.ref b), some (.ref (B + 0)), some (.ref (B + 54)), some (.int 0)] [] 74 7345 74 (pm_cat (pm_ofL (l_k_class B fw)) 54 (l_k_model B)) := by
  refine pm_aloadn hG dL_law_773 rfl ?_
  refine pm_aloadn hG dL_law_774 rfl ?_
  refine pm_iloadn hG dL_law_775 rfl ?_
  refine pm_iconst (v := 1) hG dL_law_776 (by decide) ?_
  refine pm_iadd hG dL_law_777 ?_
  refine pm_top (v := 1) (by decide) ?_
  refine pm_sld hG hs dL_law_778 (pm_inb (by decide)) ?_
  refine pm_i2l hG dL_law_779 rfl ?_
  refine pm_bipush (v := 32) hG dL_law_780 (by decide) ?_
  refine pm_lshl hG dL_law_782 rfl ?_
  refine pm_aloadn hG dL_law_783 rfl ?_
  refine pm_iloadn hG dL_law_784 rfl ?_
  refine pm_iconst (v := 2) hG dL_law_785 (by decide) ?_
  refine pm_iadd hG dL_law_786 ?_
  refine pm_top (v := 2) (by decide) ?_
  refine pm_sld hG hs dL_law_787 (pm_inb (by decide)) ?_
  refine pm_i2l hG dL_law_788 rfl ?_
  refine pm_ldc2 hG dL_law_789 (ctL_78 _ rfl) ?_
  refine pm_land hG dL_law_792 ?_
  refine pm_lor hG dL_law_793 ?_
  refine pm_aloadn hG dL_law_794 rfl ?_
  refine pm_iloadn hG dL_law_795 rfl ?_
  refine pm_iconst (v := 3) hG dL_law_796 (by decide) ?_
  refine pm_iadd hG dL_law_797 ?_
  refine pm_top (v := 3) (by decide) ?_
  refine pm_sld hG hs dL_law_798 (pm_inb (by decide)) ?_
  refine pm_callV (As := [.long _, .int (xs (3 : Int32).toNatClampNeg)]) (rest := []) hG hR dL_law_799 (lkL_80 _ rfl) okV_X11_feed rfl rfl (oc_feed (R := l_k_model B) (d := 1999) (by decide)) rfl rfl (by decide) (by decide) (by decide) (by decide) (pm_ki (fun v σ' cnt' hq => ?_))
  obtain ⟨rfl, hl, rfl⟩ := hq
  refine pm_weak (pm_lies_sub hl) ?_
  refine pm_aloadn hG dL_law_802 rfl ?_
  refine pm_aloadn hG dL_law_803 rfl ?_
  refine pm_iloadn hG dL_law_804 rfl ?_
  refine pm_iconst (v := 1) hG dL_law_805 (by decide) ?_
  refine pm_iadd hG dL_law_806 ?_
  refine pm_top (v := 1) (by decide) ?_
  refine pm_sld hG hs dL_law_807 (pm_inb (by decide)) ?_
  refine pm_i2l hG dL_law_808 rfl ?_
  refine pm_bipush (v := 32) hG dL_law_809 (by decide) ?_
  refine pm_lshl hG dL_law_811 rfl ?_
  refine pm_aloadn hG dL_law_812 rfl ?_
  refine pm_iloadn hG dL_law_813 rfl ?_
  refine pm_iconst (v := 2) hG dL_law_814 (by decide) ?_
  refine pm_iadd hG dL_law_815 ?_
  refine pm_top (v := 2) (by decide) ?_
  refine pm_sld hG hs dL_law_816 (pm_inb (by decide)) ?_
  refine pm_i2l hG dL_law_817 rfl ?_
  refine pm_ldc2 hG dL_law_818 (ctL_78 _ rfl) ?_
  refine pm_land hG dL_law_821 ?_
  refine pm_lor hG dL_law_822 ?_
  refine pm_aloadn hG dL_law_823 rfl ?_
  refine pm_iloadn hG dL_law_824 rfl ?_
  refine pm_iconst (v := 3) hG dL_law_825 (by decide) ?_
  refine pm_iadd hG dL_law_826 ?_
  refine pm_top (v := 3) (by decide) ?_
  refine pm_sld hG hs dL_law_827 (pm_inb (by decide)) ?_
  refine pm_callV (As := [.long _, .int (xs (3 : Int32).toNatClampNeg)]) (rest := [.int (v_feed (xs (3 : Int32).toNatClampNeg))]) hG hR dL_law_828 (lkL_84 _ rfl) okV_X12_feed rfl rfl (om_feed (d := 1999) (by decide)) rfl rfl (by decide) (by decide) (by decide) (by first | decide | exact Nat.le_of_ble_eq_true rfl) (pm_ki (fun v σ' cnt' hq => ?_))
  obtain rfl := hq
  refine pm_icmp_eq (tgt := 2105) hG dL_law_831 rfl (fun _ => ?_) (fun q => absurd rfl q)
  exact law_tail hG hs hE (Nat.le_of_ble_eq_true rfl) (Nat.le_of_ble_eq_true rfl)

set_option maxRecDepth 100000 in
set_option maxHeartbeats 4000000 in
theorem law_law {nm : String} {G : pm_G} {B b : Nat} {xs : Nat → Int32} {fw : Nat → Int32} (hG : pm_ok (mL_law nm) G B) (hR : pm_rm G 2000 600000 7302250) (hs : pm_scr G B b 6 xs) (hE : pm_lend nm G B) : pm_wp (mL_law nm) G B 836 [some (.ref b), some (.ref (B + 0)), some (.ref (B + 54)), some (.int 0)] [] 74 7345 74 (pm_cat (pm_ofL (l_k_class B fw)) 54 (l_k_model B)) := by
  refine pm_aloadn hG dL_law_836 rfl ?_
  refine pm_aloadn hG dL_law_837 rfl ?_
  refine pm_iloadn hG dL_law_838 rfl ?_
  refine pm_iconst (v := 1) hG dL_law_839 (by decide) ?_
  refine pm_iadd hG dL_law_840 ?_
  refine pm_top (v := 1) (by decide) ?_
  refine pm_sld hG hs dL_law_841 (pm_inb (by decide)) ?_
  refine pm_aloadn hG dL_law_842 rfl ?_
  refine pm_iloadn hG dL_law_843 rfl ?_
  refine pm_iconst (v := 2) hG dL_law_844 (by decide) ?_
  refine pm_iadd hG dL_law_845 ?_
  refine pm_top (v := 2) (by decide) ?_
  refine pm_sld hG hs dL_law_846 (pm_inb (by decide)) ?_
  refine pm_callV (As := [.int (xs (1 : Int32).toNatClampNeg), .int (xs (2 : Int32).toNatClampNeg)]) (rest := []) hG hR dL_law_847 (lkL_85 _ rfl) okV_X11_law rfl rfl (oc_law (R := l_k_model B) (d := 1999) (by decide)) rfl rfl (by decide) (by decide) (by decide) (by decide) (pm_ki (fun v σ' cnt' hq => ?_))
  obtain ⟨rfl, hl, rfl⟩ := hq
  refine pm_weak (pm_lies_sub hl) ?_
  refine pm_aloadn hG dL_law_850 rfl ?_
  refine pm_aloadn hG dL_law_851 rfl ?_
  refine pm_iloadn hG dL_law_852 rfl ?_
  refine pm_iconst (v := 1) hG dL_law_853 (by decide) ?_
  refine pm_iadd hG dL_law_854 ?_
  refine pm_top (v := 1) (by decide) ?_
  refine pm_sld hG hs dL_law_855 (pm_inb (by decide)) ?_
  refine pm_aloadn hG dL_law_856 rfl ?_
  refine pm_iloadn hG dL_law_857 rfl ?_
  refine pm_iconst (v := 2) hG dL_law_858 (by decide) ?_
  refine pm_iadd hG dL_law_859 ?_
  refine pm_top (v := 2) (by decide) ?_
  refine pm_sld hG hs dL_law_860 (pm_inb (by decide)) ?_
  refine pm_callV (As := [.int (xs (1 : Int32).toNatClampNeg), .int (xs (2 : Int32).toNatClampNeg)]) (rest := [.int (v_law (xs (1 : Int32).toNatClampNeg) (xs (2 : Int32).toNatClampNeg))]) hG hR dL_law_861 (lkL_88 _ rfl) okV_X12_law rfl rfl (om_law (d := 1999) (by decide)) rfl rfl (by decide) (by decide) (by decide) (by first | decide | exact Nat.le_of_ble_eq_true rfl) (pm_ki (fun v σ' cnt' hq => ?_))
  obtain rfl := hq
  refine pm_icmp_eq (tgt := 2105) hG dL_law_864 rfl (fun _ => ?_) (fun q => absurd rfl q)
  exact law_tail hG hs hE (Nat.le_of_ble_eq_true rfl) (Nat.le_of_ble_eq_true rfl)

set_option maxRecDepth 100000 in
set_option maxHeartbeats 4000000 in
theorem law_strike {nm : String} {G : pm_G} {B b : Nat} {xs : Nat → Int32} {fw : Nat → Int32} (hG : pm_ok (mL_law nm) G B) (hR : pm_rm G 2000 600000 7302250) (hs : pm_scr G B b 6 xs) (hE : pm_lend nm G B) : pm_wp (mL_law nm) G B 869 [some (.ref b), some (.ref (B + 0)), some (.ref (B + 54)), some (.int 0)] [] 74 7345 74 (pm_cat (pm_ofL (l_k_class B fw)) 54 (l_k_model B)) := by
  refine pm_aloadn hG dL_law_869 rfl ?_
  refine pm_aloadn hG dL_law_870 rfl ?_
  refine pm_iloadn hG dL_law_871 rfl ?_
  refine pm_iconst (v := 1) hG dL_law_872 (by decide) ?_
  refine pm_iadd hG dL_law_873 ?_
  refine pm_top (v := 1) (by decide) ?_
  refine pm_sld hG hs dL_law_874 (pm_inb (by decide)) ?_
  refine pm_callV (As := [.int (xs (1 : Int32).toNatClampNeg)]) (rest := []) hG hR dL_law_875 (lkL_89 _ rfl) okV_X11_strike rfl rfl (oc_strike (R := l_k_model B) (d := 1999) (by decide)) rfl rfl (by decide) (by decide) (by decide) (by decide) (pm_ki (fun v σ' cnt' hq => ?_))
  obtain ⟨rfl, hl, rfl⟩ := hq
  refine pm_weak (pm_lies_sub hl) ?_
  refine pm_aloadn hG dL_law_878 rfl ?_
  refine pm_aloadn hG dL_law_879 rfl ?_
  refine pm_iloadn hG dL_law_880 rfl ?_
  refine pm_iconst (v := 1) hG dL_law_881 (by decide) ?_
  refine pm_iadd hG dL_law_882 ?_
  refine pm_top (v := 1) (by decide) ?_
  refine pm_sld hG hs dL_law_883 (pm_inb (by decide)) ?_
  refine pm_callV (As := [.int (xs (1 : Int32).toNatClampNeg)]) (rest := [.int (v_strike (xs (1 : Int32).toNatClampNeg))]) hG hR dL_law_884 (lkL_92 _ rfl) okV_X12_strike rfl rfl (om_strike (d := 1999) (by decide)) rfl rfl (by decide) (by decide) (by decide) (by first | decide | exact Nat.le_of_ble_eq_true rfl) (pm_ki (fun v σ' cnt' hq => ?_))
  obtain rfl := hq
  refine pm_icmp_eq (tgt := 2105) hG dL_law_887 rfl (fun _ => ?_) (fun q => absurd rfl q)
  exact law_tail hG hs hE (Nat.le_of_ble_eq_true rfl) (Nat.le_of_ble_eq_true rfl)

set_option maxRecDepth 100000 in
set_option maxHeartbeats 4000000 in
theorem law_force {nm : String} {G : pm_G} {B b : Nat} {xs : Nat → Int32} {fw : Nat → Int32} (hG : pm_ok (mL_law nm) G B) (hR : pm_rm G 2000 600000 7302250) (hs : pm_scr G B b 6 xs) (hE : pm_lend nm G B) : pm_wp (mL_law nm) G B 892 [some (.ref b), some (.ref (B + 0)), some (.ref (B + 54)), some (.int 0)] [] 74 7345 74 (pm_cat (pm_ofL (l_k_class B fw)) 54 (l_k_model B)) := by
  refine pm_aloadn hG dL_law_892 rfl ?_
  refine pm_aloadn hG dL_law_893 rfl ?_
  refine pm_iloadn hG dL_law_894 rfl ?_
  refine pm_iconst (v := 1) hG dL_law_895 (by decide) ?_
  refine pm_iadd hG dL_law_896 ?_
  refine pm_top (v := 1) (by decide) ?_
  refine pm_sld hG hs dL_law_897 (pm_inb (by decide)) ?_
  refine pm_aloadn hG dL_law_898 rfl ?_
  refine pm_iloadn hG dL_law_899 rfl ?_
  refine pm_iconst (v := 2) hG dL_law_900 (by decide) ?_
  refine pm_iadd hG dL_law_901 ?_
  refine pm_top (v := 2) (by decide) ?_
  refine pm_sld hG hs dL_law_902 (pm_inb (by decide)) ?_
  refine pm_aloadn hG dL_law_903 rfl ?_
  refine pm_iloadn hG dL_law_904 rfl ?_
  refine pm_iconst (v := 3) hG dL_law_905 (by decide) ?_
  refine pm_iadd hG dL_law_906 ?_
  refine pm_top (v := 3) (by decide) ?_
  refine pm_sld hG hs dL_law_907 (pm_inb (by decide)) ?_
  refine pm_callV (As := [.int (xs (1 : Int32).toNatClampNeg), .int (xs (2 : Int32).toNatClampNeg), .int (xs (3 : Int32).toNatClampNeg)]) (rest := []) hG hR dL_law_908 (lkL_93 _ rfl) okV_X11_force rfl rfl (oc_force (R := l_k_model B) (d := 1999) (by decide)) rfl rfl (by decide) (by decide) (by decide) (by decide) (pm_ki (fun v σ' cnt' hq => ?_))
  obtain ⟨rfl, hl, rfl⟩ := hq
  refine pm_weak (pm_lies_sub hl) ?_
  refine pm_aloadn hG dL_law_911 rfl ?_
  refine pm_aloadn hG dL_law_912 rfl ?_
  refine pm_iloadn hG dL_law_913 rfl ?_
  refine pm_iconst (v := 1) hG dL_law_914 (by decide) ?_
  refine pm_iadd hG dL_law_915 ?_
  refine pm_top (v := 1) (by decide) ?_
  refine pm_sld hG hs dL_law_916 (pm_inb (by decide)) ?_
  refine pm_aloadn hG dL_law_917 rfl ?_
  refine pm_iloadn hG dL_law_918 rfl ?_
  refine pm_iconst (v := 2) hG dL_law_919 (by decide) ?_
  refine pm_iadd hG dL_law_920 ?_
  refine pm_top (v := 2) (by decide) ?_
  refine pm_sld hG hs dL_law_921 (pm_inb (by decide)) ?_
  refine pm_aloadn hG dL_law_922 rfl ?_
  refine pm_iloadn hG dL_law_923 rfl ?_
  refine pm_iconst (v := 3) hG dL_law_924 (by decide) ?_
  refine pm_iadd hG dL_law_925 ?_
  refine pm_top (v := 3) (by decide) ?_
  refine pm_sld hG hs dL_law_926 (pm_inb (by decide)) ?_
  refine pm_callV (As := [.int (xs (1 : Int32).toNatClampNeg), .int (xs (2 : Int32).toNatClampNeg), .int (xs (3 : Int32).toNatClampNeg)]) (rest := [.int (v_force (xs (1 : Int32).toNatClampNeg) (xs (2 : Int32).toNatClampNeg) (xs (3 : Int32).toNatClampNeg))]) hG hR dL_law_927 (lkL_96 _ rfl) okV_X12_force rfl rfl (om_force (d := 1999) (by decide)) rfl rfl (by decide) (by decide) (by decide) (by first | decide | exact Nat.le_of_ble_eq_true rfl) (pm_ki (fun v σ' cnt' hq => ?_))
  obtain rfl := hq
  refine pm_icmp_eq (tgt := 2105) hG dL_law_930 rfl (fun _ => ?_) (fun q => absurd rfl q)
  exact law_tail hG hs hE (Nat.le_of_ble_eq_true rfl) (Nat.le_of_ble_eq_true rfl)

set_option maxRecDepth 100000 in
set_option maxHeartbeats 4000000 in
theorem law_says {nm : String} {G : pm_G} {B b : Nat} {xs : Nat → Int32} {fw : Nat → Int32} (hG : pm_ok (mL_law nm) G B) (hR : pm_rm G 2000 600000 7302250) (hs : pm_scr G B b 6 xs) (hE : pm_lend nm G B) : pm_wp (mL_law nm) G B 935 [some (.ref b), some (.ref (B + 0)), some (.ref (B + 54)), some (.int 0)] [] 74 7345 74 (pm_cat (pm_ofL (l_k_class B fw)) 54 (l_k_model B)) := by
  refine pm_aloadn hG dL_law_935 rfl ?_
  refine pm_aloadn hG dL_law_936 rfl ?_
  refine pm_iloadn hG dL_law_937 rfl ?_
  refine pm_iconst (v := 1) hG dL_law_938 (by decide) ?_
  refine pm_iadd hG dL_law_939 ?_
  refine pm_top (v := 1) (by decide) ?_
  refine pm_sld hG hs dL_law_940 (pm_inb (by decide)) ?_
  refine pm_aloadn hG dL_law_941 rfl ?_
  refine pm_iloadn hG dL_law_942 rfl ?_
  refine pm_iconst (v := 2) hG dL_law_943 (by decide) ?_
  refine pm_iadd hG dL_law_944 ?_
  refine pm_top (v := 2) (by decide) ?_
  refine pm_sld hG hs dL_law_945 (pm_inb (by decide)) ?_
  refine pm_aloadn hG dL_law_946 rfl ?_
  refine pm_iloadn hG dL_law_947 rfl ?_
  refine pm_iconst (v := 3) hG dL_law_948 (by decide) ?_
  refine pm_iadd hG dL_law_949 ?_
  refine pm_top (v := 3) (by decide) ?_
  refine pm_sld hG hs dL_law_950 (pm_inb (by decide)) ?_
  refine pm_callV (As := [.int (xs (1 : Int32).toNatClampNeg), .int (xs (2 : Int32).toNatClampNeg), .int (xs (3 : Int32).toNatClampNeg)]) (rest := []) hG hR dL_law_951 (lkL_97 _ rfl) okV_X11_says rfl rfl (oc_says (R := l_k_model B) (d := 1999) (by decide)) rfl rfl (by decide) (by decide) (by decide) (by decide) (pm_ki (fun v σ' cnt' hq => ?_))
  obtain ⟨rfl, hl, rfl⟩ := hq
  refine pm_weak (pm_lies_sub hl) ?_
  refine pm_aloadn hG dL_law_954 rfl ?_
  refine pm_aloadn hG dL_law_955 rfl ?_
  refine pm_iloadn hG dL_law_956 rfl ?_
  refine pm_iconst (v := 1) hG dL_law_957 (by decide) ?_
  refine pm_iadd hG dL_law_958 ?_
  refine pm_top (v := 1) (by decide) ?_
  refine pm_sld hG hs dL_law_959 (pm_inb (by decide)) ?_
  refine pm_aloadn hG dL_law_960 rfl ?_
  refine pm_iloadn hG dL_law_961 rfl ?_
  refine pm_iconst (v := 2) hG dL_law_962 (by decide) ?_
  refine pm_iadd hG dL_law_963 ?_
  refine pm_top (v := 2) (by decide) ?_
  refine pm_sld hG hs dL_law_964 (pm_inb (by decide)) ?_
  refine pm_aloadn hG dL_law_965 rfl ?_
  refine pm_iloadn hG dL_law_966 rfl ?_
  refine pm_iconst (v := 3) hG dL_law_967 (by decide) ?_
  refine pm_iadd hG dL_law_968 ?_
  refine pm_top (v := 3) (by decide) ?_
  refine pm_sld hG hs dL_law_969 (pm_inb (by decide)) ?_
  refine pm_callV (As := [.int (xs (1 : Int32).toNatClampNeg), .int (xs (2 : Int32).toNatClampNeg), .int (xs (3 : Int32).toNatClampNeg)]) (rest := [.int (v_says (xs (1 : Int32).toNatClampNeg) (xs (2 : Int32).toNatClampNeg) (xs (3 : Int32).toNatClampNeg))]) hG hR dL_law_970 (lkL_100 _ rfl) okV_X12_says rfl rfl (om_says (d := 1999) (by decide)) rfl rfl (by decide) (by decide) (by decide) (by first | decide | exact Nat.le_of_ble_eq_true rfl) (pm_ki (fun v σ' cnt' hq => ?_))
  obtain rfl := hq
  refine pm_icmp_eq (tgt := 2105) hG dL_law_973 rfl (fun _ => ?_) (fun q => absurd rfl q)
  exact law_tail hG hs hE (Nat.le_of_ble_eq_true rfl) (Nat.le_of_ble_eq_true rfl)

set_option maxRecDepth 100000 in
set_option maxHeartbeats 4000000 in
theorem law_draw {nm : String} {G : pm_G} {B b : Nat} {xs : Nat → Int32} {fw : Nat → Int32} (hG : pm_ok (mL_law nm) G B) (hR : pm_rm G 2000 600000 7302250) (hs : pm_scr G B b 6 xs) (hE : pm_lend nm G B) : pm_wp (mL_law nm) G B 978 [some (.ref b), some (.ref (B + 0)), some (.ref (B + 54)), some (.int 0)] [] 74 7345 74 (pm_cat (pm_ofL (l_k_class B fw)) 54 (l_k_model B)) := by
  refine pm_aloadn hG dL_law_978 rfl ?_
  refine pm_aloadn hG dL_law_979 rfl ?_
  refine pm_iloadn hG dL_law_980 rfl ?_
  refine pm_iconst (v := 1) hG dL_law_981 (by decide) ?_
  refine pm_iadd hG dL_law_982 ?_
  refine pm_top (v := 1) (by decide) ?_
  refine pm_sld hG hs dL_law_983 (pm_inb (by decide)) ?_
  refine pm_aloadn hG dL_law_984 rfl ?_
  refine pm_iloadn hG dL_law_985 rfl ?_
  refine pm_iconst (v := 2) hG dL_law_986 (by decide) ?_
  refine pm_iadd hG dL_law_987 ?_
  refine pm_top (v := 2) (by decide) ?_
  refine pm_sld hG hs dL_law_988 (pm_inb (by decide)) ?_
  refine pm_aloadn hG dL_law_989 rfl ?_
  refine pm_iloadn hG dL_law_990 rfl ?_
  refine pm_iconst (v := 3) hG dL_law_991 (by decide) ?_
  refine pm_iadd hG dL_law_992 ?_
  refine pm_top (v := 3) (by decide) ?_
  refine pm_sld hG hs dL_law_993 (pm_inb (by decide)) ?_
  refine pm_callV (As := [.int (xs (1 : Int32).toNatClampNeg), .int (xs (2 : Int32).toNatClampNeg), .int (xs (3 : Int32).toNatClampNeg)]) (rest := []) hG hR dL_law_994 (lkL_101 _ rfl) okV_X11_draw rfl rfl (oc_draw (R := l_k_model B) (d := 1999) (by decide)) rfl rfl (by decide) (by decide) (by decide) (by decide) (pm_ki (fun v σ' cnt' hq => ?_))
  obtain ⟨rfl, hl, rfl⟩ := hq
  refine pm_weak (pm_lies_sub hl) ?_
  refine pm_aloadn hG dL_law_997 rfl ?_
  refine pm_aloadn hG dL_law_998 rfl ?_
  refine pm_iloadn hG dL_law_999 rfl ?_
  refine pm_iconst (v := 1) hG dL_law_1000 (by decide) ?_
  refine pm_iadd hG dL_law_1001 ?_
  refine pm_top (v := 1) (by decide) ?_
  refine pm_sld hG hs dL_law_1002 (pm_inb (by decide)) ?_
  refine pm_aloadn hG dL_law_1003 rfl ?_
  refine pm_iloadn hG dL_law_1004 rfl ?_
  refine pm_iconst (v := 2) hG dL_law_1005 (by decide) ?_
  refine pm_iadd hG dL_law_1006 ?_
  refine pm_top (v := 2) (by decide) ?_
  refine pm_sld hG hs dL_law_1007 (pm_inb (by decide)) ?_
  refine pm_aloadn hG dL_law_1008 rfl ?_
  refine pm_iloadn hG dL_law_1009 rfl ?_
  refine pm_iconst (v := 3) hG dL_law_1010 (by decide) ?_
  refine pm_iadd hG dL_law_1011 ?_
  refine pm_top (v := 3) (by decide) ?_
  refine pm_sld hG hs dL_law_1012 (pm_inb (by decide)) ?_
  refine pm_callV (As := [.int (xs (1 : Int32).toNatClampNeg), .int (xs (2 : Int32).toNatClampNeg), .int (xs (3 : Int32).toNatClampNeg)]) (rest := [.int (v_draw (xs (1 : Int32).toNatClampNeg) (xs (2 : Int32).toNatClampNeg) (xs (3 : Int32).toNatClampNeg))]) hG hR dL_law_1013 (lkL_104 _ rfl) okV_X12_draw rfl rfl (om_draw (d := 1999) (by decide)) rfl rfl (by decide) (by decide) (by decide) (by first | decide | exact Nat.le_of_ble_eq_true rfl) (pm_ki (fun v σ' cnt' hq => ?_))
  obtain rfl := hq
  refine pm_icmp_eq (tgt := 2105) hG dL_law_1016 rfl (fun _ => ?_) (fun q => absurd rfl q)
  exact law_tail hG hs hE (Nat.le_of_ble_eq_true rfl) (Nat.le_of_ble_eq_true rfl)

set_option maxRecDepth 100000 in
set_option maxHeartbeats 4000000 in
theorem law_press {nm : String} {G : pm_G} {B b : Nat} {xs : Nat → Int32} {fw : Nat → Int32} (hG : pm_ok (mL_law nm) G B) (hR : pm_rm G 2000 600000 7302250) (hs : pm_scr G B b 6 xs) (hE : pm_lend nm G B) : pm_wp (mL_law nm) G B 1021 [some (.ref b), some (.ref (B + 0)), some (.ref (B + 54)), some (.int 0)] [] 74 7345 74 (pm_cat (pm_ofL (l_k_class B fw)) 54 (l_k_model B)) := by
  refine pm_aloadn hG dL_law_1021 rfl ?_
  refine pm_aloadn hG dL_law_1022 rfl ?_
  refine pm_iloadn hG dL_law_1023 rfl ?_
  refine pm_iconst (v := 1) hG dL_law_1024 (by decide) ?_
  refine pm_iadd hG dL_law_1025 ?_
  refine pm_top (v := 1) (by decide) ?_
  refine pm_sld hG hs dL_law_1026 (pm_inb (by decide)) ?_
  refine pm_aloadn hG dL_law_1027 rfl ?_
  refine pm_iloadn hG dL_law_1028 rfl ?_
  refine pm_iconst (v := 2) hG dL_law_1029 (by decide) ?_
  refine pm_iadd hG dL_law_1030 ?_
  refine pm_top (v := 2) (by decide) ?_
  refine pm_sld hG hs dL_law_1031 (pm_inb (by decide)) ?_
  refine pm_callV (As := [.int (xs (1 : Int32).toNatClampNeg), .int (xs (2 : Int32).toNatClampNeg)]) (rest := []) hG hR dL_law_1032 (lkL_105 _ rfl) okV_X11_press rfl rfl (oc_press (R := l_k_model B) (d := 1999) (by decide)) rfl rfl (by decide) (by decide) (by decide) (by decide) (pm_ki (fun v σ' cnt' hq => ?_))
  obtain ⟨rfl, hl, rfl⟩ := hq
  refine pm_weak (pm_lies_sub hl) ?_
  refine pm_aloadn hG dL_law_1035 rfl ?_
  refine pm_aloadn hG dL_law_1036 rfl ?_
  refine pm_iloadn hG dL_law_1037 rfl ?_
  refine pm_iconst (v := 1) hG dL_law_1038 (by decide) ?_
  refine pm_iadd hG dL_law_1039 ?_
  refine pm_top (v := 1) (by decide) ?_
  refine pm_sld hG hs dL_law_1040 (pm_inb (by decide)) ?_
  refine pm_aloadn hG dL_law_1041 rfl ?_
  refine pm_iloadn hG dL_law_1042 rfl ?_
  refine pm_iconst (v := 2) hG dL_law_1043 (by decide) ?_
  refine pm_iadd hG dL_law_1044 ?_
  refine pm_top (v := 2) (by decide) ?_
  refine pm_sld hG hs dL_law_1045 (pm_inb (by decide)) ?_
  refine pm_callV (As := [.int (xs (1 : Int32).toNatClampNeg), .int (xs (2 : Int32).toNatClampNeg)]) (rest := [.int (v_press (xs (1 : Int32).toNatClampNeg) (xs (2 : Int32).toNatClampNeg))]) hG hR dL_law_1046 (lkL_108 _ rfl) okV_X12_press rfl rfl (om_press (d := 1999) (by decide)) rfl rfl (by decide) (by decide) (by decide) (by first | decide | exact Nat.le_of_ble_eq_true rfl) (pm_ki (fun v σ' cnt' hq => ?_))
  obtain rfl := hq
  refine pm_icmp_eq (tgt := 2105) hG dL_law_1049 rfl (fun _ => ?_) (fun q => absurd rfl q)
  exact law_tail hG hs hE (Nat.le_of_ble_eq_true rfl) (Nat.le_of_ble_eq_true rfl)

set_option maxRecDepth 100000 in
set_option maxHeartbeats 4000000 in
theorem law_send {nm : String} {G : pm_G} {B b : Nat} {xs : Nat → Int32} {fw : Nat → Int32} (hG : pm_ok (mL_law nm) G B) (hR : pm_rm G 2000 600000 7302250) (hs : pm_scr G B b 6 xs) (hE : pm_lend nm G B) : pm_wp (mL_law nm) G B 1054 [some (.ref b), some (.ref (B + 0)), some (.ref (B + 54)), some (.int 0)] [] 74 7345 74 (pm_cat (pm_ofL (l_k_class B fw)) 54 (l_k_model B)) := by
  refine pm_aloadn hG dL_law_1054 rfl ?_
  refine pm_aloadn hG dL_law_1055 rfl ?_
  refine pm_iloadn hG dL_law_1056 rfl ?_
  refine pm_iconst (v := 1) hG dL_law_1057 (by decide) ?_
  refine pm_iadd hG dL_law_1058 ?_
  refine pm_top (v := 1) (by decide) ?_
  refine pm_sld hG hs dL_law_1059 (pm_inb (by decide)) ?_
  refine pm_aloadn hG dL_law_1060 rfl ?_
  refine pm_iloadn hG dL_law_1061 rfl ?_
  refine pm_iconst (v := 2) hG dL_law_1062 (by decide) ?_
  refine pm_iadd hG dL_law_1063 ?_
  refine pm_top (v := 2) (by decide) ?_
  refine pm_sld hG hs dL_law_1064 (pm_inb (by decide)) ?_
  refine pm_callV (As := [.int (xs (1 : Int32).toNatClampNeg), .int (xs (2 : Int32).toNatClampNeg)]) (rest := []) hG hR dL_law_1065 (lkL_109 _ rfl) okV_X11_send rfl rfl (oc_send (R := l_k_model B) (d := 1999) (by decide)) rfl rfl (by decide) (by decide) (by decide) (by decide) (pm_ki (fun v σ' cnt' hq => ?_))
  obtain ⟨rfl, hl, rfl⟩ := hq
  refine pm_weak (pm_lies_sub hl) ?_
  refine pm_aloadn hG dL_law_1068 rfl ?_
  refine pm_aloadn hG dL_law_1069 rfl ?_
  refine pm_iloadn hG dL_law_1070 rfl ?_
  refine pm_iconst (v := 1) hG dL_law_1071 (by decide) ?_
  refine pm_iadd hG dL_law_1072 ?_
  refine pm_top (v := 1) (by decide) ?_
  refine pm_sld hG hs dL_law_1073 (pm_inb (by decide)) ?_
  refine pm_aloadn hG dL_law_1074 rfl ?_
  refine pm_iloadn hG dL_law_1075 rfl ?_
  refine pm_iconst (v := 2) hG dL_law_1076 (by decide) ?_
  refine pm_iadd hG dL_law_1077 ?_
  refine pm_top (v := 2) (by decide) ?_
  refine pm_sld hG hs dL_law_1078 (pm_inb (by decide)) ?_
  refine pm_callV (As := [.int (xs (1 : Int32).toNatClampNeg), .int (xs (2 : Int32).toNatClampNeg)]) (rest := [.int (v_send (xs (1 : Int32).toNatClampNeg) (xs (2 : Int32).toNatClampNeg))]) hG hR dL_law_1079 (lkL_112 _ rfl) okV_X12_send rfl rfl (om_send (d := 1999) (by decide)) rfl rfl (by decide) (by decide) (by decide) (by first | decide | exact Nat.le_of_ble_eq_true rfl) (pm_ki (fun v σ' cnt' hq => ?_))
  obtain rfl := hq
  refine pm_icmp_eq (tgt := 2105) hG dL_law_1082 rfl (fun _ => ?_) (fun q => absurd rfl q)
  exact law_tail hG hs hE (Nat.le_of_ble_eq_true rfl) (Nat.le_of_ble_eq_true rfl)

set_option maxRecDepth 100000 in
set_option maxHeartbeats 4000000 in
theorem law_open {nm : String} {G : pm_G} {B b : Nat} {xs : Nat → Int32} {fw : Nat → Int32} (hG : pm_ok (mL_law nm) G B) (hR : pm_rm G 2000 600000 7302250) (hs : pm_scr G B b 6 xs) (hE : pm_lend nm G B) : pm_wp (mL_law nm) G B 1087 [some (.ref b), some (.ref (B + 0)), some (.ref (B + 54)), some (.int 0)] [] 74 7345 74 (pm_cat (pm_ofL (l_k_class B fw)) 54 (l_k_model B)) := by
  refine pm_aloadn hG dL_law_1087 rfl ?_
  refine pm_aloadn hG dL_law_1088 rfl ?_
  refine pm_iloadn hG dL_law_1089 rfl ?_
  refine pm_iconst (v := 1) hG dL_law_1090 (by decide) ?_
  refine pm_iadd hG dL_law_1091 ?_
  refine pm_top (v := 1) (by decide) ?_
  refine pm_sld hG hs dL_law_1092 (pm_inb (by decide)) ?_
  refine pm_callV (As := [.int (xs (1 : Int32).toNatClampNeg)]) (rest := []) hG hR dL_law_1093 (lkL_113 _ rfl) okV_X11_open rfl rfl (oc_open (R := l_k_model B) (d := 1999) (by decide)) rfl rfl (by decide) (by decide) (by decide) (by decide) (pm_ki (fun v σ' cnt' hq => ?_))
  obtain ⟨rfl, hl, rfl⟩ := hq
  refine pm_weak (pm_lies_sub hl) ?_
  refine pm_aloadn hG dL_law_1096 rfl ?_
  refine pm_aloadn hG dL_law_1097 rfl ?_
  refine pm_iloadn hG dL_law_1098 rfl ?_
  refine pm_iconst (v := 1) hG dL_law_1099 (by decide) ?_
  refine pm_iadd hG dL_law_1100 ?_
  refine pm_top (v := 1) (by decide) ?_
  refine pm_sld hG hs dL_law_1101 (pm_inb (by decide)) ?_
  refine pm_callV (As := [.int (xs (1 : Int32).toNatClampNeg)]) (rest := [.int (v_open (xs (1 : Int32).toNatClampNeg))]) hG hR dL_law_1102 (lkL_116 _ rfl) okV_X12_open rfl rfl (om_open (d := 1999) (by decide)) rfl rfl (by decide) (by decide) (by decide) (by first | decide | exact Nat.le_of_ble_eq_true rfl) (pm_ki (fun v σ' cnt' hq => ?_))
  obtain rfl := hq
  refine pm_icmp_eq (tgt := 2105) hG dL_law_1105 rfl (fun _ => ?_) (fun q => absurd rfl q)
  exact law_tail hG hs hE (Nat.le_of_ble_eq_true rfl) (Nat.le_of_ble_eq_true rfl)

set_option maxRecDepth 100000 in
set_option maxHeartbeats 4000000 in
theorem law_obey {nm : String} {G : pm_G} {B b : Nat} {xs : Nat → Int32} {fw : Nat → Int32} (hG : pm_ok (mL_law nm) G B) (hR : pm_rm G 2000 600000 7302250) (hs : pm_scr G B b 6 xs) (hE : pm_lend nm G B) : pm_wp (mL_law nm) G B 1110 [some (.ref b), some (.ref (B + 0)), some (.ref (B + 54)), some (.int 0)] [] 74 7345 74 (pm_cat (pm_ofL (l_k_class B fw)) 54 (l_k_model B)) := by
  refine pm_aloadn hG dL_law_1110 rfl ?_
  refine pm_aloadn hG dL_law_1111 rfl ?_
  refine pm_iloadn hG dL_law_1112 rfl ?_
  refine pm_iconst (v := 1) hG dL_law_1113 (by decide) ?_
  refine pm_iadd hG dL_law_1114 ?_
  refine pm_top (v := 1) (by decide) ?_
  refine pm_sld hG hs dL_law_1115 (pm_inb (by decide)) ?_
  refine pm_callV (As := [.int (xs (1 : Int32).toNatClampNeg)]) (rest := []) hG hR dL_law_1116 (lkL_117 _ rfl) okV_X11_obey rfl rfl (oc_obey (R := l_k_model B) (d := 1999) (by decide)) rfl rfl (by decide) (by decide) (by decide) (by decide) (pm_ki (fun v σ' cnt' hq => ?_))
  obtain ⟨rfl, hl, rfl⟩ := hq
  refine pm_weak (pm_lies_sub hl) ?_
  refine pm_aloadn hG dL_law_1119 rfl ?_
  refine pm_aloadn hG dL_law_1120 rfl ?_
  refine pm_iloadn hG dL_law_1121 rfl ?_
  refine pm_iconst (v := 1) hG dL_law_1122 (by decide) ?_
  refine pm_iadd hG dL_law_1123 ?_
  refine pm_top (v := 1) (by decide) ?_
  refine pm_sld hG hs dL_law_1124 (pm_inb (by decide)) ?_
  refine pm_callV (As := [.int (xs (1 : Int32).toNatClampNeg)]) (rest := [.int (v_obey (xs (1 : Int32).toNatClampNeg))]) hG hR dL_law_1125 (lkL_120 _ rfl) okV_X12_obey rfl rfl (om_obey (d := 1999) (by decide)) rfl rfl (by decide) (by decide) (by decide) (by first | decide | exact Nat.le_of_ble_eq_true rfl) (pm_ki (fun v σ' cnt' hq => ?_))
  obtain rfl := hq
  refine pm_icmp_eq (tgt := 2105) hG dL_law_1128 rfl (fun _ => ?_) (fun q => absurd rfl q)
  exact law_tail hG hs hE (Nat.le_of_ble_eq_true rfl) (Nat.le_of_ble_eq_true rfl)

set_option maxRecDepth 100000 in
set_option maxHeartbeats 4000000 in
theorem law_letter {nm : String} {G : pm_G} {B b : Nat} {xs : Nat → Int32} {fw : Nat → Int32} (hG : pm_ok (mL_law nm) G B) (hR : pm_rm G 2000 600000 7302250) (hs : pm_scr G B b 6 xs) (hE : pm_lend nm G B) : pm_wp (mL_law nm) G B 1133 [some (.ref b), some (.ref (B + 0)), some (.ref (B + 54)), some (.int 0)] [] 74 7345 74 (pm_cat (pm_ofL (l_k_class B fw)) 54 (l_k_model B)) := by
  refine pm_aloadn hG dL_law_1133 rfl ?_
  refine pm_aloadn hG dL_law_1134 rfl ?_
  refine pm_iloadn hG dL_law_1135 rfl ?_
  refine pm_iconst (v := 1) hG dL_law_1136 (by decide) ?_
  refine pm_iadd hG dL_law_1137 ?_
  refine pm_top (v := 1) (by decide) ?_
  refine pm_sld hG hs dL_law_1138 (pm_inb (by decide)) ?_
  refine pm_aloadn hG dL_law_1139 rfl ?_
  refine pm_iloadn hG dL_law_1140 rfl ?_
  refine pm_iconst (v := 2) hG dL_law_1141 (by decide) ?_
  refine pm_iadd hG dL_law_1142 ?_
  refine pm_top (v := 2) (by decide) ?_
  refine pm_sld hG hs dL_law_1143 (pm_inb (by decide)) ?_
  refine pm_callV (As := [.int (xs (1 : Int32).toNatClampNeg), .int (xs (2 : Int32).toNatClampNeg)]) (rest := []) hG hR dL_law_1144 (lkL_121 _ rfl) okV_X11_letter rfl rfl (oc_letter (R := l_k_model B) (d := 1999) (by decide)) rfl rfl (by decide) (by decide) (by decide) (by decide) (pm_ki (fun v σ' cnt' hq => ?_))
  obtain ⟨rfl, hl, rfl⟩ := hq
  refine pm_weak (pm_lies_sub hl) ?_
  refine pm_aloadn hG dL_law_1147 rfl ?_
  refine pm_aloadn hG dL_law_1148 rfl ?_
  refine pm_iloadn hG dL_law_1149 rfl ?_
  refine pm_iconst (v := 1) hG dL_law_1150 (by decide) ?_
  refine pm_iadd hG dL_law_1151 ?_
  refine pm_top (v := 1) (by decide) ?_
  refine pm_sld hG hs dL_law_1152 (pm_inb (by decide)) ?_
  refine pm_aloadn hG dL_law_1153 rfl ?_
  refine pm_iloadn hG dL_law_1154 rfl ?_
  refine pm_iconst (v := 2) hG dL_law_1155 (by decide) ?_
  refine pm_iadd hG dL_law_1156 ?_
  refine pm_top (v := 2) (by decide) ?_
  refine pm_sld hG hs dL_law_1157 (pm_inb (by decide)) ?_
  refine pm_callV (As := [.int (xs (1 : Int32).toNatClampNeg), .int (xs (2 : Int32).toNatClampNeg)]) (rest := [.int (v_letter (xs (1 : Int32).toNatClampNeg) (xs (2 : Int32).toNatClampNeg))]) hG hR dL_law_1158 (lkL_124 _ rfl) okV_X12_letter rfl rfl (om_letter (d := 1999) (by decide)) rfl rfl (by decide) (by decide) (by decide) (by first | decide | exact Nat.le_of_ble_eq_true rfl) (pm_ki (fun v σ' cnt' hq => ?_))
  obtain rfl := hq
  refine pm_icmp_eq (tgt := 2105) hG dL_law_1161 rfl (fun _ => ?_) (fun q => absurd rfl q)
  exact law_tail hG hs hE (Nat.le_of_ble_eq_true rfl) (Nat.le_of_ble_eq_true rfl)

set_option maxRecDepth 100000 in
set_option maxHeartbeats 4000000 in
theorem law_days {nm : String} {G : pm_G} {B b : Nat} {xs : Nat → Int32} {fw : Nat → Int32} (hG : pm_ok (mL_law nm) G B) (hR : pm_rm G 2000 600000 7302250) (hs : pm_scr G B b 6 xs) (hE : pm_lend nm G B) : pm_wp (mL_law nm) G B 1166 [some (.ref b), some (.ref (B + 0)), some (.ref (B + 54)), some (.int 0)] [] 74 7345 74 (pm_cat (pm_ofL (l_k_class B fw)) 54 (l_k_model B)) := by
  refine pm_aloadn hG dL_law_1166 rfl ?_
  refine pm_aloadn hG dL_law_1167 rfl ?_
  refine pm_iloadn hG dL_law_1168 rfl ?_
  refine pm_iconst (v := 1) hG dL_law_1169 (by decide) ?_
  refine pm_iadd hG dL_law_1170 ?_
  refine pm_top (v := 1) (by decide) ?_
  refine pm_sld hG hs dL_law_1171 (pm_inb (by decide)) ?_
  refine pm_callV (As := [.int (xs (1 : Int32).toNatClampNeg)]) (rest := []) hG hR dL_law_1172 (lkL_125 _ rfl) okV_X11_days rfl rfl (oc_days (R := l_k_model B) (d := 1999) (by decide)) rfl rfl (by decide) (by decide) (by decide) (by decide) (pm_ki (fun v σ' cnt' hq => ?_))
  obtain ⟨rfl, hl, rfl⟩ := hq
  refine pm_weak (pm_lies_sub hl) ?_
  refine pm_aloadn hG dL_law_1175 rfl ?_
  refine pm_aloadn hG dL_law_1176 rfl ?_
  refine pm_iloadn hG dL_law_1177 rfl ?_
  refine pm_iconst (v := 1) hG dL_law_1178 (by decide) ?_
  refine pm_iadd hG dL_law_1179 ?_
  refine pm_top (v := 1) (by decide) ?_
  refine pm_sld hG hs dL_law_1180 (pm_inb (by decide)) ?_
  refine pm_callV (As := [.int (xs (1 : Int32).toNatClampNeg)]) (rest := [.int (v_days (xs (1 : Int32).toNatClampNeg))]) hG hR dL_law_1181 (lkL_128 _ rfl) okV_X12_days rfl rfl (om_days (d := 1999) (by decide)) rfl rfl (by decide) (by decide) (by decide) (by first | decide | exact Nat.le_of_ble_eq_true rfl) (pm_ki (fun v σ' cnt' hq => ?_))
  obtain rfl := hq
  refine pm_icmp_eq (tgt := 2105) hG dL_law_1184 rfl (fun _ => ?_) (fun q => absurd rfl q)
  exact law_tail hG hs hE (Nat.le_of_ble_eq_true rfl) (Nat.le_of_ble_eq_true rfl)

set_option maxRecDepth 100000 in
set_option maxHeartbeats 4000000 in
theorem law_rent {nm : String} {G : pm_G} {B b : Nat} {xs : Nat → Int32} {fw : Nat → Int32} (hG : pm_ok (mL_law nm) G B) (hR : pm_rm G 2000 600000 7302250) (hs : pm_scr G B b 6 xs) (hE : pm_lend nm G B) : pm_wp (mL_law nm) G B 1189 [some (.ref b), some (.ref (B + 0)), some (.ref (B + 54)), some (.int 0)] [] 74 7345 74 (pm_cat (pm_ofL (l_k_class B fw)) 54 (l_k_model B)) := by
  refine pm_aloadn hG dL_law_1189 rfl ?_
  refine pm_aloadn hG dL_law_1190 rfl ?_
  refine pm_iloadn hG dL_law_1191 rfl ?_
  refine pm_iconst (v := 1) hG dL_law_1192 (by decide) ?_
  refine pm_iadd hG dL_law_1193 ?_
  refine pm_top (v := 1) (by decide) ?_
  refine pm_sld hG hs dL_law_1194 (pm_inb (by decide)) ?_
  refine pm_aloadn hG dL_law_1195 rfl ?_
  refine pm_iloadn hG dL_law_1196 rfl ?_
  refine pm_iconst (v := 2) hG dL_law_1197 (by decide) ?_
  refine pm_iadd hG dL_law_1198 ?_
  refine pm_top (v := 2) (by decide) ?_
  refine pm_sld hG hs dL_law_1199 (pm_inb (by decide)) ?_
  refine pm_callV (As := [.int (xs (1 : Int32).toNatClampNeg), .int (xs (2 : Int32).toNatClampNeg)]) (rest := []) hG hR dL_law_1200 (lkL_129 _ rfl) okV_X11_rent rfl rfl (oc_rent (R := l_k_model B) (d := 1999) (by decide)) rfl rfl (by decide) (by decide) (by decide) (by decide) (pm_ki (fun v σ' cnt' hq => ?_))
  obtain ⟨rfl, hl, rfl⟩ := hq
  refine pm_weak (pm_lies_sub hl) ?_
  refine pm_aloadn hG dL_law_1203 rfl ?_
  refine pm_aloadn hG dL_law_1204 rfl ?_
  refine pm_iloadn hG dL_law_1205 rfl ?_
  refine pm_iconst (v := 1) hG dL_law_1206 (by decide) ?_
  refine pm_iadd hG dL_law_1207 ?_
  refine pm_top (v := 1) (by decide) ?_
  refine pm_sld hG hs dL_law_1208 (pm_inb (by decide)) ?_
  refine pm_aloadn hG dL_law_1209 rfl ?_
  refine pm_iloadn hG dL_law_1210 rfl ?_
  refine pm_iconst (v := 2) hG dL_law_1211 (by decide) ?_
  refine pm_iadd hG dL_law_1212 ?_
  refine pm_top (v := 2) (by decide) ?_
  refine pm_sld hG hs dL_law_1213 (pm_inb (by decide)) ?_
  refine pm_callV (As := [.int (xs (1 : Int32).toNatClampNeg), .int (xs (2 : Int32).toNatClampNeg)]) (rest := [.int (v_rent (xs (1 : Int32).toNatClampNeg) (xs (2 : Int32).toNatClampNeg))]) hG hR dL_law_1214 (lkL_132 _ rfl) okV_X12_rent rfl rfl (om_rent (d := 1999) (by decide)) rfl rfl (by decide) (by decide) (by decide) (by first | decide | exact Nat.le_of_ble_eq_true rfl) (pm_ki (fun v σ' cnt' hq => ?_))
  obtain rfl := hq
  refine pm_icmp_eq (tgt := 2105) hG dL_law_1217 rfl (fun _ => ?_) (fun q => absurd rfl q)
  exact law_tail hG hs hE (Nat.le_of_ble_eq_true rfl) (Nat.le_of_ble_eq_true rfl)

set_option maxRecDepth 100000 in
set_option maxHeartbeats 4000000 in
theorem law_own {nm : String} {G : pm_G} {B b : Nat} {xs : Nat → Int32} {fw : Nat → Int32} (hG : pm_ok (mL_law nm) G B) (hR : pm_rm G 2000 600000 7302250) (hs : pm_scr G B b 6 xs) (hE : pm_lend nm G B) : pm_wp (mL_law nm) G B 1222 [some (.ref b), some (.ref (B + 0)), some (.ref (B + 54)), some (.int 0)] [] 74 7345 74 (pm_cat (pm_ofL (l_k_class B fw)) 54 (l_k_model B)) := by
  refine pm_aloadn hG dL_law_1222 rfl ?_
  refine pm_aloadn hG dL_law_1223 rfl ?_
  refine pm_iloadn hG dL_law_1224 rfl ?_
  refine pm_iconst (v := 1) hG dL_law_1225 (by decide) ?_
  refine pm_iadd hG dL_law_1226 ?_
  refine pm_top (v := 1) (by decide) ?_
  refine pm_sld hG hs dL_law_1227 (pm_inb (by decide)) ?_
  refine pm_aloadn hG dL_law_1228 rfl ?_
  refine pm_iloadn hG dL_law_1229 rfl ?_
  refine pm_iconst (v := 2) hG dL_law_1230 (by decide) ?_
  refine pm_iadd hG dL_law_1231 ?_
  refine pm_top (v := 2) (by decide) ?_
  refine pm_sld hG hs dL_law_1232 (pm_inb (by decide)) ?_
  refine pm_callV (As := [.int (xs (1 : Int32).toNatClampNeg), .int (xs (2 : Int32).toNatClampNeg)]) (rest := []) hG hR dL_law_1233 (lkL_133 _ rfl) okV_X11_own rfl rfl (oc_own (R := l_k_model B) (d := 1999) (by decide)) rfl rfl (by decide) (by decide) (by decide) (by decide) (pm_ki (fun v σ' cnt' hq => ?_))
  obtain ⟨rfl, hl, rfl⟩ := hq
  refine pm_weak (pm_lies_sub hl) ?_
  refine pm_aloadn hG dL_law_1236 rfl ?_
  refine pm_aloadn hG dL_law_1237 rfl ?_
  refine pm_iloadn hG dL_law_1238 rfl ?_
  refine pm_iconst (v := 1) hG dL_law_1239 (by decide) ?_
  refine pm_iadd hG dL_law_1240 ?_
  refine pm_top (v := 1) (by decide) ?_
  refine pm_sld hG hs dL_law_1241 (pm_inb (by decide)) ?_
  refine pm_aloadn hG dL_law_1242 rfl ?_
  refine pm_iloadn hG dL_law_1243 rfl ?_
  refine pm_iconst (v := 2) hG dL_law_1244 (by decide) ?_
  refine pm_iadd hG dL_law_1245 ?_
  refine pm_top (v := 2) (by decide) ?_
  refine pm_sld hG hs dL_law_1246 (pm_inb (by decide)) ?_
  refine pm_callV (As := [.int (xs (1 : Int32).toNatClampNeg), .int (xs (2 : Int32).toNatClampNeg)]) (rest := [.int (v_own (xs (1 : Int32).toNatClampNeg) (xs (2 : Int32).toNatClampNeg))]) hG hR dL_law_1247 (lkL_136 _ rfl) okV_X12_own rfl rfl (om_own (d := 1999) (by decide)) rfl rfl (by decide) (by decide) (by decide) (by first | decide | exact Nat.le_of_ble_eq_true rfl) (pm_ki (fun v σ' cnt' hq => ?_))
  obtain rfl := hq
  refine pm_icmp_eq (tgt := 2105) hG dL_law_1250 rfl (fun _ => ?_) (fun q => absurd rfl q)
  exact law_tail hG hs hE (Nat.le_of_ble_eq_true rfl) (Nat.le_of_ble_eq_true rfl)

set_option maxRecDepth 100000 in
set_option maxHeartbeats 4000000 in
theorem law_rents {nm : String} {G : pm_G} {B b : Nat} {xs : Nat → Int32} {fw : Nat → Int32} (hG : pm_ok (mL_law nm) G B) (hR : pm_rm G 2000 600000 7302250) (hs : pm_scr G B b 6 xs) (hE : pm_lend nm G B) : pm_wp (mL_law nm) G B 1255 [some (.ref b), some (.ref (B + 0)), some (.ref (B + 54)), some (.int 0)] [] 74 7345 74 (pm_cat (pm_ofL (l_k_class B fw)) 54 (l_k_model B)) := by
  refine pm_aloadn hG dL_law_1255 rfl ?_
  refine pm_aloadn hG dL_law_1256 rfl ?_
  refine pm_iloadn hG dL_law_1257 rfl ?_
  refine pm_iconst (v := 1) hG dL_law_1258 (by decide) ?_
  refine pm_iadd hG dL_law_1259 ?_
  refine pm_top (v := 1) (by decide) ?_
  refine pm_sld hG hs dL_law_1260 (pm_inb (by decide)) ?_
  refine pm_aloadn hG dL_law_1261 rfl ?_
  refine pm_iloadn hG dL_law_1262 rfl ?_
  refine pm_iconst (v := 2) hG dL_law_1263 (by decide) ?_
  refine pm_iadd hG dL_law_1264 ?_
  refine pm_top (v := 2) (by decide) ?_
  refine pm_sld hG hs dL_law_1265 (pm_inb (by decide)) ?_
  refine pm_callV (As := [.int (xs (1 : Int32).toNatClampNeg), .int (xs (2 : Int32).toNatClampNeg)]) (rest := []) hG hR dL_law_1266 (lkL_137 _ rfl) okV_X11_rents rfl rfl (oc_rents (R := l_k_model B) (d := 1999) (by decide)) rfl rfl (by decide) (by decide) (by decide) (by decide) (pm_ki (fun v σ' cnt' hq => ?_))
  obtain ⟨rfl, hl, rfl⟩ := hq
  refine pm_weak (pm_lies_sub hl) ?_
  refine pm_aloadn hG dL_law_1269 rfl ?_
  refine pm_aloadn hG dL_law_1270 rfl ?_
  refine pm_iloadn hG dL_law_1271 rfl ?_
  refine pm_iconst (v := 1) hG dL_law_1272 (by decide) ?_
  refine pm_iadd hG dL_law_1273 ?_
  refine pm_top (v := 1) (by decide) ?_
  refine pm_sld hG hs dL_law_1274 (pm_inb (by decide)) ?_
  refine pm_aloadn hG dL_law_1275 rfl ?_
  refine pm_iloadn hG dL_law_1276 rfl ?_
  refine pm_iconst (v := 2) hG dL_law_1277 (by decide) ?_
  refine pm_iadd hG dL_law_1278 ?_
  refine pm_top (v := 2) (by decide) ?_
  refine pm_sld hG hs dL_law_1279 (pm_inb (by decide)) ?_
  refine pm_callV (As := [.int (xs (1 : Int32).toNatClampNeg), .int (xs (2 : Int32).toNatClampNeg)]) (rest := [.int (v_rents (xs (1 : Int32).toNatClampNeg) (xs (2 : Int32).toNatClampNeg))]) hG hR dL_law_1280 (lkL_140 _ rfl) okV_X12_rents rfl rfl (om_rents (d := 1999) (by decide)) rfl rfl (by decide) (by decide) (by decide) (by first | decide | exact Nat.le_of_ble_eq_true rfl) (pm_ki (fun v σ' cnt' hq => ?_))
  obtain rfl := hq
  refine pm_icmp_eq (tgt := 2105) hG dL_law_1283 rfl (fun _ => ?_) (fun q => absurd rfl q)
  exact law_tail hG hs hE (Nat.le_of_ble_eq_true rfl) (Nat.le_of_ble_eq_true rfl)

set_option maxRecDepth 100000 in
set_option maxHeartbeats 4000000 in
theorem law_debt {nm : String} {G : pm_G} {B b : Nat} {xs : Nat → Int32} {fw : Nat → Int32} (hG : pm_ok (mL_law nm) G B) (hR : pm_rm G 2000 600000 7302250) (hs : pm_scr G B b 6 xs) (hE : pm_lend nm G B) : pm_wp (mL_law nm) G B 1288 [some (.ref b), some (.ref (B + 0)), some (.ref (B + 54)), some (.int 0)] [] 74 7345 74 (pm_cat (pm_ofL (l_k_class B fw)) 54 (l_k_model B)) := by
  refine pm_aloadn hG dL_law_1288 rfl ?_
  refine pm_aloadn hG dL_law_1289 rfl ?_
  refine pm_iloadn hG dL_law_1290 rfl ?_
  refine pm_iconst (v := 1) hG dL_law_1291 (by decide) ?_
  refine pm_iadd hG dL_law_1292 ?_
  refine pm_top (v := 1) (by decide) ?_
  refine pm_sld hG hs dL_law_1293 (pm_inb (by decide)) ?_
  refine pm_aloadn hG dL_law_1294 rfl ?_
  refine pm_iloadn hG dL_law_1295 rfl ?_
  refine pm_iconst (v := 2) hG dL_law_1296 (by decide) ?_
  refine pm_iadd hG dL_law_1297 ?_
  refine pm_top (v := 2) (by decide) ?_
  refine pm_sld hG hs dL_law_1298 (pm_inb (by decide)) ?_
  refine pm_aloadn hG dL_law_1299 rfl ?_
  refine pm_iloadn hG dL_law_1300 rfl ?_
  refine pm_iconst (v := 3) hG dL_law_1301 (by decide) ?_
  refine pm_iadd hG dL_law_1302 ?_
  refine pm_top (v := 3) (by decide) ?_
  refine pm_sld hG hs dL_law_1303 (pm_inb (by decide)) ?_
  refine pm_callV (As := [.int (xs (1 : Int32).toNatClampNeg), .int (xs (2 : Int32).toNatClampNeg), .int (xs (3 : Int32).toNatClampNeg)]) (rest := []) hG hR dL_law_1304 (lkL_141 _ rfl) okV_X11_debt rfl rfl (oc_debt (R := l_k_model B) (d := 1999) (by decide)) rfl rfl (by decide) (by decide) (by decide) (by decide) (pm_ki (fun v σ' cnt' hq => ?_))
  obtain ⟨rfl, hl, rfl⟩ := hq
  refine pm_weak (pm_lies_sub hl) ?_
  refine pm_aloadn hG dL_law_1307 rfl ?_
  refine pm_aloadn hG dL_law_1308 rfl ?_
  refine pm_iloadn hG dL_law_1309 rfl ?_
  refine pm_iconst (v := 1) hG dL_law_1310 (by decide) ?_
  refine pm_iadd hG dL_law_1311 ?_
  refine pm_top (v := 1) (by decide) ?_
  refine pm_sld hG hs dL_law_1312 (pm_inb (by decide)) ?_
  refine pm_aloadn hG dL_law_1313 rfl ?_
  refine pm_iloadn hG dL_law_1314 rfl ?_
  refine pm_iconst (v := 2) hG dL_law_1315 (by decide) ?_
  refine pm_iadd hG dL_law_1316 ?_
  refine pm_top (v := 2) (by decide) ?_
  refine pm_sld hG hs dL_law_1317 (pm_inb (by decide)) ?_
  refine pm_aloadn hG dL_law_1318 rfl ?_
  refine pm_iloadn hG dL_law_1319 rfl ?_
  refine pm_iconst (v := 3) hG dL_law_1320 (by decide) ?_
  refine pm_iadd hG dL_law_1321 ?_
  refine pm_top (v := 3) (by decide) ?_
  refine pm_sld hG hs dL_law_1322 (pm_inb (by decide)) ?_
  refine pm_callV (As := [.int (xs (1 : Int32).toNatClampNeg), .int (xs (2 : Int32).toNatClampNeg), .int (xs (3 : Int32).toNatClampNeg)]) (rest := [.int (v_debt (xs (1 : Int32).toNatClampNeg) (xs (2 : Int32).toNatClampNeg) (xs (3 : Int32).toNatClampNeg))]) hG hR dL_law_1323 (lkL_144 _ rfl) okV_X12_debt rfl rfl (om_debt (d := 1999) (by decide)) rfl rfl (by decide) (by decide) (by decide) (by first | decide | exact Nat.le_of_ble_eq_true rfl) (pm_ki (fun v σ' cnt' hq => ?_))
  obtain rfl := hq
  refine pm_icmp_eq (tgt := 2105) hG dL_law_1326 rfl (fun _ => ?_) (fun q => absurd rfl q)
  exact law_tail hG hs hE (Nat.le_of_ble_eq_true rfl) (Nat.le_of_ble_eq_true rfl)

set_option maxRecDepth 100000 in
set_option maxHeartbeats 4000000 in
theorem law_owed {nm : String} {G : pm_G} {B b : Nat} {xs : Nat → Int32} {fw : Nat → Int32} (hG : pm_ok (mL_law nm) G B) (hR : pm_rm G 2000 600000 7302250) (hs : pm_scr G B b 6 xs) (hE : pm_lend nm G B) : pm_wp (mL_law nm) G B 1331 [some (.ref b), some (.ref (B + 0)), some (.ref (B + 54)), some (.int 0)] [] 74 7345 74 (pm_cat (pm_ofL (l_k_class B fw)) 54 (l_k_model B)) := by
  refine pm_aloadn hG dL_law_1331 rfl ?_
  refine pm_aloadn hG dL_law_1332 rfl ?_
  refine pm_iloadn hG dL_law_1333 rfl ?_
  refine pm_iconst (v := 1) hG dL_law_1334 (by decide) ?_
  refine pm_iadd hG dL_law_1335 ?_
  refine pm_top (v := 1) (by decide) ?_
  refine pm_sld hG hs dL_law_1336 (pm_inb (by decide)) ?_
  refine pm_aloadn hG dL_law_1337 rfl ?_
  refine pm_iloadn hG dL_law_1338 rfl ?_
  refine pm_iconst (v := 2) hG dL_law_1339 (by decide) ?_
  refine pm_iadd hG dL_law_1340 ?_
  refine pm_top (v := 2) (by decide) ?_
  refine pm_sld hG hs dL_law_1341 (pm_inb (by decide)) ?_
  refine pm_callV (As := [.int (xs (1 : Int32).toNatClampNeg), .int (xs (2 : Int32).toNatClampNeg)]) (rest := []) hG hR dL_law_1342 (lkL_145 _ rfl) okV_X11_owed rfl rfl (oc_owed (R := l_k_model B) (d := 1999) (by decide)) rfl rfl (by decide) (by decide) (by decide) (by decide) (pm_ki (fun v σ' cnt' hq => ?_))
  obtain ⟨rfl, hl, rfl⟩ := hq
  refine pm_weak (pm_lies_sub hl) ?_
  refine pm_aloadn hG dL_law_1345 rfl ?_
  refine pm_aloadn hG dL_law_1346 rfl ?_
  refine pm_iloadn hG dL_law_1347 rfl ?_
  refine pm_iconst (v := 1) hG dL_law_1348 (by decide) ?_
  refine pm_iadd hG dL_law_1349 ?_
  refine pm_top (v := 1) (by decide) ?_
  refine pm_sld hG hs dL_law_1350 (pm_inb (by decide)) ?_
  refine pm_aloadn hG dL_law_1351 rfl ?_
  refine pm_iloadn hG dL_law_1352 rfl ?_
  refine pm_iconst (v := 2) hG dL_law_1353 (by decide) ?_
  refine pm_iadd hG dL_law_1354 ?_
  refine pm_top (v := 2) (by decide) ?_
  refine pm_sld hG hs dL_law_1355 (pm_inb (by decide)) ?_
  refine pm_callV (As := [.int (xs (1 : Int32).toNatClampNeg), .int (xs (2 : Int32).toNatClampNeg)]) (rest := [.int (v_owed (xs (1 : Int32).toNatClampNeg) (xs (2 : Int32).toNatClampNeg))]) hG hR dL_law_1356 (lkL_148 _ rfl) okV_X12_owed rfl rfl (om_owed (d := 1999) (by decide)) rfl rfl (by decide) (by decide) (by decide) (by first | decide | exact Nat.le_of_ble_eq_true rfl) (pm_ki (fun v σ' cnt' hq => ?_))
  obtain rfl := hq
  refine pm_icmp_eq (tgt := 2105) hG dL_law_1359 rfl (fun _ => ?_) (fun q => absurd rfl q)
  exact law_tail hG hs hE (Nat.le_of_ble_eq_true rfl) (Nat.le_of_ble_eq_true rfl)

set_option maxRecDepth 100000 in
set_option maxHeartbeats 4000000 in
theorem law_seat {nm : String} {G : pm_G} {B b : Nat} {xs : Nat → Int32} {fw : Nat → Int32} (hG : pm_ok (mL_law nm) G B) (hR : pm_rm G 2000 600000 7302250) (hs : pm_scr G B b 6 xs) (hE : pm_lend nm G B) : pm_wp (mL_law nm) G B 1364 [some (.ref b), some (.ref (B + 0)), some (.ref (B + 54)), some (.int 0)] [] 74 7345 74 (pm_cat (pm_ofL (l_k_class B fw)) 54 (l_k_model B)) := by
  refine pm_aloadn hG dL_law_1364 rfl ?_
  refine pm_aloadn hG dL_law_1365 rfl ?_
  refine pm_iloadn hG dL_law_1366 rfl ?_
  refine pm_iconst (v := 1) hG dL_law_1367 (by decide) ?_
  refine pm_iadd hG dL_law_1368 ?_
  refine pm_top (v := 1) (by decide) ?_
  refine pm_sld hG hs dL_law_1369 (pm_inb (by decide)) ?_
  refine pm_aloadn hG dL_law_1370 rfl ?_
  refine pm_iloadn hG dL_law_1371 rfl ?_
  refine pm_iconst (v := 2) hG dL_law_1372 (by decide) ?_
  refine pm_iadd hG dL_law_1373 ?_
  refine pm_top (v := 2) (by decide) ?_
  refine pm_sld hG hs dL_law_1374 (pm_inb (by decide)) ?_
  refine pm_if_eq (tgt := 1382) hG dL_law_1375 rfl (fun c1 => ?_) (fun c1 => ?_)
  · refine pm_iconst (v := 0) hG dL_law_1382 (by decide) ?_
    refine pm_callV (As := [.int (xs (1 : Int32).toNatClampNeg), .int 0]) (rest := []) hG hR dL_law_1383 (lkL_149 _ rfl) okV_X11_seat rfl rfl (oc_seat (R := l_k_model B) (d := 1999) (by decide)) rfl rfl (by decide) (by decide) (by decide) (by decide) (pm_ki (fun v σ' cnt' hq => ?_))
    obtain ⟨rfl, hl, rfl⟩ := hq
    refine pm_weak (pm_lies_sub hl) ?_
    refine pm_aloadn hG dL_law_1386 rfl ?_
    refine pm_aloadn hG dL_law_1387 rfl ?_
    refine pm_iloadn hG dL_law_1388 rfl ?_
    refine pm_iconst (v := 1) hG dL_law_1389 (by decide) ?_
    refine pm_iadd hG dL_law_1390 ?_
    refine pm_top (v := 1) (by decide) ?_
    refine pm_sld hG hs dL_law_1391 (pm_inb (by decide)) ?_
    refine pm_aloadn hG dL_law_1392 rfl ?_
    refine pm_iloadn hG dL_law_1393 rfl ?_
    refine pm_iconst (v := 2) hG dL_law_1394 (by decide) ?_
    refine pm_iadd hG dL_law_1395 ?_
    refine pm_top (v := 2) (by decide) ?_
    refine pm_sld hG hs dL_law_1396 (pm_inb (by decide)) ?_
    refine pm_if_eq (tgt := 1404) hG dL_law_1397 rfl (fun _ => ?_) (fun q => False.elim (by revert c1 q; simp only [Int32.lt_iff_toInt_lt, Int32.le_iff_toInt_le, ← Int32.toInt_inj, Int32.toInt_zero]; omega))
    refine pm_iconst (v := 0) hG dL_law_1404 (by decide) ?_
    refine pm_callV (As := [.int (xs (1 : Int32).toNatClampNeg), .int 0]) (rest := [.int (v_seat (xs (1 : Int32).toNatClampNeg) 0)]) hG hR dL_law_1405 (lkL_153 _ rfl) okV_X12_seat rfl rfl (om_seat (d := 1999) (by decide)) rfl rfl (by decide) (by decide) (by decide) (by first | decide | exact Nat.le_of_ble_eq_true rfl) (pm_ki (fun v σ' cnt' hq => ?_))
    obtain rfl := hq
    refine pm_icmp_eq (tgt := 2105) hG dL_law_1408 rfl (fun _ => ?_) (fun q => absurd rfl q)
    exact law_tail hG hs hE (Nat.le_of_ble_eq_true rfl) (Nat.le_of_ble_eq_true rfl)
  · refine pm_iconst (v := 1) hG dL_law_1378 (by decide) ?_
    refine pm_goto (tgt := 1383) hG dL_law_1379 rfl ?_
    refine pm_callV (As := [.int (xs (1 : Int32).toNatClampNeg), .int 1]) (rest := []) hG hR dL_law_1383 (lkL_149 _ rfl) okV_X11_seat rfl rfl (oc_seat (R := l_k_model B) (d := 1999) (by decide)) rfl rfl (by decide) (by decide) (by decide) (by decide) (pm_ki (fun v σ' cnt' hq => ?_))
    obtain ⟨rfl, hl, rfl⟩ := hq
    refine pm_weak (pm_lies_sub hl) ?_
    refine pm_aloadn hG dL_law_1386 rfl ?_
    refine pm_aloadn hG dL_law_1387 rfl ?_
    refine pm_iloadn hG dL_law_1388 rfl ?_
    refine pm_iconst (v := 1) hG dL_law_1389 (by decide) ?_
    refine pm_iadd hG dL_law_1390 ?_
    refine pm_top (v := 1) (by decide) ?_
    refine pm_sld hG hs dL_law_1391 (pm_inb (by decide)) ?_
    refine pm_aloadn hG dL_law_1392 rfl ?_
    refine pm_iloadn hG dL_law_1393 rfl ?_
    refine pm_iconst (v := 2) hG dL_law_1394 (by decide) ?_
    refine pm_iadd hG dL_law_1395 ?_
    refine pm_top (v := 2) (by decide) ?_
    refine pm_sld hG hs dL_law_1396 (pm_inb (by decide)) ?_
    refine pm_if_eq (tgt := 1404) hG dL_law_1397 rfl (fun c2 => ?_) (fun c2 => ?_)
    · refine pm_iconst (v := 0) hG dL_law_1404 (by decide) ?_
      refine pm_callV (As := [.int (xs (1 : Int32).toNatClampNeg), .int 0]) (rest := [.int (v_seat (xs (1 : Int32).toNatClampNeg) 1)]) hG hR dL_law_1405 (lkL_153 _ rfl) okV_X12_seat rfl rfl (om_seat (d := 1999) (by decide)) rfl rfl (by decide) (by decide) (by decide) (by first | decide | exact Nat.le_of_ble_eq_true rfl) (pm_ki (fun v σ' cnt' hq => ?_))
      obtain rfl := hq
      refine pm_icmp_eq (tgt := 2105) hG dL_law_1408 rfl (fun _ => ?_) (fun q => absurd rfl q)
      exact law_tail hG hs hE (Nat.le_of_ble_eq_true rfl) (Nat.le_of_ble_eq_true rfl)
    · refine pm_iconst (v := 1) hG dL_law_1400 (by decide) ?_
      refine pm_goto (tgt := 1405) hG dL_law_1401 rfl ?_
      refine pm_callV (As := [.int (xs (1 : Int32).toNatClampNeg), .int 1]) (rest := [.int (v_seat (xs (1 : Int32).toNatClampNeg) 1)]) hG hR dL_law_1405 (lkL_153 _ rfl) okV_X12_seat rfl rfl (om_seat (d := 1999) (by decide)) rfl rfl (by decide) (by decide) (by decide) (by first | decide | exact Nat.le_of_ble_eq_true rfl) (pm_ki (fun v σ' cnt' hq => ?_))
      obtain rfl := hq
      refine pm_icmp_eq (tgt := 2105) hG dL_law_1408 rfl (fun _ => ?_) (fun q => absurd rfl q)
      exact law_tail hG hs hE (Nat.le_of_ble_eq_true rfl) (Nat.le_of_ble_eq_true rfl)

set_option maxRecDepth 100000 in
set_option maxHeartbeats 4000000 in
theorem law_promise {nm : String} {G : pm_G} {B b : Nat} {xs : Nat → Int32} {fw : Nat → Int32} (hG : pm_ok (mL_law nm) G B) (hR : pm_rm G 2000 600000 7302250) (hs : pm_scr G B b 6 xs) (hE : pm_lend nm G B) : pm_wp (mL_law nm) G B 1413 [some (.ref b), some (.ref (B + 0)), some (.ref (B + 54)), some (.int 0)] [] 74 7345 74 (pm_cat (pm_ofL (l_k_class B fw)) 54 (l_k_model B)) := by
  refine pm_aloadn hG dL_law_1413 rfl ?_
  refine pm_aloadn hG dL_law_1414 rfl ?_
  refine pm_iloadn hG dL_law_1415 rfl ?_
  refine pm_iconst (v := 1) hG dL_law_1416 (by decide) ?_
  refine pm_iadd hG dL_law_1417 ?_
  refine pm_top (v := 1) (by decide) ?_
  refine pm_sld hG hs dL_law_1418 (pm_inb (by decide)) ?_
  refine pm_aloadn hG dL_law_1419 rfl ?_
  refine pm_iloadn hG dL_law_1420 rfl ?_
  refine pm_iconst (v := 2) hG dL_law_1421 (by decide) ?_
  refine pm_iadd hG dL_law_1422 ?_
  refine pm_top (v := 2) (by decide) ?_
  refine pm_sld hG hs dL_law_1423 (pm_inb (by decide)) ?_
  refine pm_aloadn hG dL_law_1424 rfl ?_
  refine pm_iloadn hG dL_law_1425 rfl ?_
  refine pm_iconst (v := 3) hG dL_law_1426 (by decide) ?_
  refine pm_iadd hG dL_law_1427 ?_
  refine pm_top (v := 3) (by decide) ?_
  refine pm_sld hG hs dL_law_1428 (pm_inb (by decide)) ?_
  refine pm_aloadn hG dL_law_1429 rfl ?_
  refine pm_iloadn hG dL_law_1430 rfl ?_
  refine pm_iconst (v := 4) hG dL_law_1431 (by decide) ?_
  refine pm_iadd hG dL_law_1432 ?_
  refine pm_top (v := 4) (by decide) ?_
  refine pm_sld hG hs dL_law_1433 (pm_inb (by decide)) ?_
  refine pm_if_eq (tgt := 1441) hG dL_law_1434 rfl (fun c1 => ?_) (fun c1 => ?_)
  · refine pm_iconst (v := 0) hG dL_law_1441 (by decide) ?_
    refine pm_callV (As := [.int (xs (1 : Int32).toNatClampNeg), .int (xs (2 : Int32).toNatClampNeg), .int (xs (3 : Int32).toNatClampNeg), .int 0]) (rest := []) hG hR dL_law_1442 (lkL_154 _ rfl) okV_X11_promise rfl rfl (oc_promise (R := l_k_model B) (d := 1999) (by decide)) rfl rfl (by decide) (by decide) (by decide) (by decide) (pm_ki (fun v σ' cnt' hq => ?_))
    obtain ⟨rfl, hl, rfl⟩ := hq
    refine pm_weak (pm_lies_sub hl) ?_
    refine pm_aloadn hG dL_law_1445 rfl ?_
    refine pm_aloadn hG dL_law_1446 rfl ?_
    refine pm_iloadn hG dL_law_1447 rfl ?_
    refine pm_iconst (v := 1) hG dL_law_1448 (by decide) ?_
    refine pm_iadd hG dL_law_1449 ?_
    refine pm_top (v := 1) (by decide) ?_
    refine pm_sld hG hs dL_law_1450 (pm_inb (by decide)) ?_
    refine pm_aloadn hG dL_law_1451 rfl ?_
    refine pm_iloadn hG dL_law_1452 rfl ?_
    refine pm_iconst (v := 2) hG dL_law_1453 (by decide) ?_
    refine pm_iadd hG dL_law_1454 ?_
    refine pm_top (v := 2) (by decide) ?_
    refine pm_sld hG hs dL_law_1455 (pm_inb (by decide)) ?_
    refine pm_aloadn hG dL_law_1456 rfl ?_
    refine pm_iloadn hG dL_law_1457 rfl ?_
    refine pm_iconst (v := 3) hG dL_law_1458 (by decide) ?_
    refine pm_iadd hG dL_law_1459 ?_
    refine pm_top (v := 3) (by decide) ?_
    refine pm_sld hG hs dL_law_1460 (pm_inb (by decide)) ?_
    refine pm_aloadn hG dL_law_1461 rfl ?_
    refine pm_iloadn hG dL_law_1462 rfl ?_
    refine pm_iconst (v := 4) hG dL_law_1463 (by decide) ?_
    refine pm_iadd hG dL_law_1464 ?_
    refine pm_top (v := 4) (by decide) ?_
    refine pm_sld hG hs dL_law_1465 (pm_inb (by decide)) ?_
    refine pm_if_eq (tgt := 1473) hG dL_law_1466 rfl (fun _ => ?_) (fun q => False.elim (by revert c1 q; simp only [Int32.lt_iff_toInt_lt, Int32.le_iff_toInt_le, ← Int32.toInt_inj, Int32.toInt_zero]; omega))
    refine pm_iconst (v := 0) hG dL_law_1473 (by decide) ?_
    refine pm_callV (As := [.int (xs (1 : Int32).toNatClampNeg), .int (xs (2 : Int32).toNatClampNeg), .int (xs (3 : Int32).toNatClampNeg), .int 0]) (rest := [.int (v_promise (xs (1 : Int32).toNatClampNeg) (xs (2 : Int32).toNatClampNeg) (xs (3 : Int32).toNatClampNeg) 0)]) hG hR dL_law_1474 (lkL_158 _ rfl) okV_X12_promise rfl rfl (om_promise (d := 1999) (by decide)) rfl rfl (by decide) (by decide) (by decide) (by first | decide | exact Nat.le_of_ble_eq_true rfl) (pm_ki (fun v σ' cnt' hq => ?_))
    obtain rfl := hq
    refine pm_icmp_eq (tgt := 2105) hG dL_law_1477 rfl (fun _ => ?_) (fun q => absurd rfl q)
    exact law_tail hG hs hE (Nat.le_of_ble_eq_true rfl) (Nat.le_of_ble_eq_true rfl)
  · refine pm_iconst (v := 1) hG dL_law_1437 (by decide) ?_
    refine pm_goto (tgt := 1442) hG dL_law_1438 rfl ?_
    refine pm_callV (As := [.int (xs (1 : Int32).toNatClampNeg), .int (xs (2 : Int32).toNatClampNeg), .int (xs (3 : Int32).toNatClampNeg), .int 1]) (rest := []) hG hR dL_law_1442 (lkL_154 _ rfl) okV_X11_promise rfl rfl (oc_promise (R := l_k_model B) (d := 1999) (by decide)) rfl rfl (by decide) (by decide) (by decide) (by decide) (pm_ki (fun v σ' cnt' hq => ?_))
    obtain ⟨rfl, hl, rfl⟩ := hq
    refine pm_weak (pm_lies_sub hl) ?_
    refine pm_aloadn hG dL_law_1445 rfl ?_
    refine pm_aloadn hG dL_law_1446 rfl ?_
    refine pm_iloadn hG dL_law_1447 rfl ?_
    refine pm_iconst (v := 1) hG dL_law_1448 (by decide) ?_
    refine pm_iadd hG dL_law_1449 ?_
    refine pm_top (v := 1) (by decide) ?_
    refine pm_sld hG hs dL_law_1450 (pm_inb (by decide)) ?_
    refine pm_aloadn hG dL_law_1451 rfl ?_
    refine pm_iloadn hG dL_law_1452 rfl ?_
    refine pm_iconst (v := 2) hG dL_law_1453 (by decide) ?_
    refine pm_iadd hG dL_law_1454 ?_
    refine pm_top (v := 2) (by decide) ?_
    refine pm_sld hG hs dL_law_1455 (pm_inb (by decide)) ?_
    refine pm_aloadn hG dL_law_1456 rfl ?_
    refine pm_iloadn hG dL_law_1457 rfl ?_
    refine pm_iconst (v := 3) hG dL_law_1458 (by decide) ?_
    refine pm_iadd hG dL_law_1459 ?_
    refine pm_top (v := 3) (by decide) ?_
    refine pm_sld hG hs dL_law_1460 (pm_inb (by decide)) ?_
    refine pm_aloadn hG dL_law_1461 rfl ?_
    refine pm_iloadn hG dL_law_1462 rfl ?_
    refine pm_iconst (v := 4) hG dL_law_1463 (by decide) ?_
    refine pm_iadd hG dL_law_1464 ?_
    refine pm_top (v := 4) (by decide) ?_
    refine pm_sld hG hs dL_law_1465 (pm_inb (by decide)) ?_
    refine pm_if_eq (tgt := 1473) hG dL_law_1466 rfl (fun c2 => ?_) (fun c2 => ?_)
    · refine pm_iconst (v := 0) hG dL_law_1473 (by decide) ?_
      refine pm_callV (As := [.int (xs (1 : Int32).toNatClampNeg), .int (xs (2 : Int32).toNatClampNeg), .int (xs (3 : Int32).toNatClampNeg), .int 0]) (rest := [.int (v_promise (xs (1 : Int32).toNatClampNeg) (xs (2 : Int32).toNatClampNeg) (xs (3 : Int32).toNatClampNeg) 1)]) hG hR dL_law_1474 (lkL_158 _ rfl) okV_X12_promise rfl rfl (om_promise (d := 1999) (by decide)) rfl rfl (by decide) (by decide) (by decide) (by first | decide | exact Nat.le_of_ble_eq_true rfl) (pm_ki (fun v σ' cnt' hq => ?_))
      obtain rfl := hq
      refine pm_icmp_eq (tgt := 2105) hG dL_law_1477 rfl (fun _ => ?_) (fun q => absurd rfl q)
      exact law_tail hG hs hE (Nat.le_of_ble_eq_true rfl) (Nat.le_of_ble_eq_true rfl)
    · refine pm_iconst (v := 1) hG dL_law_1469 (by decide) ?_
      refine pm_goto (tgt := 1474) hG dL_law_1470 rfl ?_
      refine pm_callV (As := [.int (xs (1 : Int32).toNatClampNeg), .int (xs (2 : Int32).toNatClampNeg), .int (xs (3 : Int32).toNatClampNeg), .int 1]) (rest := [.int (v_promise (xs (1 : Int32).toNatClampNeg) (xs (2 : Int32).toNatClampNeg) (xs (3 : Int32).toNatClampNeg) 1)]) hG hR dL_law_1474 (lkL_158 _ rfl) okV_X12_promise rfl rfl (om_promise (d := 1999) (by decide)) rfl rfl (by decide) (by decide) (by decide) (by first | decide | exact Nat.le_of_ble_eq_true rfl) (pm_ki (fun v σ' cnt' hq => ?_))
      obtain rfl := hq
      refine pm_icmp_eq (tgt := 2105) hG dL_law_1477 rfl (fun _ => ?_) (fun q => absurd rfl q)
      exact law_tail hG hs hE (Nat.le_of_ble_eq_true rfl) (Nat.le_of_ble_eq_true rfl)

set_option maxRecDepth 100000 in
set_option maxHeartbeats 4000000 in
theorem law_breaks {nm : String} {G : pm_G} {B b : Nat} {xs : Nat → Int32} {fw : Nat → Int32} (hG : pm_ok (mL_law nm) G B) (hR : pm_rm G 2000 600000 7302250) (hs : pm_scr G B b 6 xs) (hE : pm_lend nm G B) : pm_wp (mL_law nm) G B 1482 [some (.ref b), some (.ref (B + 0)), some (.ref (B + 54)), some (.int 0)] [] 74 7345 74 (pm_cat (pm_ofL (l_k_class B fw)) 54 (l_k_model B)) := by
  refine pm_aloadn hG dL_law_1482 rfl ?_
  refine pm_aloadn hG dL_law_1483 rfl ?_
  refine pm_iloadn hG dL_law_1484 rfl ?_
  refine pm_iconst (v := 1) hG dL_law_1485 (by decide) ?_
  refine pm_iadd hG dL_law_1486 ?_
  refine pm_top (v := 1) (by decide) ?_
  refine pm_sld hG hs dL_law_1487 (pm_inb (by decide)) ?_
  refine pm_callV (As := [.int (xs (1 : Int32).toNatClampNeg)]) (rest := []) hG hR dL_law_1488 (lkL_159 _ rfl) okV_X11_breaks rfl rfl (oc_breaks (R := l_k_model B) (d := 1999) (by decide)) rfl rfl (by decide) (by decide) (by decide) (by decide) (pm_ki (fun v σ' cnt' hq => ?_))
  obtain ⟨rfl, hl, rfl⟩ := hq
  refine pm_weak (pm_lies_sub hl) ?_
  refine pm_aloadn hG dL_law_1491 rfl ?_
  refine pm_aloadn hG dL_law_1492 rfl ?_
  refine pm_iloadn hG dL_law_1493 rfl ?_
  refine pm_iconst (v := 1) hG dL_law_1494 (by decide) ?_
  refine pm_iadd hG dL_law_1495 ?_
  refine pm_top (v := 1) (by decide) ?_
  refine pm_sld hG hs dL_law_1496 (pm_inb (by decide)) ?_
  refine pm_callV (As := [.int (xs (1 : Int32).toNatClampNeg)]) (rest := [.int (v_breaks (xs (1 : Int32).toNatClampNeg))]) hG hR dL_law_1497 (lkL_162 _ rfl) okV_X12_breaks rfl rfl (om_breaks (d := 1999) (by decide)) rfl rfl (by decide) (by decide) (by decide) (by first | decide | exact Nat.le_of_ble_eq_true rfl) (pm_ki (fun v σ' cnt' hq => ?_))
  obtain rfl := hq
  refine pm_icmp_eq (tgt := 2105) hG dL_law_1500 rfl (fun _ => ?_) (fun q => absurd rfl q)
  exact law_tail hG hs hE (Nat.le_of_ble_eq_true rfl) (Nat.le_of_ble_eq_true rfl)

set_option maxRecDepth 100000 in
set_option maxHeartbeats 4000000 in
theorem law_cause {nm : String} {G : pm_G} {B b : Nat} {xs : Nat → Int32} {fw : Nat → Int32} (hG : pm_ok (mL_law nm) G B) (hR : pm_rm G 2000 600000 7302250) (hs : pm_scr G B b 6 xs) (hE : pm_lend nm G B) : pm_wp (mL_law nm) G B 1505 [some (.ref b), some (.ref (B + 0)), some (.ref (B + 54)), some (.int 0)] [] 74 7345 74 (pm_cat (pm_ofL (l_k_class B fw)) 54 (l_k_model B)) := by
  refine pm_aloadn hG dL_law_1505 rfl ?_
  refine pm_aloadn hG dL_law_1506 rfl ?_
  refine pm_iloadn hG dL_law_1507 rfl ?_
  refine pm_iconst (v := 1) hG dL_law_1508 (by decide) ?_
  refine pm_iadd hG dL_law_1509 ?_
  refine pm_top (v := 1) (by decide) ?_
  refine pm_sld hG hs dL_law_1510 (pm_inb (by decide)) ?_
  refine pm_aloadn hG dL_law_1511 rfl ?_
  refine pm_iloadn hG dL_law_1512 rfl ?_
  refine pm_iconst (v := 2) hG dL_law_1513 (by decide) ?_
  refine pm_iadd hG dL_law_1514 ?_
  refine pm_top (v := 2) (by decide) ?_
  refine pm_sld hG hs dL_law_1515 (pm_inb (by decide)) ?_
  refine pm_callV (As := [.int (xs (1 : Int32).toNatClampNeg), .int (xs (2 : Int32).toNatClampNeg)]) (rest := []) hG hR dL_law_1516 (lkL_163 _ rfl) okV_X11_cause rfl rfl (oc_cause (R := l_k_model B) (d := 1999) (by decide)) rfl rfl (by decide) (by decide) (by decide) (by decide) (pm_ki (fun v σ' cnt' hq => ?_))
  obtain ⟨rfl, hl, rfl⟩ := hq
  refine pm_weak (pm_lies_sub hl) ?_
  refine pm_aloadn hG dL_law_1519 rfl ?_
  refine pm_aloadn hG dL_law_1520 rfl ?_
  refine pm_iloadn hG dL_law_1521 rfl ?_
  refine pm_iconst (v := 1) hG dL_law_1522 (by decide) ?_
  refine pm_iadd hG dL_law_1523 ?_
  refine pm_top (v := 1) (by decide) ?_
  refine pm_sld hG hs dL_law_1524 (pm_inb (by decide)) ?_
  refine pm_aloadn hG dL_law_1525 rfl ?_
  refine pm_iloadn hG dL_law_1526 rfl ?_
  refine pm_iconst (v := 2) hG dL_law_1527 (by decide) ?_
  refine pm_iadd hG dL_law_1528 ?_
  refine pm_top (v := 2) (by decide) ?_
  refine pm_sld hG hs dL_law_1529 (pm_inb (by decide)) ?_
  refine pm_callV (As := [.int (xs (1 : Int32).toNatClampNeg), .int (xs (2 : Int32).toNatClampNeg)]) (rest := [.int (v_cause (xs (1 : Int32).toNatClampNeg) (xs (2 : Int32).toNatClampNeg))]) hG hR dL_law_1530 (lkL_166 _ rfl) okV_X12_cause rfl rfl (om_cause (d := 1999) (by decide)) rfl rfl (by decide) (by decide) (by decide) (by first | decide | exact Nat.le_of_ble_eq_true rfl) (pm_ki (fun v σ' cnt' hq => ?_))
  obtain rfl := hq
  refine pm_icmp_eq (tgt := 2105) hG dL_law_1533 rfl (fun _ => ?_) (fun q => absurd rfl q)
  exact law_tail hG hs hE (Nat.le_of_ble_eq_true rfl) (Nat.le_of_ble_eq_true rfl)

set_option maxRecDepth 100000 in
set_option maxHeartbeats 4000000 in
theorem law_price {nm : String} {G : pm_G} {B b : Nat} {xs : Nat → Int32} {fw : Nat → Int32} (hG : pm_ok (mL_law nm) G B) (hR : pm_rm G 2000 600000 7302250) (hs : pm_scr G B b 6 xs) (hE : pm_lend nm G B) : pm_wp (mL_law nm) G B 1538 [some (.ref b), some (.ref (B + 0)), some (.ref (B + 54)), some (.int 0)] [] 74 7345 74 (pm_cat (pm_ofL (l_k_class B fw)) 54 (l_k_model B)) := by
  refine pm_aloadn hG dL_law_1538 rfl ?_
  refine pm_aloadn hG dL_law_1539 rfl ?_
  refine pm_iloadn hG dL_law_1540 rfl ?_
  refine pm_iconst (v := 1) hG dL_law_1541 (by decide) ?_
  refine pm_iadd hG dL_law_1542 ?_
  refine pm_top (v := 1) (by decide) ?_
  refine pm_sld hG hs dL_law_1543 (pm_inb (by decide)) ?_
  refine pm_aloadn hG dL_law_1544 rfl ?_
  refine pm_iloadn hG dL_law_1545 rfl ?_
  refine pm_iconst (v := 2) hG dL_law_1546 (by decide) ?_
  refine pm_iadd hG dL_law_1547 ?_
  refine pm_top (v := 2) (by decide) ?_
  refine pm_sld hG hs dL_law_1548 (pm_inb (by decide)) ?_
  refine pm_callV (As := [.int (xs (1 : Int32).toNatClampNeg), .int (xs (2 : Int32).toNatClampNeg)]) (rest := []) hG hR dL_law_1549 (lkL_167 _ rfl) okV_X11_price rfl rfl (oc_price (R := l_k_model B) (d := 1999) (by decide)) rfl rfl (by decide) (by decide) (by decide) (by decide) (pm_ki (fun v σ' cnt' hq => ?_))
  obtain ⟨rfl, hl, rfl⟩ := hq
  refine pm_weak (pm_lies_sub hl) ?_
  refine pm_aloadn hG dL_law_1552 rfl ?_
  refine pm_aloadn hG dL_law_1553 rfl ?_
  refine pm_iloadn hG dL_law_1554 rfl ?_
  refine pm_iconst (v := 1) hG dL_law_1555 (by decide) ?_
  refine pm_iadd hG dL_law_1556 ?_
  refine pm_top (v := 1) (by decide) ?_
  refine pm_sld hG hs dL_law_1557 (pm_inb (by decide)) ?_
  refine pm_aloadn hG dL_law_1558 rfl ?_
  refine pm_iloadn hG dL_law_1559 rfl ?_
  refine pm_iconst (v := 2) hG dL_law_1560 (by decide) ?_
  refine pm_iadd hG dL_law_1561 ?_
  refine pm_top (v := 2) (by decide) ?_
  refine pm_sld hG hs dL_law_1562 (pm_inb (by decide)) ?_
  refine pm_callV (As := [.int (xs (1 : Int32).toNatClampNeg), .int (xs (2 : Int32).toNatClampNeg)]) (rest := [.int (v_price (xs (1 : Int32).toNatClampNeg) (xs (2 : Int32).toNatClampNeg))]) hG hR dL_law_1563 (lkL_170 _ rfl) okV_X12_price rfl rfl (om_price (d := 1999) (by decide)) rfl rfl (by decide) (by decide) (by decide) (by first | decide | exact Nat.le_of_ble_eq_true rfl) (pm_ki (fun v σ' cnt' hq => ?_))
  obtain rfl := hq
  refine pm_icmp_eq (tgt := 2105) hG dL_law_1566 rfl (fun _ => ?_) (fun q => absurd rfl q)
  exact law_tail hG hs hE (Nat.le_of_ble_eq_true rfl) (Nat.le_of_ble_eq_true rfl)

set_option maxRecDepth 100000 in
set_option maxHeartbeats 4000000 in
theorem law_buying {nm : String} {G : pm_G} {B b : Nat} {xs : Nat → Int32} {fw : Nat → Int32} (hG : pm_ok (mL_law nm) G B) (hR : pm_rm G 2000 600000 7302250) (hs : pm_scr G B b 6 xs) (hE : pm_lend nm G B) : pm_wp (mL_law nm) G B 1571 [some (.ref b), some (.ref (B + 0)), some (.ref (B + 54)), some (.int 0)] [] 74 7345 74 (pm_cat (pm_ofL (l_k_class B fw)) 54 (l_k_model B)) := by
  refine pm_aloadn hG dL_law_1571 rfl ?_
  refine pm_aloadn hG dL_law_1572 rfl ?_
  refine pm_iloadn hG dL_law_1573 rfl ?_
  refine pm_iconst (v := 1) hG dL_law_1574 (by decide) ?_
  refine pm_iadd hG dL_law_1575 ?_
  refine pm_top (v := 1) (by decide) ?_
  refine pm_sld hG hs dL_law_1576 (pm_inb (by decide)) ?_
  refine pm_aloadn hG dL_law_1577 rfl ?_
  refine pm_iloadn hG dL_law_1578 rfl ?_
  refine pm_iconst (v := 2) hG dL_law_1579 (by decide) ?_
  refine pm_iadd hG dL_law_1580 ?_
  refine pm_top (v := 2) (by decide) ?_
  refine pm_sld hG hs dL_law_1581 (pm_inb (by decide)) ?_
  refine pm_callV (As := [.int (xs (1 : Int32).toNatClampNeg), .int (xs (2 : Int32).toNatClampNeg)]) (rest := []) hG hR dL_law_1582 (lkL_171 _ rfl) okV_X11_buying rfl rfl (oc_buying (R := l_k_model B) (d := 1999) (by decide)) rfl rfl (by decide) (by decide) (by decide) (by decide) (pm_ki (fun v σ' cnt' hq => ?_))
  obtain ⟨rfl, hl, rfl⟩ := hq
  refine pm_weak (pm_lies_sub hl) ?_
  refine pm_aloadn hG dL_law_1585 rfl ?_
  refine pm_aloadn hG dL_law_1586 rfl ?_
  refine pm_iloadn hG dL_law_1587 rfl ?_
  refine pm_iconst (v := 1) hG dL_law_1588 (by decide) ?_
  refine pm_iadd hG dL_law_1589 ?_
  refine pm_top (v := 1) (by decide) ?_
  refine pm_sld hG hs dL_law_1590 (pm_inb (by decide)) ?_
  refine pm_aloadn hG dL_law_1591 rfl ?_
  refine pm_iloadn hG dL_law_1592 rfl ?_
  refine pm_iconst (v := 2) hG dL_law_1593 (by decide) ?_
  refine pm_iadd hG dL_law_1594 ?_
  refine pm_top (v := 2) (by decide) ?_
  refine pm_sld hG hs dL_law_1595 (pm_inb (by decide)) ?_
  refine pm_callV (As := [.int (xs (1 : Int32).toNatClampNeg), .int (xs (2 : Int32).toNatClampNeg)]) (rest := [.int (v_buying (xs (1 : Int32).toNatClampNeg) (xs (2 : Int32).toNatClampNeg))]) hG hR dL_law_1596 (lkL_174 _ rfl) okV_X12_buying rfl rfl (om_buying (d := 1999) (by decide)) rfl rfl (by decide) (by decide) (by decide) (by first | decide | exact Nat.le_of_ble_eq_true rfl) (pm_ki (fun v σ' cnt' hq => ?_))
  obtain rfl := hq
  refine pm_icmp_eq (tgt := 2105) hG dL_law_1599 rfl (fun _ => ?_) (fun q => absurd rfl q)
  exact law_tail hG hs hE (Nat.le_of_ble_eq_true rfl) (Nat.le_of_ble_eq_true rfl)

set_option maxRecDepth 100000 in
set_option maxHeartbeats 4000000 in
theorem law_guard {nm : String} {G : pm_G} {B b : Nat} {xs : Nat → Int32} {fw : Nat → Int32} (hG : pm_ok (mL_law nm) G B) (hR : pm_rm G 2000 600000 7302250) (hs : pm_scr G B b 6 xs) (hE : pm_lend nm G B) : pm_wp (mL_law nm) G B 1604 [some (.ref b), some (.ref (B + 0)), some (.ref (B + 54)), some (.int 0)] [] 74 7345 74 (pm_cat (pm_ofL (l_k_class B fw)) 54 (l_k_model B)) := by
  refine pm_aloadn hG dL_law_1604 rfl ?_
  refine pm_aloadn hG dL_law_1605 rfl ?_
  refine pm_iloadn hG dL_law_1606 rfl ?_
  refine pm_iconst (v := 1) hG dL_law_1607 (by decide) ?_
  refine pm_iadd hG dL_law_1608 ?_
  refine pm_top (v := 1) (by decide) ?_
  refine pm_sld hG hs dL_law_1609 (pm_inb (by decide)) ?_
  refine pm_aloadn hG dL_law_1610 rfl ?_
  refine pm_iloadn hG dL_law_1611 rfl ?_
  refine pm_iconst (v := 2) hG dL_law_1612 (by decide) ?_
  refine pm_iadd hG dL_law_1613 ?_
  refine pm_top (v := 2) (by decide) ?_
  refine pm_sld hG hs dL_law_1614 (pm_inb (by decide)) ?_
  refine pm_callV (As := [.int (xs (1 : Int32).toNatClampNeg), .int (xs (2 : Int32).toNatClampNeg)]) (rest := []) hG hR dL_law_1615 (lkL_175 _ rfl) okV_X11_guard rfl rfl (oc_guard (R := l_k_model B) (d := 1999) (by decide)) rfl rfl (by decide) (by decide) (by decide) (by decide) (pm_ki (fun v σ' cnt' hq => ?_))
  obtain ⟨rfl, hl, rfl⟩ := hq
  refine pm_weak (pm_lies_sub hl) ?_
  refine pm_aloadn hG dL_law_1618 rfl ?_
  refine pm_aloadn hG dL_law_1619 rfl ?_
  refine pm_iloadn hG dL_law_1620 rfl ?_
  refine pm_iconst (v := 1) hG dL_law_1621 (by decide) ?_
  refine pm_iadd hG dL_law_1622 ?_
  refine pm_top (v := 1) (by decide) ?_
  refine pm_sld hG hs dL_law_1623 (pm_inb (by decide)) ?_
  refine pm_aloadn hG dL_law_1624 rfl ?_
  refine pm_iloadn hG dL_law_1625 rfl ?_
  refine pm_iconst (v := 2) hG dL_law_1626 (by decide) ?_
  refine pm_iadd hG dL_law_1627 ?_
  refine pm_top (v := 2) (by decide) ?_
  refine pm_sld hG hs dL_law_1628 (pm_inb (by decide)) ?_
  refine pm_callV (As := [.int (xs (1 : Int32).toNatClampNeg), .int (xs (2 : Int32).toNatClampNeg)]) (rest := [.int (v_guard (xs (1 : Int32).toNatClampNeg) (xs (2 : Int32).toNatClampNeg))]) hG hR dL_law_1629 (lkL_178 _ rfl) okV_X12_guard rfl rfl (om_guard (d := 1999) (by decide)) rfl rfl (by decide) (by decide) (by decide) (by first | decide | exact Nat.le_of_ble_eq_true rfl) (pm_ki (fun v σ' cnt' hq => ?_))
  obtain rfl := hq
  refine pm_icmp_eq (tgt := 2105) hG dL_law_1632 rfl (fun _ => ?_) (fun q => absurd rfl q)
  exact law_tail hG hs hE (Nat.le_of_ble_eq_true rfl) (Nat.le_of_ble_eq_true rfl)

set_option maxRecDepth 100000 in
set_option maxHeartbeats 4000000 in
theorem law_night {nm : String} {G : pm_G} {B b : Nat} {xs : Nat → Int32} {fw : Nat → Int32} (hG : pm_ok (mL_law nm) G B) (hR : pm_rm G 2000 600000 7302250) (hs : pm_scr G B b 6 xs) (hE : pm_lend nm G B) : pm_wp (mL_law nm) G B 1637 [some (.ref b), some (.ref (B + 0)), some (.ref (B + 54)), some (.int 0)] [] 74 7345 74 (pm_cat (pm_ofL (l_k_class B fw)) 54 (l_k_model B)) := by
  refine pm_aloadn hG dL_law_1637 rfl ?_
  refine pm_aloadn hG dL_law_1638 rfl ?_
  refine pm_iloadn hG dL_law_1639 rfl ?_
  refine pm_iconst (v := 1) hG dL_law_1640 (by decide) ?_
  refine pm_iadd hG dL_law_1641 ?_
  refine pm_top (v := 1) (by decide) ?_
  refine pm_sld hG hs dL_law_1642 (pm_inb (by decide)) ?_
  refine pm_aloadn hG dL_law_1643 rfl ?_
  refine pm_iloadn hG dL_law_1644 rfl ?_
  refine pm_iconst (v := 2) hG dL_law_1645 (by decide) ?_
  refine pm_iadd hG dL_law_1646 ?_
  refine pm_top (v := 2) (by decide) ?_
  refine pm_sld hG hs dL_law_1647 (pm_inb (by decide)) ?_
  refine pm_aloadn hG dL_law_1648 rfl ?_
  refine pm_iloadn hG dL_law_1649 rfl ?_
  refine pm_iconst (v := 3) hG dL_law_1650 (by decide) ?_
  refine pm_iadd hG dL_law_1651 ?_
  refine pm_top (v := 3) (by decide) ?_
  refine pm_sld hG hs dL_law_1652 (pm_inb (by decide)) ?_
  refine pm_aloadn hG dL_law_1653 rfl ?_
  refine pm_iloadn hG dL_law_1654 rfl ?_
  refine pm_iconst (v := 4) hG dL_law_1655 (by decide) ?_
  refine pm_iadd hG dL_law_1656 ?_
  refine pm_top (v := 4) (by decide) ?_
  refine pm_sld hG hs dL_law_1657 (pm_inb (by decide)) ?_
  refine pm_callV (As := [.int (xs (1 : Int32).toNatClampNeg), .int (xs (2 : Int32).toNatClampNeg), .int (xs (3 : Int32).toNatClampNeg), .int (xs (4 : Int32).toNatClampNeg)]) (rest := []) hG hR dL_law_1658 (lkL_179 _ rfl) okV_X11_night rfl rfl (oc_night (R := l_k_model B) (d := 1999) (by decide)) rfl rfl (by decide) (by decide) (by decide) (by decide) (pm_ki (fun v σ' cnt' hq => ?_))
  obtain ⟨rfl, hl, rfl⟩ := hq
  refine pm_weak (pm_lies_sub hl) ?_
  refine pm_aloadn hG dL_law_1661 rfl ?_
  refine pm_aloadn hG dL_law_1662 rfl ?_
  refine pm_iloadn hG dL_law_1663 rfl ?_
  refine pm_iconst (v := 1) hG dL_law_1664 (by decide) ?_
  refine pm_iadd hG dL_law_1665 ?_
  refine pm_top (v := 1) (by decide) ?_
  refine pm_sld hG hs dL_law_1666 (pm_inb (by decide)) ?_
  refine pm_aloadn hG dL_law_1667 rfl ?_
  refine pm_iloadn hG dL_law_1668 rfl ?_
  refine pm_iconst (v := 2) hG dL_law_1669 (by decide) ?_
  refine pm_iadd hG dL_law_1670 ?_
  refine pm_top (v := 2) (by decide) ?_
  refine pm_sld hG hs dL_law_1671 (pm_inb (by decide)) ?_
  refine pm_aloadn hG dL_law_1672 rfl ?_
  refine pm_iloadn hG dL_law_1673 rfl ?_
  refine pm_iconst (v := 3) hG dL_law_1674 (by decide) ?_
  refine pm_iadd hG dL_law_1675 ?_
  refine pm_top (v := 3) (by decide) ?_
  refine pm_sld hG hs dL_law_1676 (pm_inb (by decide)) ?_
  refine pm_aloadn hG dL_law_1677 rfl ?_
  refine pm_iloadn hG dL_law_1678 rfl ?_
  refine pm_iconst (v := 4) hG dL_law_1679 (by decide) ?_
  refine pm_iadd hG dL_law_1680 ?_
  refine pm_top (v := 4) (by decide) ?_
  refine pm_sld hG hs dL_law_1681 (pm_inb (by decide)) ?_
  refine pm_callV (As := [.int (xs (1 : Int32).toNatClampNeg), .int (xs (2 : Int32).toNatClampNeg), .int (xs (3 : Int32).toNatClampNeg), .int (xs (4 : Int32).toNatClampNeg)]) (rest := [.int (v_night (xs (1 : Int32).toNatClampNeg) (xs (2 : Int32).toNatClampNeg) (xs (3 : Int32).toNatClampNeg) (xs (4 : Int32).toNatClampNeg))]) hG hR dL_law_1682 (lkL_182 _ rfl) okV_X12_night rfl rfl (om_night (d := 1999) (by decide)) rfl rfl (by decide) (by decide) (by decide) (by first | decide | exact Nat.le_of_ble_eq_true rfl) (pm_ki (fun v σ' cnt' hq => ?_))
  obtain rfl := hq
  refine pm_icmp_eq (tgt := 2105) hG dL_law_1685 rfl (fun _ => ?_) (fun q => absurd rfl q)
  exact law_tail hG hs hE (Nat.le_of_ble_eq_true rfl) (Nat.le_of_ble_eq_true rfl)

set_option maxRecDepth 100000 in
set_option maxHeartbeats 4000000 in
theorem law_heir {nm : String} {G : pm_G} {B b : Nat} {xs : Nat → Int32} {fw : Nat → Int32} (hG : pm_ok (mL_law nm) G B) (hR : pm_rm G 2000 600000 7302250) (hs : pm_scr G B b 6 xs) (hE : pm_lend nm G B) : pm_wp (mL_law nm) G B 1690 [some (.ref b), some (.ref (B + 0)), some (.ref (B + 54)), some (.int 0)] [] 74 7345 74 (pm_cat (pm_ofL (l_k_class B fw)) 54 (l_k_model B)) := by
  refine pm_aloadn hG dL_law_1690 rfl ?_
  refine pm_aloadn hG dL_law_1691 rfl ?_
  refine pm_iloadn hG dL_law_1692 rfl ?_
  refine pm_iconst (v := 1) hG dL_law_1693 (by decide) ?_
  refine pm_iadd hG dL_law_1694 ?_
  refine pm_top (v := 1) (by decide) ?_
  refine pm_sld hG hs dL_law_1695 (pm_inb (by decide)) ?_
  refine pm_callV (As := [.int (xs (1 : Int32).toNatClampNeg)]) (rest := []) hG hR dL_law_1696 (lkL_183 _ rfl) okV_X11_heir rfl rfl (oc_heir (R := l_k_model B) (d := 1999) (by decide)) rfl rfl (by decide) (by decide) (by decide) (by decide) (pm_ki (fun v σ' cnt' hq => ?_))
  obtain ⟨rfl, hl, rfl⟩ := hq
  refine pm_weak (pm_lies_sub hl) ?_
  refine pm_aloadn hG dL_law_1699 rfl ?_
  refine pm_aloadn hG dL_law_1700 rfl ?_
  refine pm_iloadn hG dL_law_1701 rfl ?_
  refine pm_iconst (v := 1) hG dL_law_1702 (by decide) ?_
  refine pm_iadd hG dL_law_1703 ?_
  refine pm_top (v := 1) (by decide) ?_
  refine pm_sld hG hs dL_law_1704 (pm_inb (by decide)) ?_
  refine pm_callV (As := [.int (xs (1 : Int32).toNatClampNeg)]) (rest := [.int (v_heir (xs (1 : Int32).toNatClampNeg))]) hG hR dL_law_1705 (lkL_186 _ rfl) okV_X12_heir rfl rfl (om_heir (d := 1999) (by decide)) rfl rfl (by decide) (by decide) (by decide) (by first | decide | exact Nat.le_of_ble_eq_true rfl) (pm_ki (fun v σ' cnt' hq => ?_))
  obtain rfl := hq
  refine pm_icmp_eq (tgt := 2105) hG dL_law_1708 rfl (fun _ => ?_) (fun q => absurd rfl q)
  exact law_tail hG hs hE (Nat.le_of_ble_eq_true rfl) (Nat.le_of_ble_eq_true rfl)

set_option maxRecDepth 100000 in
set_option maxHeartbeats 4000000 in
theorem law_age {nm : String} {G : pm_G} {B b : Nat} {xs : Nat → Int32} {fw : Nat → Int32} (hG : pm_ok (mL_law nm) G B) (hR : pm_rm G 2000 600000 7302250) (hs : pm_scr G B b 6 xs) (hE : pm_lend nm G B) : pm_wp (mL_law nm) G B 1713 [some (.ref b), some (.ref (B + 0)), some (.ref (B + 54)), some (.int 0)] [] 74 7345 74 (pm_cat (pm_ofL (l_k_class B fw)) 54 (l_k_model B)) := by
  refine pm_aloadn hG dL_law_1713 rfl ?_
  refine pm_callV (As := []) (rest := []) hG hR dL_law_1714 (lkL_187 _ rfl) okV_X11_age rfl rfl (oc_age (R := l_k_model B) (d := 1999) (by decide)) rfl rfl (by decide) (by decide) (by decide) (by decide) (pm_ki (fun v σ' cnt' hq => ?_))
  obtain ⟨rfl, hl, rfl⟩ := hq
  refine pm_weak (pm_lies_sub hl) ?_
  refine pm_aloadn hG dL_law_1717 rfl ?_
  refine pm_callV (As := []) (rest := [.int v_age]) hG hR dL_law_1718 (lkL_190 _ rfl) okV_X12_age rfl rfl (om_age (d := 1999) (by decide)) rfl rfl (by decide) (by decide) (by decide) (by first | decide | exact Nat.le_of_ble_eq_true rfl) (pm_ki (fun v σ' cnt' hq => ?_))
  obtain rfl := hq
  refine pm_icmp_eq (tgt := 2105) hG dL_law_1721 rfl (fun _ => ?_) (fun q => absurd rfl q)
  exact law_tail hG hs hE (Nat.le_of_ble_eq_true rfl) (Nat.le_of_ble_eq_true rfl)

set_option maxRecDepth 100000 in
set_option maxHeartbeats 4000000 in
theorem law_after {nm : String} {G : pm_G} {B b : Nat} {xs : Nat → Int32} {fw : Nat → Int32} (hG : pm_ok (mL_law nm) G B) (hR : pm_rm G 2000 600000 7302250) (hs : pm_scr G B b 6 xs) (hE : pm_lend nm G B) : pm_wp (mL_law nm) G B 1726 [some (.ref b), some (.ref (B + 0)), some (.ref (B + 54)), some (.int 0)] [] 74 7345 74 (pm_cat (pm_ofL (l_k_class B fw)) 54 (l_k_model B)) := by
  refine pm_aloadn hG dL_law_1726 rfl ?_
  refine pm_aloadn hG dL_law_1727 rfl ?_
  refine pm_iloadn hG dL_law_1728 rfl ?_
  refine pm_iconst (v := 1) hG dL_law_1729 (by decide) ?_
  refine pm_iadd hG dL_law_1730 ?_
  refine pm_top (v := 1) (by decide) ?_
  refine pm_sld hG hs dL_law_1731 (pm_inb (by decide)) ?_
  refine pm_callV (As := [.int (xs (1 : Int32).toNatClampNeg)]) (rest := []) hG hR dL_law_1732 (lkL_191 _ rfl) okV_X11_after rfl rfl (oc_after (R := l_k_model B) (d := 1999) (by decide)) rfl rfl (by decide) (by decide) (by decide) (by decide) (pm_ki (fun v σ' cnt' hq => ?_))
  obtain ⟨rfl, hl, rfl⟩ := hq
  refine pm_weak (pm_lies_sub hl) ?_
  refine pm_aloadn hG dL_law_1735 rfl ?_
  refine pm_aloadn hG dL_law_1736 rfl ?_
  refine pm_iloadn hG dL_law_1737 rfl ?_
  refine pm_iconst (v := 1) hG dL_law_1738 (by decide) ?_
  refine pm_iadd hG dL_law_1739 ?_
  refine pm_top (v := 1) (by decide) ?_
  refine pm_sld hG hs dL_law_1740 (pm_inb (by decide)) ?_
  refine pm_callV (As := [.int (xs (1 : Int32).toNatClampNeg)]) (rest := [.int (v_after (xs (1 : Int32).toNatClampNeg))]) hG hR dL_law_1741 (lkL_194 _ rfl) okV_X12_after rfl rfl (om_after (d := 1999) (by decide)) rfl rfl (by decide) (by decide) (by decide) (by first | decide | exact Nat.le_of_ble_eq_true rfl) (pm_ki (fun v σ' cnt' hq => ?_))
  obtain rfl := hq
  refine pm_icmp_eq (tgt := 2105) hG dL_law_1744 rfl (fun _ => ?_) (fun q => absurd rfl q)
  exact law_tail hG hs hE (Nat.le_of_ble_eq_true rfl) (Nat.le_of_ble_eq_true rfl)

set_option maxRecDepth 100000 in
set_option maxHeartbeats 4000000 in
theorem law_plan {nm : String} {G : pm_G} {B b : Nat} {xs : Nat → Int32} {fw : Nat → Int32} (hG : pm_ok (mL_law nm) G B) (hR : pm_rm G 2000 600000 7302250) (hs : pm_scr G B b 6 xs) (hE : pm_lend nm G B) : pm_wp (mL_law nm) G B 1749 [some (.ref b), some (.ref (B + 0)), some (.ref (B + 54)), some (.int 0)] [] 74 7345 74 (pm_cat (pm_ofL (l_k_class B fw)) 54 (l_k_model B)) := by
  refine pm_aloadn hG dL_law_1749 rfl ?_
  refine pm_aloadn hG dL_law_1750 rfl ?_
  refine pm_iloadn hG dL_law_1751 rfl ?_
  refine pm_iconst (v := 1) hG dL_law_1752 (by decide) ?_
  refine pm_iadd hG dL_law_1753 ?_
  refine pm_top (v := 1) (by decide) ?_
  refine pm_sld hG hs dL_law_1754 (pm_inb (by decide)) ?_
  refine pm_aloadn hG dL_law_1755 rfl ?_
  refine pm_iloadn hG dL_law_1756 rfl ?_
  refine pm_iconst (v := 2) hG dL_law_1757 (by decide) ?_
  refine pm_iadd hG dL_law_1758 ?_
  refine pm_top (v := 2) (by decide) ?_
  refine pm_sld hG hs dL_law_1759 (pm_inb (by decide)) ?_
  refine pm_callV (As := [.int (xs (1 : Int32).toNatClampNeg), .int (xs (2 : Int32).toNatClampNeg)]) (rest := []) hG hR dL_law_1760 (lkL_195 _ rfl) okV_X11_plan rfl rfl (oc_plan (R := l_k_model B) (d := 1999) (by decide)) rfl rfl (by decide) (by decide) (by decide) (by decide) (pm_ki (fun v σ' cnt' hq => ?_))
  obtain ⟨rfl, hl, rfl⟩ := hq
  refine pm_weak (pm_lies_sub hl) ?_
  refine pm_aloadn hG dL_law_1763 rfl ?_
  refine pm_aloadn hG dL_law_1764 rfl ?_
  refine pm_iloadn hG dL_law_1765 rfl ?_
  refine pm_iconst (v := 1) hG dL_law_1766 (by decide) ?_
  refine pm_iadd hG dL_law_1767 ?_
  refine pm_top (v := 1) (by decide) ?_
  refine pm_sld hG hs dL_law_1768 (pm_inb (by decide)) ?_
  refine pm_aloadn hG dL_law_1769 rfl ?_
  refine pm_iloadn hG dL_law_1770 rfl ?_
  refine pm_iconst (v := 2) hG dL_law_1771 (by decide) ?_
  refine pm_iadd hG dL_law_1772 ?_
  refine pm_top (v := 2) (by decide) ?_
  refine pm_sld hG hs dL_law_1773 (pm_inb (by decide)) ?_
  refine pm_callV (As := [.int (xs (1 : Int32).toNatClampNeg), .int (xs (2 : Int32).toNatClampNeg)]) (rest := [.int (v_plan (xs (1 : Int32).toNatClampNeg) (xs (2 : Int32).toNatClampNeg))]) hG hR dL_law_1774 (lkL_198 _ rfl) okV_X12_plan rfl rfl (om_plan (d := 1999) (by decide)) rfl rfl (by decide) (by decide) (by decide) (by first | decide | exact Nat.le_of_ble_eq_true rfl) (pm_ki (fun v σ' cnt' hq => ?_))
  obtain rfl := hq
  refine pm_icmp_eq (tgt := 2105) hG dL_law_1777 rfl (fun _ => ?_) (fun q => absurd rfl q)
  exact law_tail hG hs hE (Nat.le_of_ble_eq_true rfl) (Nat.le_of_ble_eq_true rfl)

set_option maxRecDepth 100000 in
set_option maxHeartbeats 4000000 in
theorem law_voice {nm : String} {G : pm_G} {B b : Nat} {xs : Nat → Int32} {fw : Nat → Int32} (hG : pm_ok (mL_law nm) G B) (hR : pm_rm G 2000 600000 7302250) (hs : pm_scr G B b 6 xs) (hE : pm_lend nm G B) : pm_wp (mL_law nm) G B 1782 [some (.ref b), some (.ref (B + 0)), some (.ref (B + 54)), some (.int 0)] [] 74 7345 74 (pm_cat (pm_ofL (l_k_class B fw)) 54 (l_k_model B)) := by
  refine pm_aloadn hG dL_law_1782 rfl ?_
  refine pm_aloadn hG dL_law_1783 rfl ?_
  refine pm_iloadn hG dL_law_1784 rfl ?_
  refine pm_iconst (v := 1) hG dL_law_1785 (by decide) ?_
  refine pm_iadd hG dL_law_1786 ?_
  refine pm_top (v := 1) (by decide) ?_
  refine pm_sld hG hs dL_law_1787 (pm_inb (by decide)) ?_
  refine pm_aloadn hG dL_law_1788 rfl ?_
  refine pm_iloadn hG dL_law_1789 rfl ?_
  refine pm_iconst (v := 2) hG dL_law_1790 (by decide) ?_
  refine pm_iadd hG dL_law_1791 ?_
  refine pm_top (v := 2) (by decide) ?_
  refine pm_sld hG hs dL_law_1792 (pm_inb (by decide)) ?_
  refine pm_aloadn hG dL_law_1793 rfl ?_
  refine pm_iloadn hG dL_law_1794 rfl ?_
  refine pm_iconst (v := 3) hG dL_law_1795 (by decide) ?_
  refine pm_iadd hG dL_law_1796 ?_
  refine pm_top (v := 3) (by decide) ?_
  refine pm_sld hG hs dL_law_1797 (pm_inb (by decide)) ?_
  refine pm_callV (As := [.int (xs (1 : Int32).toNatClampNeg), .int (xs (2 : Int32).toNatClampNeg), .int (xs (3 : Int32).toNatClampNeg)]) (rest := []) hG hR dL_law_1798 (lkL_199 _ rfl) okV_X11_voice rfl rfl (oc_voice (R := l_k_model B) (d := 1999) (by decide)) rfl rfl (by decide) (by decide) (by decide) (by decide) (pm_ki (fun v σ' cnt' hq => ?_))
  obtain ⟨rfl, hl, rfl⟩ := hq
  refine pm_weak (pm_lies_sub hl) ?_
  refine pm_aloadn hG dL_law_1801 rfl ?_
  refine pm_aloadn hG dL_law_1802 rfl ?_
  refine pm_iloadn hG dL_law_1803 rfl ?_
  refine pm_iconst (v := 1) hG dL_law_1804 (by decide) ?_
  refine pm_iadd hG dL_law_1805 ?_
  refine pm_top (v := 1) (by decide) ?_
  refine pm_sld hG hs dL_law_1806 (pm_inb (by decide)) ?_
  refine pm_aloadn hG dL_law_1807 rfl ?_
  refine pm_iloadn hG dL_law_1808 rfl ?_
  refine pm_iconst (v := 2) hG dL_law_1809 (by decide) ?_
  refine pm_iadd hG dL_law_1810 ?_
  refine pm_top (v := 2) (by decide) ?_
  refine pm_sld hG hs dL_law_1811 (pm_inb (by decide)) ?_
  refine pm_aloadn hG dL_law_1812 rfl ?_
  refine pm_iloadn hG dL_law_1813 rfl ?_
  refine pm_iconst (v := 3) hG dL_law_1814 (by decide) ?_
  refine pm_iadd hG dL_law_1815 ?_
  refine pm_top (v := 3) (by decide) ?_
  refine pm_sld hG hs dL_law_1816 (pm_inb (by decide)) ?_
  refine pm_callV (As := [.int (xs (1 : Int32).toNatClampNeg), .int (xs (2 : Int32).toNatClampNeg), .int (xs (3 : Int32).toNatClampNeg)]) (rest := [.int (v_voice (xs (1 : Int32).toNatClampNeg) (xs (2 : Int32).toNatClampNeg) (xs (3 : Int32).toNatClampNeg))]) hG hR dL_law_1817 (lkL_202 _ rfl) okV_X12_voice rfl rfl (om_voice (d := 1999) (by decide)) rfl rfl (by decide) (by decide) (by decide) (by first | decide | exact Nat.le_of_ble_eq_true rfl) (pm_ki (fun v σ' cnt' hq => ?_))
  obtain rfl := hq
  refine pm_icmp_eq (tgt := 2105) hG dL_law_1820 rfl (fun _ => ?_) (fun q => absurd rfl q)
  exact law_tail hG hs hE (Nat.le_of_ble_eq_true rfl) (Nat.le_of_ble_eq_true rfl)

set_option maxRecDepth 100000 in
set_option maxHeartbeats 4000000 in
theorem law_trace {nm : String} {G : pm_G} {B b : Nat} {xs : Nat → Int32} {fw : Nat → Int32} (hG : pm_ok (mL_law nm) G B) (hR : pm_rm G 2000 600000 7302250) (hs : pm_scr G B b 6 xs) (hE : pm_lend nm G B) : pm_wp (mL_law nm) G B 1825 [some (.ref b), some (.ref (B + 0)), some (.ref (B + 54)), some (.int 0)] [] 74 7345 74 (pm_cat (pm_ofL (l_k_class B fw)) 54 (l_k_model B)) := by
  refine pm_aloadn hG dL_law_1825 rfl ?_
  refine pm_aloadn hG dL_law_1826 rfl ?_
  refine pm_iloadn hG dL_law_1827 rfl ?_
  refine pm_iconst (v := 1) hG dL_law_1828 (by decide) ?_
  refine pm_iadd hG dL_law_1829 ?_
  refine pm_top (v := 1) (by decide) ?_
  refine pm_sld hG hs dL_law_1830 (pm_inb (by decide)) ?_
  refine pm_callV (As := [.int (xs (1 : Int32).toNatClampNeg)]) (rest := []) hG hR dL_law_1831 (lkL_203 _ rfl) okV_X11_trace rfl rfl (oc_trace (R := l_k_model B) (d := 1999) (by decide)) rfl rfl (by decide) (by decide) (by decide) (by decide) (pm_ki (fun v σ' cnt' hq => ?_))
  obtain ⟨rfl, hl, rfl⟩ := hq
  refine pm_weak (pm_lies_sub hl) ?_
  refine pm_aloadn hG dL_law_1834 rfl ?_
  refine pm_aloadn hG dL_law_1835 rfl ?_
  refine pm_iloadn hG dL_law_1836 rfl ?_
  refine pm_iconst (v := 1) hG dL_law_1837 (by decide) ?_
  refine pm_iadd hG dL_law_1838 ?_
  refine pm_top (v := 1) (by decide) ?_
  refine pm_sld hG hs dL_law_1839 (pm_inb (by decide)) ?_
  refine pm_callV (As := [.int (xs (1 : Int32).toNatClampNeg)]) (rest := [.int (v_trace (xs (1 : Int32).toNatClampNeg))]) hG hR dL_law_1840 (lkL_206 _ rfl) okV_X12_trace rfl rfl (om_trace (d := 1999) (by decide)) rfl rfl (by decide) (by decide) (by decide) (by first | decide | exact Nat.le_of_ble_eq_true rfl) (pm_ki (fun v σ' cnt' hq => ?_))
  obtain rfl := hq
  refine pm_icmp_eq (tgt := 2105) hG dL_law_1843 rfl (fun _ => ?_) (fun q => absurd rfl q)
  exact law_tail hG hs hE (Nat.le_of_ble_eq_true rfl) (Nat.le_of_ble_eq_true rfl)

set_option maxRecDepth 100000 in
set_option maxHeartbeats 4000000 in
theorem law_sheet {nm : String} {G : pm_G} {B b : Nat} {xs : Nat → Int32} {fw : Nat → Int32} (hG : pm_ok (mL_law nm) G B) (hR : pm_rm G 2000 600000 7302250) (hs : pm_scr G B b 6 xs) (hE : pm_lend nm G B) : pm_wp (mL_law nm) G B 1848 [some (.ref b), some (.ref (B + 0)), some (.ref (B + 54)), some (.int 0)] [] 74 7345 74 (pm_cat (pm_ofL (l_k_class B fw)) 54 (l_k_model B)) := by
  refine pm_aloadn hG dL_law_1848 rfl ?_
  refine pm_aloadn hG dL_law_1849 rfl ?_
  refine pm_iloadn hG dL_law_1850 rfl ?_
  refine pm_iconst (v := 1) hG dL_law_1851 (by decide) ?_
  refine pm_iadd hG dL_law_1852 ?_
  refine pm_top (v := 1) (by decide) ?_
  refine pm_sld hG hs dL_law_1853 (pm_inb (by decide)) ?_
  refine pm_aloadn hG dL_law_1854 rfl ?_
  refine pm_iloadn hG dL_law_1855 rfl ?_
  refine pm_iconst (v := 2) hG dL_law_1856 (by decide) ?_
  refine pm_iadd hG dL_law_1857 ?_
  refine pm_top (v := 2) (by decide) ?_
  refine pm_sld hG hs dL_law_1858 (pm_inb (by decide)) ?_
  refine pm_aloadn hG dL_law_1859 rfl ?_
  refine pm_iloadn hG dL_law_1860 rfl ?_
  refine pm_iconst (v := 3) hG dL_law_1861 (by decide) ?_
  refine pm_iadd hG dL_law_1862 ?_
  refine pm_top (v := 3) (by decide) ?_
  refine pm_sld hG hs dL_law_1863 (pm_inb (by decide)) ?_
  refine pm_callV (As := [.int (xs (1 : Int32).toNatClampNeg), .int (xs (2 : Int32).toNatClampNeg), .int (xs (3 : Int32).toNatClampNeg)]) (rest := []) hG hR dL_law_1864 (lkL_207 _ rfl) okV_X11_sheet rfl rfl (oc_sheet (R := l_k_model B) (d := 1999) (by decide)) rfl rfl (by decide) (by decide) (by decide) (by decide) (pm_ki (fun v σ' cnt' hq => ?_))
  obtain ⟨rfl, hl, rfl⟩ := hq
  refine pm_weak (pm_lies_sub hl) ?_
  refine pm_aloadn hG dL_law_1867 rfl ?_
  refine pm_aloadn hG dL_law_1868 rfl ?_
  refine pm_iloadn hG dL_law_1869 rfl ?_
  refine pm_iconst (v := 1) hG dL_law_1870 (by decide) ?_
  refine pm_iadd hG dL_law_1871 ?_
  refine pm_top (v := 1) (by decide) ?_
  refine pm_sld hG hs dL_law_1872 (pm_inb (by decide)) ?_
  refine pm_aloadn hG dL_law_1873 rfl ?_
  refine pm_iloadn hG dL_law_1874 rfl ?_
  refine pm_iconst (v := 2) hG dL_law_1875 (by decide) ?_
  refine pm_iadd hG dL_law_1876 ?_
  refine pm_top (v := 2) (by decide) ?_
  refine pm_sld hG hs dL_law_1877 (pm_inb (by decide)) ?_
  refine pm_aloadn hG dL_law_1878 rfl ?_
  refine pm_iloadn hG dL_law_1879 rfl ?_
  refine pm_iconst (v := 3) hG dL_law_1880 (by decide) ?_
  refine pm_iadd hG dL_law_1881 ?_
  refine pm_top (v := 3) (by decide) ?_
  refine pm_sld hG hs dL_law_1882 (pm_inb (by decide)) ?_
  refine pm_callV (As := [.int (xs (1 : Int32).toNatClampNeg), .int (xs (2 : Int32).toNatClampNeg), .int (xs (3 : Int32).toNatClampNeg)]) (rest := [.int (v_sheet (xs (1 : Int32).toNatClampNeg) (xs (2 : Int32).toNatClampNeg) (xs (3 : Int32).toNatClampNeg))]) hG hR dL_law_1883 (lkL_210 _ rfl) okV_X12_sheet rfl rfl (om_sheet (d := 1999) (by decide)) rfl rfl (by decide) (by decide) (by decide) (by first | decide | exact Nat.le_of_ble_eq_true rfl) (pm_ki (fun v σ' cnt' hq => ?_))
  obtain rfl := hq
  refine pm_icmp_eq (tgt := 2105) hG dL_law_1886 rfl (fun _ => ?_) (fun q => absurd rfl q)
  exact law_tail hG hs hE (Nat.le_of_ble_eq_true rfl) (Nat.le_of_ble_eq_true rfl)

set_option maxRecDepth 100000 in
set_option maxHeartbeats 4000000 in
theorem law_put {nm : String} {G : pm_G} {B b : Nat} {xs : Nat → Int32} {fw : Nat → Int32} (hG : pm_ok (mL_law nm) G B) (hR : pm_rm G 2000 600000 7302250) (hs : pm_scr G B b 6 xs) (hE : pm_lend nm G B) : pm_wp (mL_law nm) G B 1891 [some (.ref b), some (.ref (B + 0)), some (.ref (B + 54)), some (.int 0)] [] 74 7345 74 (pm_cat (pm_ofL (l_k_class B fw)) 54 (l_k_model B)) := by
  refine pm_aloadn hG dL_law_1891 rfl ?_
  refine pm_aloadn hG dL_law_1892 rfl ?_
  refine pm_iloadn hG dL_law_1893 rfl ?_
  refine pm_iconst (v := 1) hG dL_law_1894 (by decide) ?_
  refine pm_iadd hG dL_law_1895 ?_
  refine pm_top (v := 1) (by decide) ?_
  refine pm_sld hG hs dL_law_1896 (pm_inb (by decide)) ?_
  refine pm_aloadn hG dL_law_1897 rfl ?_
  refine pm_iloadn hG dL_law_1898 rfl ?_
  refine pm_iconst (v := 2) hG dL_law_1899 (by decide) ?_
  refine pm_iadd hG dL_law_1900 ?_
  refine pm_top (v := 2) (by decide) ?_
  refine pm_sld hG hs dL_law_1901 (pm_inb (by decide)) ?_
  refine pm_aloadn hG dL_law_1902 rfl ?_
  refine pm_iloadn hG dL_law_1903 rfl ?_
  refine pm_iconst (v := 3) hG dL_law_1904 (by decide) ?_
  refine pm_iadd hG dL_law_1905 ?_
  refine pm_top (v := 3) (by decide) ?_
  refine pm_sld hG hs dL_law_1906 (pm_inb (by decide)) ?_
  refine pm_callV (As := [.int (xs (1 : Int32).toNatClampNeg), .int (xs (2 : Int32).toNatClampNeg), .int (xs (3 : Int32).toNatClampNeg)]) (rest := []) hG hR dL_law_1907 (lkL_211 _ rfl) okV_X11_put rfl rfl (oc_put (R := l_k_model B) (d := 1999) (by decide)) rfl rfl (by decide) (by decide) (by decide) (by decide) (pm_ki (fun v σ' cnt' hq => ?_))
  obtain ⟨rfl, hl, rfl⟩ := hq
  refine pm_weak (pm_lies_sub hl) ?_
  refine pm_aloadn hG dL_law_1910 rfl ?_
  refine pm_aloadn hG dL_law_1911 rfl ?_
  refine pm_iloadn hG dL_law_1912 rfl ?_
  refine pm_iconst (v := 1) hG dL_law_1913 (by decide) ?_
  refine pm_iadd hG dL_law_1914 ?_
  refine pm_top (v := 1) (by decide) ?_
  refine pm_sld hG hs dL_law_1915 (pm_inb (by decide)) ?_
  refine pm_aloadn hG dL_law_1916 rfl ?_
  refine pm_iloadn hG dL_law_1917 rfl ?_
  refine pm_iconst (v := 2) hG dL_law_1918 (by decide) ?_
  refine pm_iadd hG dL_law_1919 ?_
  refine pm_top (v := 2) (by decide) ?_
  refine pm_sld hG hs dL_law_1920 (pm_inb (by decide)) ?_
  refine pm_aloadn hG dL_law_1921 rfl ?_
  refine pm_iloadn hG dL_law_1922 rfl ?_
  refine pm_iconst (v := 3) hG dL_law_1923 (by decide) ?_
  refine pm_iadd hG dL_law_1924 ?_
  refine pm_top (v := 3) (by decide) ?_
  refine pm_sld hG hs dL_law_1925 (pm_inb (by decide)) ?_
  refine pm_callV (As := [.int (xs (1 : Int32).toNatClampNeg), .int (xs (2 : Int32).toNatClampNeg), .int (xs (3 : Int32).toNatClampNeg)]) (rest := [.int (v_put (xs (1 : Int32).toNatClampNeg) (xs (2 : Int32).toNatClampNeg) (xs (3 : Int32).toNatClampNeg))]) hG hR dL_law_1926 (lkL_214 _ rfl) okV_X12_put rfl rfl (om_put (d := 1999) (by decide)) rfl rfl (by decide) (by decide) (by decide) (by first | decide | exact Nat.le_of_ble_eq_true rfl) (pm_ki (fun v σ' cnt' hq => ?_))
  obtain rfl := hq
  refine pm_icmp_eq (tgt := 2105) hG dL_law_1929 rfl (fun _ => ?_) (fun q => absurd rfl q)
  exact law_tail hG hs hE (Nat.le_of_ble_eq_true rfl) (Nat.le_of_ble_eq_true rfl)

set_option maxRecDepth 100000 in
set_option maxHeartbeats 4000000 in
theorem law_move {nm : String} {G : pm_G} {B b : Nat} {xs : Nat → Int32} {fw : Nat → Int32} (hG : pm_ok (mL_law nm) G B) (hR : pm_rm G 2000 600000 7302250) (hs : pm_scr G B b 6 xs) (hE : pm_lend nm G B) : pm_wp (mL_law nm) G B 1934 [some (.ref b), some (.ref (B + 0)), some (.ref (B + 54)), some (.int 0)] [] 74 7345 74 (pm_cat (pm_ofL (l_k_class B fw)) 54 (l_k_model B)) := by
  refine pm_aloadn hG dL_law_1934 rfl ?_
  refine pm_aloadn hG dL_law_1935 rfl ?_
  refine pm_iloadn hG dL_law_1936 rfl ?_
  refine pm_iconst (v := 1) hG dL_law_1937 (by decide) ?_
  refine pm_iadd hG dL_law_1938 ?_
  refine pm_top (v := 1) (by decide) ?_
  refine pm_sld hG hs dL_law_1939 (pm_inb (by decide)) ?_
  refine pm_aloadn hG dL_law_1940 rfl ?_
  refine pm_iloadn hG dL_law_1941 rfl ?_
  refine pm_iconst (v := 2) hG dL_law_1942 (by decide) ?_
  refine pm_iadd hG dL_law_1943 ?_
  refine pm_top (v := 2) (by decide) ?_
  refine pm_sld hG hs dL_law_1944 (pm_inb (by decide)) ?_
  refine pm_aloadn hG dL_law_1945 rfl ?_
  refine pm_iloadn hG dL_law_1946 rfl ?_
  refine pm_iconst (v := 3) hG dL_law_1947 (by decide) ?_
  refine pm_iadd hG dL_law_1948 ?_
  refine pm_top (v := 3) (by decide) ?_
  refine pm_sld hG hs dL_law_1949 (pm_inb (by decide)) ?_
  refine pm_aloadn hG dL_law_1950 rfl ?_
  refine pm_iloadn hG dL_law_1951 rfl ?_
  refine pm_iconst (v := 4) hG dL_law_1952 (by decide) ?_
  refine pm_iadd hG dL_law_1953 ?_
  refine pm_top (v := 4) (by decide) ?_
  refine pm_sld hG hs dL_law_1954 (pm_inb (by decide)) ?_
  refine pm_aloadn hG dL_law_1955 rfl ?_
  refine pm_iloadn hG dL_law_1956 rfl ?_
  refine pm_iconst (v := 5) hG dL_law_1957 (by decide) ?_
  refine pm_iadd hG dL_law_1958 ?_
  refine pm_top (v := 5) (by decide) ?_
  refine pm_sld hG hs dL_law_1959 (pm_inb (by decide)) ?_
  refine pm_callV (As := [.int (xs (1 : Int32).toNatClampNeg), .int (xs (2 : Int32).toNatClampNeg), .int (xs (3 : Int32).toNatClampNeg), .int (xs (4 : Int32).toNatClampNeg), .int (xs (5 : Int32).toNatClampNeg)]) (rest := []) hG hR dL_law_1960 (lkL_215 _ rfl) okV_X11_move rfl rfl (oc_move (R := l_k_model B) (d := 1999) (by decide)) rfl rfl (by decide) (by decide) (by decide) (by decide) (pm_ki (fun v σ' cnt' hq => ?_))
  obtain ⟨rfl, hl, rfl⟩ := hq
  refine pm_weak (pm_lies_sub hl) ?_
  refine pm_aloadn hG dL_law_1963 rfl ?_
  refine pm_aloadn hG dL_law_1964 rfl ?_
  refine pm_iloadn hG dL_law_1965 rfl ?_
  refine pm_iconst (v := 1) hG dL_law_1966 (by decide) ?_
  refine pm_iadd hG dL_law_1967 ?_
  refine pm_top (v := 1) (by decide) ?_
  refine pm_sld hG hs dL_law_1968 (pm_inb (by decide)) ?_
  refine pm_aloadn hG dL_law_1969 rfl ?_
  refine pm_iloadn hG dL_law_1970 rfl ?_
  refine pm_iconst (v := 2) hG dL_law_1971 (by decide) ?_
  refine pm_iadd hG dL_law_1972 ?_
  refine pm_top (v := 2) (by decide) ?_
  refine pm_sld hG hs dL_law_1973 (pm_inb (by decide)) ?_
  refine pm_aloadn hG dL_law_1974 rfl ?_
  refine pm_iloadn hG dL_law_1975 rfl ?_
  refine pm_iconst (v := 3) hG dL_law_1976 (by decide) ?_
  refine pm_iadd hG dL_law_1977 ?_
  refine pm_top (v := 3) (by decide) ?_
  refine pm_sld hG hs dL_law_1978 (pm_inb (by decide)) ?_
  refine pm_aloadn hG dL_law_1979 rfl ?_
  refine pm_iloadn hG dL_law_1980 rfl ?_
  refine pm_iconst (v := 4) hG dL_law_1981 (by decide) ?_
  refine pm_iadd hG dL_law_1982 ?_
  refine pm_top (v := 4) (by decide) ?_
  refine pm_sld hG hs dL_law_1983 (pm_inb (by decide)) ?_
  refine pm_aloadn hG dL_law_1984 rfl ?_
  refine pm_iloadn hG dL_law_1985 rfl ?_
  refine pm_iconst (v := 5) hG dL_law_1986 (by decide) ?_
  refine pm_iadd hG dL_law_1987 ?_
  refine pm_top (v := 5) (by decide) ?_
  refine pm_sld hG hs dL_law_1988 (pm_inb (by decide)) ?_
  refine pm_callV (As := [.int (xs (1 : Int32).toNatClampNeg), .int (xs (2 : Int32).toNatClampNeg), .int (xs (3 : Int32).toNatClampNeg), .int (xs (4 : Int32).toNatClampNeg), .int (xs (5 : Int32).toNatClampNeg)]) (rest := [.int (v_move (xs (1 : Int32).toNatClampNeg) (xs (2 : Int32).toNatClampNeg) (xs (3 : Int32).toNatClampNeg) (xs (4 : Int32).toNatClampNeg) (xs (5 : Int32).toNatClampNeg))]) hG hR dL_law_1989 (lkL_219 _ rfl) okV_X12_move rfl rfl (om_move (d := 1999) (by decide)) rfl rfl (by decide) (by decide) (by decide) (by first | decide | exact Nat.le_of_ble_eq_true rfl) (pm_ki (fun v σ' cnt' hq => ?_))
  obtain rfl := hq
  refine pm_icmp_eq (tgt := 2105) hG dL_law_1992 rfl (fun _ => ?_) (fun q => absurd rfl q)
  exact law_tail hG hs hE (Nat.le_of_ble_eq_true rfl) (Nat.le_of_ble_eq_true rfl)

set_option maxRecDepth 100000 in
set_option maxHeartbeats 4000000 in
theorem law_image {nm : String} {G : pm_G} {B b : Nat} {xs : Nat → Int32} {fw : Nat → Int32} (hG : pm_ok (mL_law nm) G B) (hR : pm_rm G 2000 600000 7302250) (hs : pm_scr G B b 6 xs) (hE : pm_lend nm G B) : pm_wp (mL_law nm) G B 1997 [some (.ref b), some (.ref (B + 0)), some (.ref (B + 54)), some (.int 0)] [] 74 7345 74 (pm_cat (pm_ofL (l_k_class B fw)) 54 (l_k_model B)) := by
  refine pm_aloadn hG dL_law_1997 rfl ?_
  refine pm_callV (As := []) (rest := []) hG hR dL_law_1998 (lkL_220 _ rfl) okV_X11_image rfl rfl (oc_image (R := l_k_model B) (d := 1999) (by decide) (Nat.le_of_ble_eq_true rfl)) rfl rfl (by decide) (by decide) (by decide) (by decide) (pm_ki (fun v σ' cnt' hq => ?_))
  obtain ⟨rfl, hl, rfl⟩ := hq
  refine pm_weak (pm_lies_sub hl) ?_
  refine pm_aloadn hG dL_law_2001 rfl ?_
  refine pm_callV (As := []) (rest := [.int v_image]) hG hR dL_law_2002 (lkL_223 _ rfl) okV_X12_image rfl rfl (om_image9 (d := 1999) (by decide)) rfl rfl (by decide) (by decide) (by decide) (by first | decide | exact Nat.le_of_ble_eq_true rfl) (pm_ki (fun v σ' cnt' hq => ?_))
  obtain rfl := hq
  refine pm_icmp_eq (tgt := 2105) hG dL_law_2005 rfl (fun _ => ?_) (fun q => absurd rfl q)
  exact law_tail hG hs hE (Nat.le_of_ble_eq_true rfl) (Nat.le_of_ble_eq_true rfl)

set_option maxRecDepth 100000 in
set_option maxHeartbeats 4000000 in
theorem law_restore {nm : String} {G : pm_G} {B b : Nat} {xs : Nat → Int32} {fw : Nat → Int32} (hG : pm_ok (mL_law nm) G B) (hR : pm_rm G 2000 600000 7302250) (hs : pm_scr G B b 6 xs) (hE : pm_lend nm G B) : pm_wp (mL_law nm) G B 2010 [some (.ref b), some (.ref (B + 0)), some (.ref (B + 54)), some (.int 0)] [] 74 7345 74 (pm_cat (pm_ofL (l_k_class B fw)) 54 (l_k_model B)) := by
  refine pm_aloadn hG dL_law_2010 rfl ?_
  refine pm_callV (As := []) (rest := []) hG hR dL_law_2011 (lkL_224 _ rfl) okV_X11_restore rfl rfl (oc_restore (R := l_k_model B) (d := 1999) (by decide)) rfl rfl (by decide) (by decide) (by decide) (by decide) (pm_ki (fun v σ' cnt' hq => ?_))
  obtain ⟨rfl, hl, rfl⟩ := hq
  refine pm_weak (pm_lies_sub hl) ?_
  refine pm_aloadn hG dL_law_2014 rfl ?_
  refine pm_callV (As := []) (rest := [.int v_restore]) hG hR dL_law_2015 (lkL_227 _ rfl) okV_X12_restore rfl rfl (om_restore (d := 1999) (by decide)) rfl rfl (by decide) (by decide) (by decide) (by first | decide | exact Nat.le_of_ble_eq_true rfl) (pm_ki (fun v σ' cnt' hq => ?_))
  obtain rfl := hq
  refine pm_icmp_eq (tgt := 2105) hG dL_law_2018 rfl (fun _ => ?_) (fun q => absurd rfl q)
  exact law_tail hG hs hE (Nat.le_of_ble_eq_true rfl) (Nat.le_of_ble_eq_true rfl)

set_option maxRecDepth 100000 in
set_option maxHeartbeats 4000000 in
theorem law_tell {nm : String} {G : pm_G} {B b : Nat} {xs : Nat → Int32} {fw : Nat → Int32} (hG : pm_ok (mL_law nm) G B) (hR : pm_rm G 2000 600000 7302250) (hs : pm_scr G B b 6 xs) (hE : pm_lend nm G B) : pm_wp (mL_law nm) G B 2023 [some (.ref b), some (.ref (B + 0)), some (.ref (B + 54)), some (.int 0)] [] 74 7345 74 (pm_cat (pm_ofL (l_k_class B fw)) 54 (l_k_model B)) := by
  refine pm_aloadn hG dL_law_2023 rfl ?_
  refine pm_aloadn hG dL_law_2024 rfl ?_
  refine pm_iloadn hG dL_law_2025 rfl ?_
  refine pm_iconst (v := 1) hG dL_law_2026 (by decide) ?_
  refine pm_iadd hG dL_law_2027 ?_
  refine pm_top (v := 1) (by decide) ?_
  refine pm_sld hG hs dL_law_2028 (pm_inb (by decide)) ?_
  refine pm_callV (As := [.int (xs (1 : Int32).toNatClampNeg)]) (rest := []) hG hR dL_law_2029 (lkL_228 _ rfl) okV_X11_tell rfl rfl (oc_tell (R := l_k_model B) (d := 1999) (by decide)) rfl rfl (by decide) (by decide) (by decide) (by decide) (pm_ki (fun v σ' cnt' hq => ?_))
  obtain ⟨rfl, hl, rfl⟩ := hq
  refine pm_weak (pm_lies_sub hl) ?_
  refine pm_aloadn hG dL_law_2032 rfl ?_
  refine pm_aloadn hG dL_law_2033 rfl ?_
  refine pm_iloadn hG dL_law_2034 rfl ?_
  refine pm_iconst (v := 1) hG dL_law_2035 (by decide) ?_
  refine pm_iadd hG dL_law_2036 ?_
  refine pm_top (v := 1) (by decide) ?_
  refine pm_sld hG hs dL_law_2037 (pm_inb (by decide)) ?_
  refine pm_callV (As := [.int (xs (1 : Int32).toNatClampNeg)]) (rest := [.int (v_tell (xs (1 : Int32).toNatClampNeg))]) hG hR dL_law_2038 (lkL_231 _ rfl) okV_X12_tell rfl rfl (om_tell (d := 1999) (by decide)) rfl rfl (by decide) (by decide) (by decide) (by first | decide | exact Nat.le_of_ble_eq_true rfl) (pm_ki (fun v σ' cnt' hq => ?_))
  obtain rfl := hq
  refine pm_icmp_eq (tgt := 2105) hG dL_law_2041 rfl (fun _ => ?_) (fun q => absurd rfl q)
  exact law_tail hG hs hE (Nat.le_of_ble_eq_true rfl) (Nat.le_of_ble_eq_true rfl)

set_option maxRecDepth 100000 in
set_option maxHeartbeats 4000000 in
theorem law_check {nm : String} {G : pm_G} {B b : Nat} {xs : Nat → Int32} {fw : Nat → Int32} (hG : pm_ok (mL_law nm) G B) (hR : pm_rm G 2000 600000 7302250) (hs : pm_scr G B b 6 xs) (hE : pm_lend nm G B) : pm_wp (mL_law nm) G B 2046 [some (.ref b), some (.ref (B + 0)), some (.ref (B + 54)), some (.int 0)] [] 74 7345 74 (pm_cat (pm_ofL (l_k_class B fw)) 54 (l_k_model B)) := by
  refine pm_aloadn hG dL_law_2046 rfl ?_
  refine pm_callV (As := []) (rest := []) hG hR dL_law_2047 (lkL_232 _ rfl) okV_X11_check rfl rfl (oc_check (R := l_k_model B) (d := 1999) (by decide)) rfl rfl (by decide) (by decide) (by decide) (by decide) (pm_ki (fun v σ' cnt' hq => ?_))
  obtain ⟨rfl, hl, rfl⟩ := hq
  refine pm_weak (pm_lies_sub hl) ?_
  refine pm_aloadn hG dL_law_2050 rfl ?_
  refine pm_callV (As := []) (rest := [.int v_check]) hG hR dL_law_2051 (lkL_235 _ rfl) okV_X12_check rfl rfl (om_check (d := 1999) (by decide)) rfl rfl (by decide) (by decide) (by decide) (by first | decide | exact Nat.le_of_ble_eq_true rfl) (pm_ki (fun v σ' cnt' hq => ?_))
  obtain rfl := hq
  refine pm_icmp_eq (tgt := 2105) hG dL_law_2054 rfl (fun _ => ?_) (fun q => absurd rfl q)
  exact law_tail hG hs hE (Nat.le_of_ble_eq_true rfl) (Nat.le_of_ble_eq_true rfl)

set_option maxRecDepth 100000 in
set_option maxHeartbeats 4000000 in
theorem law_count {nm : String} {G : pm_G} {B b : Nat} {xs : Nat → Int32} {fw : Nat → Int32} (hG : pm_ok (mL_law nm) G B) (hR : pm_rm G 2000 600000 7302250) (hs : pm_scr G B b 6 xs) (hE : pm_lend nm G B) : pm_wp (mL_law nm) G B 2059 [some (.ref b), some (.ref (B + 0)), some (.ref (B + 54)), some (.int 0)] [] 74 7345 74 (pm_cat (pm_ofL (l_k_class B fw)) 54 (l_k_model B)) := by
  refine pm_aloadn hG dL_law_2059 rfl ?_
  refine pm_aloadn hG dL_law_2060 rfl ?_
  refine pm_iloadn hG dL_law_2061 rfl ?_
  refine pm_iconst (v := 1) hG dL_law_2062 (by decide) ?_
  refine pm_iadd hG dL_law_2063 ?_
  refine pm_top (v := 1) (by decide) ?_
  refine pm_sld hG hs dL_law_2064 (pm_inb (by decide)) ?_
  refine pm_callV (As := [.int (xs (1 : Int32).toNatClampNeg)]) (rest := []) hG hR dL_law_2065 (lkL_236 _ rfl) okV_X11_count rfl rfl (oc_count (R := l_k_model B) (d := 1999) (by decide)) rfl rfl (by decide) (by decide) (by decide) (by decide) (pm_ki (fun v σ' cnt' hq => ?_))
  obtain ⟨rfl, hl, rfl⟩ := hq
  refine pm_weak (pm_lies_sub hl) ?_
  refine pm_aloadn hG dL_law_2068 rfl ?_
  refine pm_aloadn hG dL_law_2069 rfl ?_
  refine pm_iloadn hG dL_law_2070 rfl ?_
  refine pm_iconst (v := 1) hG dL_law_2071 (by decide) ?_
  refine pm_iadd hG dL_law_2072 ?_
  refine pm_top (v := 1) (by decide) ?_
  refine pm_sld hG hs dL_law_2073 (pm_inb (by decide)) ?_
  refine pm_callV (As := [.int (xs (1 : Int32).toNatClampNeg)]) (rest := [.int (v_count (xs (1 : Int32).toNatClampNeg))]) hG hR dL_law_2074 (lkL_239 _ rfl) okV_X12_count rfl rfl (om_count (d := 1999) (by decide)) rfl rfl (by decide) (by decide) (by decide) (by first | decide | exact Nat.le_of_ble_eq_true rfl) (pm_ki (fun v σ' cnt' hq => ?_))
  obtain rfl := hq
  refine pm_icmp_eq (tgt := 2105) hG dL_law_2077 rfl (fun _ => ?_) (fun q => absurd rfl q)
  exact law_tail hG hs hE (Nat.le_of_ble_eq_true rfl) (Nat.le_of_ble_eq_true rfl)

set_option maxRecDepth 100000 in
set_option maxHeartbeats 4000000 in
theorem law_found {nm : String} {G : pm_G} {B b : Nat} {xs : Nat → Int32} {fw : Nat → Int32} (hG : pm_ok (mL_law nm) G B) (hR : pm_rm G 2000 600000 7302250) (hs : pm_scr G B b 6 xs) (hE : pm_lend nm G B) : pm_wp (mL_law nm) G B 2082 [some (.ref b), some (.ref (B + 0)), some (.ref (B + 54)), some (.int 0)] [] 74 7345 74 (pm_cat (pm_ofL (l_k_class B fw)) 54 (l_k_model B)) := by
  refine pm_aloadn hG dL_law_2082 rfl ?_
  refine pm_aloadn hG dL_law_2083 rfl ?_
  refine pm_iloadn hG dL_law_2084 rfl ?_
  refine pm_iconst (v := 1) hG dL_law_2085 (by decide) ?_
  refine pm_iadd hG dL_law_2086 ?_
  refine pm_top (v := 1) (by decide) ?_
  refine pm_sld hG hs dL_law_2087 (pm_inb (by decide)) ?_
  refine pm_callV (As := [.int (xs (1 : Int32).toNatClampNeg)]) (rest := []) hG hR dL_law_2088 (lkL_240 _ rfl) okV_X11_found rfl rfl (oc_found (R := l_k_model B) (d := 1999) (by decide)) rfl rfl (by decide) (by decide) (by decide) (by decide) (pm_ki (fun v σ' cnt' hq => ?_))
  obtain ⟨rfl, hl, rfl⟩ := hq
  refine pm_weak (pm_lies_sub hl) ?_
  refine pm_aloadn hG dL_law_2091 rfl ?_
  refine pm_aloadn hG dL_law_2092 rfl ?_
  refine pm_iloadn hG dL_law_2093 rfl ?_
  refine pm_iconst (v := 1) hG dL_law_2094 (by decide) ?_
  refine pm_iadd hG dL_law_2095 ?_
  refine pm_top (v := 1) (by decide) ?_
  refine pm_sld hG hs dL_law_2096 (pm_inb (by decide)) ?_
  refine pm_callV (As := [.int (xs (1 : Int32).toNatClampNeg)]) (rest := [.int (v_found (xs (1 : Int32).toNatClampNeg))]) hG hR dL_law_2097 (lkL_243 _ rfl) okV_X12_found rfl rfl (om_found (d := 1999) (by decide)) rfl rfl (by decide) (by decide) (by decide) (by first | decide | exact Nat.le_of_ble_eq_true rfl) (pm_ki (fun v σ' cnt' hq => ?_))
  obtain rfl := hq
  refine pm_icmp_eq (tgt := 2105) hG dL_law_2100 rfl (fun _ => ?_) (fun q => absurd rfl q)
  exact law_tail hG hs hE (Nat.le_of_ble_eq_true rfl) (Nat.le_of_ble_eq_true rfl)
