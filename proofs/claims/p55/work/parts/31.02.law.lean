set_option maxRecDepth 100000 in
set_option maxHeartbeats 4000000 in
theorem law_breaks {nm : String} {G : pm_G} {B b cs zs cnt L i w : Nat} {σ : pm_S} {xs : Nat → Int32} (hG : pm_ok (mL_law nm) G B) (hR : pm_rm G 2000 600000 7302250) (hs : pm_scr G B b L xs) (hi : i + 6 ≤ L) (hL : L ≤ 3072) (hc : cs ≤ 590000) (hz : zs ≤ 7200000) (hw : w ≤ 1000) (hl : LI B σ cnt w) (hT : ∀ (σ' : pm_S) (cnt' cs' zs' : Nat), LI B σ' cnt' (w + 1) → cs' ≤ cs + 27 → zs' ≤ zs + 2170 → pm_wp (mL_law nm) G B 2105 [some (.ref b), some (.ref (B + 0)), some (.ref (B + 54)), some (.int (nI i))] [] cs' zs' cnt' σ') : pm_wp (mL_law nm) G B 1482 [some (.ref b), some (.ref (B + 0)), some (.ref (B + 54)), some (.int (nI i))] [] cs zs cnt σ := by
  obtain ⟨h74, kp, S, T, lc, lm, ⟨K, h⟩, hx, hk⟩ := hl
  refine pm_weak (pm_sub_two lc) ?_
  refine pm_aloadn hG dL_law_1482 rfl ?_
  refine pm_aloadn hG dL_law_1483 rfl ?_
  refine pm_iloadn hG dL_law_1484 rfl ?_
  refine pm_iconst (v := nI 1) hG dL_law_1485 (by decide) ?_
  refine pm_iaddN (c := i + 1) hG dL_law_1486 (by omega) ?_
  refine pm_sldN hG hs dL_law_1487 (by omega) hL ?_
  obtain ⟨v, S1, T1, e1, e2, hr1, hx1, kx⟩ := (op_breaks (za := xs (i + 1)) h).x hx
  refine pm_callV (As := [.int (xs (i + 1))]) (rest := []) hG hR dL_law_1488 (lkL_159 _ rfl) okV_X11_breaks rfl rfl (c_X11_breaks (d := 1999) (by decide) e1) rfl rfl (by decide) (by omega) (by omega) (by decide) (pm_ki (fun v1 σ1 cnt1 hq => ?_))
  obtain ⟨rfl, rfl, rfl⟩ := hq
  have lm1 : pm_lies (cst B kp S1 σ) 54 (md_F B T.1 T.2) := lm.same (fun j h1 _ => pm_two_hi h1)
  refine pm_weak (pm_sub_mid lm1) ?_
  refine pm_pop hG dL_law_1491 rfl ?_
  refine pm_aloadn hG dL_law_1492 rfl ?_
  refine pm_aloadn hG dL_law_1493 rfl ?_
  refine pm_iloadn hG dL_law_1494 rfl ?_
  refine pm_iconst (v := nI 1) hG dL_law_1495 (by decide) ?_
  refine pm_iaddN (c := i + 1) hG dL_law_1496 (by omega) ?_
  refine pm_sldN hG hs dL_law_1497 (by omega) hL ?_
  refine pm_callV (As := [.int (xs (i + 1))]) (rest := []) hG hR dL_law_1498 (lkL_162 _ rfl) okV_X12_breaks rfl rfl (c_X12_breaks (d := 1999) (by decide) e2) rfl rfl (by decide) (by omega) (by omega) (by decide) (pm_ki (fun v2 σ2 cnt2 hq => ?_))
  obtain ⟨rfl, rfl, rfl⟩ := hq
  refine pm_pop hG dL_law_1501 rfl ?_
  refine pm_goto (tgt := 2105) hG dL_law_1502 rfl ?_
  exact hT _ _ _ _ (LI.nx h74 hk hr1 hx1 kx) (by omega) (by omega)

set_option maxRecDepth 100000 in
set_option maxHeartbeats 4000000 in
theorem law_cause {nm : String} {G : pm_G} {B b cs zs cnt L i w : Nat} {σ : pm_S} {xs : Nat → Int32} (hG : pm_ok (mL_law nm) G B) (hR : pm_rm G 2000 600000 7302250) (hs : pm_scr G B b L xs) (hi : i + 6 ≤ L) (hL : L ≤ 3072) (hc : cs ≤ 590000) (hz : zs ≤ 7200000) (hw : w ≤ 1000) (hl : LI B σ cnt w) (hT : ∀ (σ' : pm_S) (cnt' cs' zs' : Nat), LI B σ' cnt' (w + 1) → cs' ≤ cs + 27 → zs' ≤ zs + 2170 → pm_wp (mL_law nm) G B 2105 [some (.ref b), some (.ref (B + 0)), some (.ref (B + 54)), some (.int (nI i))] [] cs' zs' cnt' σ') : pm_wp (mL_law nm) G B 1505 [some (.ref b), some (.ref (B + 0)), some (.ref (B + 54)), some (.int (nI i))] [] cs zs cnt σ := by
  obtain ⟨h74, kp, S, T, lc, lm, ⟨K, h⟩, hx, hk⟩ := hl
  refine pm_weak (pm_sub_two lc) ?_
  refine pm_aloadn hG dL_law_1505 rfl ?_
  refine pm_aloadn hG dL_law_1506 rfl ?_
  refine pm_iloadn hG dL_law_1507 rfl ?_
  refine pm_iconst (v := nI 1) hG dL_law_1508 (by decide) ?_
  refine pm_iaddN (c := i + 1) hG dL_law_1509 (by omega) ?_
  refine pm_sldN hG hs dL_law_1510 (by omega) hL ?_
  refine pm_aloadn hG dL_law_1511 rfl ?_
  refine pm_iloadn hG dL_law_1512 rfl ?_
  refine pm_iconst (v := nI 2) hG dL_law_1513 (by decide) ?_
  refine pm_iaddN (c := i + 2) hG dL_law_1514 (by omega) ?_
  refine pm_sldN hG hs dL_law_1515 (by omega) hL ?_
  obtain ⟨v, u, S1, T1, e1, e2, hr1, hx1, kx⟩ := (op_cause (za := xs (i + 1)) (zb := xs (i + 2)) h).x hx
  refine pm_callV (As := [.int (xs (i + 1)), .int (xs (i + 2))]) (rest := []) hG hR dL_law_1516 (lkL_163 _ rfl) okV_X11_cause rfl rfl (c_X11_cause (d := 1999) (by decide) e1) rfl rfl (by decide) (by omega) (by omega) (by decide) (pm_ki (fun v1 σ1 cnt1 hq => ?_))
  obtain ⟨rfl, rfl, rfl⟩ := hq
  have lm1 : pm_lies (cst B kp S1 σ) 54 (md_F B T.1 T.2) := lm.same (fun j h1 _ => pm_two_hi h1)
  refine pm_weak (pm_sub_mid lm1) ?_
  refine pm_pop hG dL_law_1519 rfl ?_
  refine pm_aloadn hG dL_law_1520 rfl ?_
  refine pm_aloadn hG dL_law_1521 rfl ?_
  refine pm_iloadn hG dL_law_1522 rfl ?_
  refine pm_iconst (v := nI 1) hG dL_law_1523 (by decide) ?_
  refine pm_iaddN (c := i + 1) hG dL_law_1524 (by omega) ?_
  refine pm_sldN hG hs dL_law_1525 (by omega) hL ?_
  refine pm_aloadn hG dL_law_1526 rfl ?_
  refine pm_iloadn hG dL_law_1527 rfl ?_
  refine pm_iconst (v := nI 2) hG dL_law_1528 (by decide) ?_
  refine pm_iaddN (c := i + 2) hG dL_law_1529 (by omega) ?_
  refine pm_sldN hG hs dL_law_1530 (by omega) hL ?_
  refine pm_callV (As := [.int (xs (i + 1)), .int (xs (i + 2))]) (rest := []) hG hR dL_law_1531 (lkL_166 _ rfl) okV_X12_cause rfl rfl (c_X12_cause (d := 1999) (by decide) e2) rfl rfl (by decide) (by omega) (by omega) (by decide) (pm_ki (fun v2 σ2 cnt2 hq => ?_))
  obtain ⟨rfl, rfl, rfl⟩ := hq
  refine pm_pop hG dL_law_1534 rfl ?_
  refine pm_goto (tgt := 2105) hG dL_law_1535 rfl ?_
  exact hT _ _ _ _ (LI.nx h74 hk hr1 hx1 kx) (by omega) (by omega)

set_option maxRecDepth 100000 in
set_option maxHeartbeats 4000000 in
theorem law_price {nm : String} {G : pm_G} {B b cs zs cnt L i w : Nat} {σ : pm_S} {xs : Nat → Int32} (hG : pm_ok (mL_law nm) G B) (hR : pm_rm G 2000 600000 7302250) (hs : pm_scr G B b L xs) (hi : i + 6 ≤ L) (hL : L ≤ 3072) (hc : cs ≤ 590000) (hz : zs ≤ 7200000) (hw : w ≤ 1000) (hl : LI B σ cnt w) (hT : ∀ (σ' : pm_S) (cnt' cs' zs' : Nat), LI B σ' cnt' (w + 1) → cs' ≤ cs + 27 → zs' ≤ zs + 2170 → pm_wp (mL_law nm) G B 2105 [some (.ref b), some (.ref (B + 0)), some (.ref (B + 54)), some (.int (nI i))] [] cs' zs' cnt' σ') : pm_wp (mL_law nm) G B 1538 [some (.ref b), some (.ref (B + 0)), some (.ref (B + 54)), some (.int (nI i))] [] cs zs cnt σ := by
  obtain ⟨h74, kp, S, T, lc, lm, ⟨K, h⟩, hx, hk⟩ := hl
  refine pm_weak (pm_sub_two lc) ?_
  refine pm_aloadn hG dL_law_1538 rfl ?_
  refine pm_aloadn hG dL_law_1539 rfl ?_
  refine pm_iloadn hG dL_law_1540 rfl ?_
  refine pm_iconst (v := nI 1) hG dL_law_1541 (by decide) ?_
  refine pm_iaddN (c := i + 1) hG dL_law_1542 (by omega) ?_
  refine pm_sldN hG hs dL_law_1543 (by omega) hL ?_
  refine pm_aloadn hG dL_law_1544 rfl ?_
  refine pm_iloadn hG dL_law_1545 rfl ?_
  refine pm_iconst (v := nI 2) hG dL_law_1546 (by decide) ?_
  refine pm_iaddN (c := i + 2) hG dL_law_1547 (by omega) ?_
  refine pm_sldN hG hs dL_law_1548 (by omega) hL ?_
  obtain ⟨v, S1, T1, e1, e2, hr1, hx1, kx⟩ := (op_price (za := xs (i + 1)) (zb := xs (i + 2)) h).x hx
  refine pm_callV (As := [.int (xs (i + 1)), .int (xs (i + 2))]) (rest := []) hG hR dL_law_1549 (lkL_167 _ rfl) okV_X11_price rfl rfl (c_X11_price (d := 1999) (by decide) e1) rfl rfl (by decide) (by omega) (by omega) (by decide) (pm_ki (fun v1 σ1 cnt1 hq => ?_))
  obtain ⟨rfl, rfl, rfl⟩ := hq
  have lm1 : pm_lies (cst B kp S1 σ) 54 (md_F B T.1 T.2) := lm.same (fun j h1 _ => pm_two_hi h1)
  refine pm_weak (pm_sub_mid lm1) ?_
  refine pm_pop hG dL_law_1552 rfl ?_
  refine pm_aloadn hG dL_law_1553 rfl ?_
  refine pm_aloadn hG dL_law_1554 rfl ?_
  refine pm_iloadn hG dL_law_1555 rfl ?_
  refine pm_iconst (v := nI 1) hG dL_law_1556 (by decide) ?_
  refine pm_iaddN (c := i + 1) hG dL_law_1557 (by omega) ?_
  refine pm_sldN hG hs dL_law_1558 (by omega) hL ?_
  refine pm_aloadn hG dL_law_1559 rfl ?_
  refine pm_iloadn hG dL_law_1560 rfl ?_
  refine pm_iconst (v := nI 2) hG dL_law_1561 (by decide) ?_
  refine pm_iaddN (c := i + 2) hG dL_law_1562 (by omega) ?_
  refine pm_sldN hG hs dL_law_1563 (by omega) hL ?_
  refine pm_callV (As := [.int (xs (i + 1)), .int (xs (i + 2))]) (rest := []) hG hR dL_law_1564 (lkL_170 _ rfl) okV_X12_price rfl rfl (c_X12_price (d := 1999) (by decide) e2) rfl rfl (by decide) (by omega) (by omega) (by decide) (pm_ki (fun v2 σ2 cnt2 hq => ?_))
  obtain ⟨rfl, rfl, rfl⟩ := hq
  refine pm_pop hG dL_law_1567 rfl ?_
  refine pm_goto (tgt := 2105) hG dL_law_1568 rfl ?_
  exact hT _ _ _ _ (LI.nx h74 hk hr1 hx1 kx) (by omega) (by omega)

set_option maxRecDepth 100000 in
set_option maxHeartbeats 4000000 in
theorem law_buying {nm : String} {G : pm_G} {B b cs zs cnt L i w : Nat} {σ : pm_S} {xs : Nat → Int32} (hG : pm_ok (mL_law nm) G B) (hR : pm_rm G 2000 600000 7302250) (hs : pm_scr G B b L xs) (hi : i + 6 ≤ L) (hL : L ≤ 3072) (hc : cs ≤ 590000) (hz : zs ≤ 7200000) (hw : w ≤ 1000) (hl : LI B σ cnt w) (hT : ∀ (σ' : pm_S) (cnt' cs' zs' : Nat), LI B σ' cnt' (w + 1) → cs' ≤ cs + 27 → zs' ≤ zs + 2170 → pm_wp (mL_law nm) G B 2105 [some (.ref b), some (.ref (B + 0)), some (.ref (B + 54)), some (.int (nI i))] [] cs' zs' cnt' σ') : pm_wp (mL_law nm) G B 1571 [some (.ref b), some (.ref (B + 0)), some (.ref (B + 54)), some (.int (nI i))] [] cs zs cnt σ := by
  obtain ⟨h74, kp, S, T, lc, lm, ⟨K, h⟩, hx, hk⟩ := hl
  refine pm_weak (pm_sub_two lc) ?_
  refine pm_aloadn hG dL_law_1571 rfl ?_
  refine pm_aloadn hG dL_law_1572 rfl ?_
  refine pm_iloadn hG dL_law_1573 rfl ?_
  refine pm_iconst (v := nI 1) hG dL_law_1574 (by decide) ?_
  refine pm_iaddN (c := i + 1) hG dL_law_1575 (by omega) ?_
  refine pm_sldN hG hs dL_law_1576 (by omega) hL ?_
  refine pm_aloadn hG dL_law_1577 rfl ?_
  refine pm_iloadn hG dL_law_1578 rfl ?_
  refine pm_iconst (v := nI 2) hG dL_law_1579 (by decide) ?_
  refine pm_iaddN (c := i + 2) hG dL_law_1580 (by omega) ?_
  refine pm_sldN hG hs dL_law_1581 (by omega) hL ?_
  obtain ⟨v, u, S1, T1, e1, e2, hr1, hx1, kx⟩ := (op_buying (za := xs (i + 1)) (zb := xs (i + 2)) h).x hx
  refine pm_callV (As := [.int (xs (i + 1)), .int (xs (i + 2))]) (rest := []) hG hR dL_law_1582 (lkL_171 _ rfl) okV_X11_buying rfl rfl (c_X11_buying (d := 1999) (by decide) e1) rfl rfl (by decide) (by omega) (by omega) (by decide) (pm_ki (fun v1 σ1 cnt1 hq => ?_))
  obtain ⟨rfl, rfl, rfl⟩ := hq
  have lm1 : pm_lies (cst B kp S1 σ) 54 (md_F B T.1 T.2) := lm.same (fun j h1 _ => pm_two_hi h1)
  refine pm_weak (pm_sub_mid lm1) ?_
  refine pm_pop hG dL_law_1585 rfl ?_
  refine pm_aloadn hG dL_law_1586 rfl ?_
  refine pm_aloadn hG dL_law_1587 rfl ?_
  refine pm_iloadn hG dL_law_1588 rfl ?_
  refine pm_iconst (v := nI 1) hG dL_law_1589 (by decide) ?_
  refine pm_iaddN (c := i + 1) hG dL_law_1590 (by omega) ?_
  refine pm_sldN hG hs dL_law_1591 (by omega) hL ?_
  refine pm_aloadn hG dL_law_1592 rfl ?_
  refine pm_iloadn hG dL_law_1593 rfl ?_
  refine pm_iconst (v := nI 2) hG dL_law_1594 (by decide) ?_
  refine pm_iaddN (c := i + 2) hG dL_law_1595 (by omega) ?_
  refine pm_sldN hG hs dL_law_1596 (by omega) hL ?_
  refine pm_callV (As := [.int (xs (i + 1)), .int (xs (i + 2))]) (rest := []) hG hR dL_law_1597 (lkL_174 _ rfl) okV_X12_buying rfl rfl (c_X12_buying (d := 1999) (by decide) h74 e2) rfl rfl (by decide) (by omega) (by omega) (by decide) (pm_ki (fun v2 σ2 cnt2 hq => ?_))
  obtain ⟨rfl, ⟨τ, rfl, ho⟩, hcc⟩ := hq
  refine pm_pop hG dL_law_1600 rfl ?_
  refine pm_goto (tgt := 2105) hG dL_law_1601 rfl ?_
  exact hT _ _ _ _ (LI.nxt h74 hk hr1 hx1 kx ho hcc) (by omega) (by omega)

set_option maxRecDepth 100000 in
set_option maxHeartbeats 4000000 in
theorem law_guard {nm : String} {G : pm_G} {B b cs zs cnt L i w : Nat} {σ : pm_S} {xs : Nat → Int32} (hG : pm_ok (mL_law nm) G B) (hR : pm_rm G 2000 600000 7302250) (hs : pm_scr G B b L xs) (hi : i + 6 ≤ L) (hL : L ≤ 3072) (hc : cs ≤ 590000) (hz : zs ≤ 7200000) (hw : w ≤ 1000) (hl : LI B σ cnt w) (hT : ∀ (σ' : pm_S) (cnt' cs' zs' : Nat), LI B σ' cnt' (w + 1) → cs' ≤ cs + 27 → zs' ≤ zs + 2170 → pm_wp (mL_law nm) G B 2105 [some (.ref b), some (.ref (B + 0)), some (.ref (B + 54)), some (.int (nI i))] [] cs' zs' cnt' σ') : pm_wp (mL_law nm) G B 1604 [some (.ref b), some (.ref (B + 0)), some (.ref (B + 54)), some (.int (nI i))] [] cs zs cnt σ := by
  obtain ⟨h74, kp, S, T, lc, lm, ⟨K, h⟩, hx, hk⟩ := hl
  refine pm_weak (pm_sub_two lc) ?_
  refine pm_aloadn hG dL_law_1604 rfl ?_
  refine pm_aloadn hG dL_law_1605 rfl ?_
  refine pm_iloadn hG dL_law_1606 rfl ?_
  refine pm_iconst (v := nI 1) hG dL_law_1607 (by decide) ?_
  refine pm_iaddN (c := i + 1) hG dL_law_1608 (by omega) ?_
  refine pm_sldN hG hs dL_law_1609 (by omega) hL ?_
  refine pm_aloadn hG dL_law_1610 rfl ?_
  refine pm_iloadn hG dL_law_1611 rfl ?_
  refine pm_iconst (v := nI 2) hG dL_law_1612 (by decide) ?_
  refine pm_iaddN (c := i + 2) hG dL_law_1613 (by omega) ?_
  refine pm_sldN hG hs dL_law_1614 (by omega) hL ?_
  obtain ⟨v, S1, T1, e1, e2, hr1, hx1, kx⟩ := (op_guard (za := xs (i + 1)) (zb := xs (i + 2)) h).x hx
  refine pm_callV (As := [.int (xs (i + 1)), .int (xs (i + 2))]) (rest := []) hG hR dL_law_1615 (lkL_175 _ rfl) okV_X11_guard rfl rfl (c_X11_guard (d := 1999) (by decide) e1) rfl rfl (by decide) (by omega) (by omega) (by decide) (pm_ki (fun v1 σ1 cnt1 hq => ?_))
  obtain ⟨rfl, rfl, rfl⟩ := hq
  have lm1 : pm_lies (cst B kp S1 σ) 54 (md_F B T.1 T.2) := lm.same (fun j h1 _ => pm_two_hi h1)
  refine pm_weak (pm_sub_mid lm1) ?_
  refine pm_pop hG dL_law_1618 rfl ?_
  refine pm_aloadn hG dL_law_1619 rfl ?_
  refine pm_aloadn hG dL_law_1620 rfl ?_
  refine pm_iloadn hG dL_law_1621 rfl ?_
  refine pm_iconst (v := nI 1) hG dL_law_1622 (by decide) ?_
  refine pm_iaddN (c := i + 1) hG dL_law_1623 (by omega) ?_
  refine pm_sldN hG hs dL_law_1624 (by omega) hL ?_
  refine pm_aloadn hG dL_law_1625 rfl ?_
  refine pm_iloadn hG dL_law_1626 rfl ?_
  refine pm_iconst (v := nI 2) hG dL_law_1627 (by decide) ?_
  refine pm_iaddN (c := i + 2) hG dL_law_1628 (by omega) ?_
  refine pm_sldN hG hs dL_law_1629 (by omega) hL ?_
  refine pm_callV (As := [.int (xs (i + 1)), .int (xs (i + 2))]) (rest := []) hG hR dL_law_1630 (lkL_178 _ rfl) okV_X12_guard rfl rfl (c_X12_guard (d := 1999) (by decide) e2) rfl rfl (by decide) (by omega) (by omega) (by decide) (pm_ki (fun v2 σ2 cnt2 hq => ?_))
  obtain ⟨rfl, rfl, rfl⟩ := hq
  refine pm_pop hG dL_law_1633 rfl ?_
  refine pm_goto (tgt := 2105) hG dL_law_1634 rfl ?_
  exact hT _ _ _ _ (LI.nx h74 hk hr1 hx1 kx) (by omega) (by omega)

set_option maxRecDepth 100000 in
set_option maxHeartbeats 4000000 in
theorem law_night {nm : String} {G : pm_G} {B b cs zs cnt L i w : Nat} {σ : pm_S} {xs : Nat → Int32} (hG : pm_ok (mL_law nm) G B) (hR : pm_rm G 2000 600000 7302250) (hs : pm_scr G B b L xs) (hi : i + 6 ≤ L) (hL : L ≤ 3072) (hc : cs ≤ 590000) (hz : zs ≤ 7200000) (hw : w ≤ 1000) (hl : LI B σ cnt w) (hT : ∀ (σ' : pm_S) (cnt' cs' zs' : Nat), LI B σ' cnt' (w + 1) → cs' ≤ cs + 27 → zs' ≤ zs + 2170 → pm_wp (mL_law nm) G B 2105 [some (.ref b), some (.ref (B + 0)), some (.ref (B + 54)), some (.int (nI i))] [] cs' zs' cnt' σ') : pm_wp (mL_law nm) G B 1637 [some (.ref b), some (.ref (B + 0)), some (.ref (B + 54)), some (.int (nI i))] [] cs zs cnt σ := by
  obtain ⟨h74, kp, S, T, lc, lm, ⟨K, h⟩, hx, hk⟩ := hl
  refine pm_weak (pm_sub_two lc) ?_
  refine pm_aloadn hG dL_law_1637 rfl ?_
  refine pm_aloadn hG dL_law_1638 rfl ?_
  refine pm_iloadn hG dL_law_1639 rfl ?_
  refine pm_iconst (v := nI 1) hG dL_law_1640 (by decide) ?_
  refine pm_iaddN (c := i + 1) hG dL_law_1641 (by omega) ?_
  refine pm_sldN hG hs dL_law_1642 (by omega) hL ?_
  refine pm_aloadn hG dL_law_1643 rfl ?_
  refine pm_iloadn hG dL_law_1644 rfl ?_
  refine pm_iconst (v := nI 2) hG dL_law_1645 (by decide) ?_
  refine pm_iaddN (c := i + 2) hG dL_law_1646 (by omega) ?_
  refine pm_sldN hG hs dL_law_1647 (by omega) hL ?_
  refine pm_aloadn hG dL_law_1648 rfl ?_
  refine pm_iloadn hG dL_law_1649 rfl ?_
  refine pm_iconst (v := nI 3) hG dL_law_1650 (by decide) ?_
  refine pm_iaddN (c := i + 3) hG dL_law_1651 (by omega) ?_
  refine pm_sldN hG hs dL_law_1652 (by omega) hL ?_
  refine pm_aloadn hG dL_law_1653 rfl ?_
  refine pm_iloadn hG dL_law_1654 rfl ?_
  refine pm_iconst (v := nI 4) hG dL_law_1655 (by decide) ?_
  refine pm_iaddN (c := i + 4) hG dL_law_1656 (by omega) ?_
  refine pm_sldN hG hs dL_law_1657 (by omega) hL ?_
  obtain ⟨v, u, S1, T1, e1, e2, hr1, hx1, kx⟩ := (op_night (za := xs (i + 1)) (zb := xs (i + 2)) (zc := xs (i + 3)) (zd := xs (i + 4)) h).x hx
  refine pm_callV (As := [.int (xs (i + 1)), .int (xs (i + 2)), .int (xs (i + 3)), .int (xs (i + 4))]) (rest := []) hG hR dL_law_1658 (lkL_179 _ rfl) okV_X11_night rfl rfl (c_X11_night (d := 1999) (by decide) e1) rfl rfl (by decide) (by omega) (by omega) (by decide) (pm_ki (fun v1 σ1 cnt1 hq => ?_))
  obtain ⟨rfl, rfl, rfl⟩ := hq
  have lm1 : pm_lies (cst B kp S1 σ) 54 (md_F B T.1 T.2) := lm.same (fun j h1 _ => pm_two_hi h1)
  refine pm_weak (pm_sub_mid lm1) ?_
  refine pm_pop hG dL_law_1661 rfl ?_
  refine pm_aloadn hG dL_law_1662 rfl ?_
  refine pm_aloadn hG dL_law_1663 rfl ?_
  refine pm_iloadn hG dL_law_1664 rfl ?_
  refine pm_iconst (v := nI 1) hG dL_law_1665 (by decide) ?_
  refine pm_iaddN (c := i + 1) hG dL_law_1666 (by omega) ?_
  refine pm_sldN hG hs dL_law_1667 (by omega) hL ?_
  refine pm_aloadn hG dL_law_1668 rfl ?_
  refine pm_iloadn hG dL_law_1669 rfl ?_
  refine pm_iconst (v := nI 2) hG dL_law_1670 (by decide) ?_
  refine pm_iaddN (c := i + 2) hG dL_law_1671 (by omega) ?_
  refine pm_sldN hG hs dL_law_1672 (by omega) hL ?_
  refine pm_aloadn hG dL_law_1673 rfl ?_
  refine pm_iloadn hG dL_law_1674 rfl ?_
  refine pm_iconst (v := nI 3) hG dL_law_1675 (by decide) ?_
  refine pm_iaddN (c := i + 3) hG dL_law_1676 (by omega) ?_
  refine pm_sldN hG hs dL_law_1677 (by omega) hL ?_
  refine pm_aloadn hG dL_law_1678 rfl ?_
  refine pm_iloadn hG dL_law_1679 rfl ?_
  refine pm_iconst (v := nI 4) hG dL_law_1680 (by decide) ?_
  refine pm_iaddN (c := i + 4) hG dL_law_1681 (by omega) ?_
  refine pm_sldN hG hs dL_law_1682 (by omega) hL ?_
  refine pm_callV (As := [.int (xs (i + 1)), .int (xs (i + 2)), .int (xs (i + 3)), .int (xs (i + 4))]) (rest := []) hG hR dL_law_1683 (lkL_182 _ rfl) okV_X12_night rfl rfl (c_X12_night (d := 1999) (by decide) e2) rfl rfl (by decide) (by omega) (by omega) (by decide) (pm_ki (fun v2 σ2 cnt2 hq => ?_))
  obtain ⟨rfl, rfl, rfl⟩ := hq
  refine pm_pop hG dL_law_1686 rfl ?_
  refine pm_goto (tgt := 2105) hG dL_law_1687 rfl ?_
  exact hT _ _ _ _ (LI.nx h74 hk hr1 hx1 kx) (by omega) (by omega)

set_option maxRecDepth 100000 in
set_option maxHeartbeats 4000000 in
theorem law_heir {nm : String} {G : pm_G} {B b cs zs cnt L i w : Nat} {σ : pm_S} {xs : Nat → Int32} (hG : pm_ok (mL_law nm) G B) (hR : pm_rm G 2000 600000 7302250) (hs : pm_scr G B b L xs) (hi : i + 6 ≤ L) (hL : L ≤ 3072) (hc : cs ≤ 590000) (hz : zs ≤ 7200000) (hw : w ≤ 1000) (hl : LI B σ cnt w) (hT : ∀ (σ' : pm_S) (cnt' cs' zs' : Nat), LI B σ' cnt' (w + 1) → cs' ≤ cs + 27 → zs' ≤ zs + 2170 → pm_wp (mL_law nm) G B 2105 [some (.ref b), some (.ref (B + 0)), some (.ref (B + 54)), some (.int (nI i))] [] cs' zs' cnt' σ') : pm_wp (mL_law nm) G B 1690 [some (.ref b), some (.ref (B + 0)), some (.ref (B + 54)), some (.int (nI i))] [] cs zs cnt σ := by
  obtain ⟨h74, kp, S, T, lc, lm, ⟨K, h⟩, hx, hk⟩ := hl
  refine pm_weak (pm_sub_two lc) ?_
  refine pm_aloadn hG dL_law_1690 rfl ?_
  refine pm_aloadn hG dL_law_1691 rfl ?_
  refine pm_iloadn hG dL_law_1692 rfl ?_
  refine pm_iconst (v := nI 1) hG dL_law_1693 (by decide) ?_
  refine pm_iaddN (c := i + 1) hG dL_law_1694 (by omega) ?_
  refine pm_sldN hG hs dL_law_1695 (by omega) hL ?_
  obtain ⟨v, S1, T1, e1, e2, hr1, hx1, kx⟩ := (op_heir (za := xs (i + 1)) h).x hx
  refine pm_callV (As := [.int (xs (i + 1))]) (rest := []) hG hR dL_law_1696 (lkL_183 _ rfl) okV_X11_heir rfl rfl (c_X11_heir (d := 1999) (by decide) e1) rfl rfl (by decide) (by omega) (by omega) (by decide) (pm_ki (fun v1 σ1 cnt1 hq => ?_))
  obtain ⟨rfl, rfl, rfl⟩ := hq
  have lm1 : pm_lies (cst B kp S1 σ) 54 (md_F B T.1 T.2) := lm.same (fun j h1 _ => pm_two_hi h1)
  refine pm_weak (pm_sub_mid lm1) ?_
  refine pm_pop hG dL_law_1699 rfl ?_
  refine pm_aloadn hG dL_law_1700 rfl ?_
  refine pm_aloadn hG dL_law_1701 rfl ?_
  refine pm_iloadn hG dL_law_1702 rfl ?_
  refine pm_iconst (v := nI 1) hG dL_law_1703 (by decide) ?_
  refine pm_iaddN (c := i + 1) hG dL_law_1704 (by omega) ?_
  refine pm_sldN hG hs dL_law_1705 (by omega) hL ?_
  refine pm_callV (As := [.int (xs (i + 1))]) (rest := []) hG hR dL_law_1706 (lkL_186 _ rfl) okV_X12_heir rfl rfl (c_X12_heir (d := 1999) (by decide) h74 e2) rfl rfl (by decide) (by omega) (by omega) (by decide) (pm_ki (fun v2 σ2 cnt2 hq => ?_))
  obtain ⟨rfl, ⟨τ, rfl, ho⟩, hcc⟩ := hq
  refine pm_pop hG dL_law_1709 rfl ?_
  refine pm_goto (tgt := 2105) hG dL_law_1710 rfl ?_
  exact hT _ _ _ _ (LI.nxt h74 hk hr1 hx1 kx ho hcc) (by omega) (by omega)

set_option maxRecDepth 100000 in
set_option maxHeartbeats 4000000 in
theorem law_age {nm : String} {G : pm_G} {B b cs zs cnt L i w : Nat} {σ : pm_S} {xs : Nat → Int32} (hG : pm_ok (mL_law nm) G B) (hR : pm_rm G 2000 600000 7302250) (hs : pm_scr G B b L xs) (hi : i + 6 ≤ L) (hL : L ≤ 3072) (hc : cs ≤ 590000) (hz : zs ≤ 7200000) (hw : w ≤ 1000) (hl : LI B σ cnt w) (hT : ∀ (σ' : pm_S) (cnt' cs' zs' : Nat), LI B σ' cnt' (w + 1) → cs' ≤ cs + 27 → zs' ≤ zs + 2170 → pm_wp (mL_law nm) G B 2105 [some (.ref b), some (.ref (B + 0)), some (.ref (B + 54)), some (.int (nI i))] [] cs' zs' cnt' σ') : pm_wp (mL_law nm) G B 1713 [some (.ref b), some (.ref (B + 0)), some (.ref (B + 54)), some (.int (nI i))] [] cs zs cnt σ := by
  obtain ⟨h74, kp, S, T, lc, lm, ⟨K, h⟩, hx, hk⟩ := hl
  refine pm_weak (pm_sub_two lc) ?_
  refine pm_aloadn hG dL_law_1713 rfl ?_
  obtain ⟨v, u, S1, T1, e1, e2, hr1, hx1, kx⟩ := (op_age  h).x hx
  refine pm_callV (As := []) (rest := []) hG hR dL_law_1714 (lkL_187 _ rfl) okV_X11_age rfl rfl (c_X11_age (d := 1999) (by decide) e1) rfl rfl (by decide) (by omega) (by omega) (by decide) (pm_ki (fun v1 σ1 cnt1 hq => ?_))
  obtain ⟨rfl, rfl, rfl⟩ := hq
  have lm1 : pm_lies (cst B kp S1 σ) 54 (md_F B T.1 T.2) := lm.same (fun j h1 _ => pm_two_hi h1)
  refine pm_weak (pm_sub_mid lm1) ?_
  refine pm_pop hG dL_law_1717 rfl ?_
  refine pm_aloadn hG dL_law_1718 rfl ?_
  refine pm_callV (As := []) (rest := []) hG hR dL_law_1719 (lkL_190 _ rfl) okV_X12_age rfl rfl (c_X12_age (d := 1999) (by decide) e2) rfl rfl (by decide) (by omega) (by omega) (by decide) (pm_ki (fun v2 σ2 cnt2 hq => ?_))
  obtain ⟨rfl, rfl, rfl⟩ := hq
  refine pm_pop hG dL_law_1722 rfl ?_
  refine pm_goto (tgt := 2105) hG dL_law_1723 rfl ?_
  exact hT _ _ _ _ (LI.nx h74 hk hr1 hx1 kx) (by omega) (by omega)

set_option maxRecDepth 100000 in
set_option maxHeartbeats 4000000 in
theorem law_after {nm : String} {G : pm_G} {B b cs zs cnt L i w : Nat} {σ : pm_S} {xs : Nat → Int32} (hG : pm_ok (mL_law nm) G B) (hR : pm_rm G 2000 600000 7302250) (hs : pm_scr G B b L xs) (hi : i + 6 ≤ L) (hL : L ≤ 3072) (hc : cs ≤ 590000) (hz : zs ≤ 7200000) (hw : w ≤ 1000) (hl : LI B σ cnt w) (hT : ∀ (σ' : pm_S) (cnt' cs' zs' : Nat), LI B σ' cnt' (w + 1) → cs' ≤ cs + 27 → zs' ≤ zs + 2170 → pm_wp (mL_law nm) G B 2105 [some (.ref b), some (.ref (B + 0)), some (.ref (B + 54)), some (.int (nI i))] [] cs' zs' cnt' σ') : pm_wp (mL_law nm) G B 1726 [some (.ref b), some (.ref (B + 0)), some (.ref (B + 54)), some (.int (nI i))] [] cs zs cnt σ := by
  obtain ⟨h74, kp, S, T, lc, lm, ⟨K, h⟩, hx, hk⟩ := hl
  refine pm_weak (pm_sub_two lc) ?_
  refine pm_aloadn hG dL_law_1726 rfl ?_
  refine pm_aloadn hG dL_law_1727 rfl ?_
  refine pm_iloadn hG dL_law_1728 rfl ?_
  refine pm_iconst (v := nI 1) hG dL_law_1729 (by decide) ?_
  refine pm_iaddN (c := i + 1) hG dL_law_1730 (by omega) ?_
  refine pm_sldN hG hs dL_law_1731 (by omega) hL ?_
  obtain ⟨v, u, S1, T1, e1, e2, hr1, hx1, kx⟩ := (op_after (za := xs (i + 1)) h).x hx
  refine pm_callV (As := [.int (xs (i + 1))]) (rest := []) hG hR dL_law_1732 (lkL_191 _ rfl) okV_X11_after rfl rfl (c_X11_after (d := 1999) (by decide) e1) rfl rfl (by decide) (by omega) (by omega) (by decide) (pm_ki (fun v1 σ1 cnt1 hq => ?_))
  obtain ⟨rfl, rfl, rfl⟩ := hq
  have lm1 : pm_lies (cst B kp S1 σ) 54 (md_F B T.1 T.2) := lm.same (fun j h1 _ => pm_two_hi h1)
  refine pm_weak (pm_sub_mid lm1) ?_
  refine pm_pop hG dL_law_1735 rfl ?_
  refine pm_aloadn hG dL_law_1736 rfl ?_
  refine pm_aloadn hG dL_law_1737 rfl ?_
  refine pm_iloadn hG dL_law_1738 rfl ?_
  refine pm_iconst (v := nI 1) hG dL_law_1739 (by decide) ?_
  refine pm_iaddN (c := i + 1) hG dL_law_1740 (by omega) ?_
  refine pm_sldN hG hs dL_law_1741 (by omega) hL ?_
  refine pm_callV (As := [.int (xs (i + 1))]) (rest := []) hG hR dL_law_1742 (lkL_194 _ rfl) okV_X12_after rfl rfl (c_X12_after (d := 1999) (by decide) e2) rfl rfl (by decide) (by omega) (by omega) (by decide) (pm_ki (fun v2 σ2 cnt2 hq => ?_))
  obtain ⟨rfl, rfl, rfl⟩ := hq
  refine pm_pop hG dL_law_1745 rfl ?_
  refine pm_goto (tgt := 2105) hG dL_law_1746 rfl ?_
  exact hT _ _ _ _ (LI.nx h74 hk hr1 hx1 kx) (by omega) (by omega)

set_option maxRecDepth 100000 in
set_option maxHeartbeats 4000000 in
theorem law_plan {nm : String} {G : pm_G} {B b cs zs cnt L i w : Nat} {σ : pm_S} {xs : Nat → Int32} (hG : pm_ok (mL_law nm) G B) (hR : pm_rm G 2000 600000 7302250) (hs : pm_scr G B b L xs) (hi : i + 6 ≤ L) (hL : L ≤ 3072) (hc : cs ≤ 590000) (hz : zs ≤ 7200000) (hw : w ≤ 1000) (hl : LI B σ cnt w) (hT : ∀ (σ' : pm_S) (cnt' cs' zs' : Nat), LI B σ' cnt' (w + 1) → cs' ≤ cs + 27 → zs' ≤ zs + 2170 → pm_wp (mL_law nm) G B 2105 [some (.ref b), some (.ref (B + 0)), some (.ref (B + 54)), some (.int (nI i))] [] cs' zs' cnt' σ') : pm_wp (mL_law nm) G B 1749 [some (.ref b), some (.ref (B + 0)), some (.ref (B + 54)), some (.int (nI i))] [] cs zs cnt σ := by
  obtain ⟨h74, kp, S, T, lc, lm, ⟨K, h⟩, hx, hk⟩ := hl
  refine pm_weak (pm_sub_two lc) ?_
  refine pm_aloadn hG dL_law_1749 rfl ?_
  refine pm_aloadn hG dL_law_1750 rfl ?_
  refine pm_iloadn hG dL_law_1751 rfl ?_
  refine pm_iconst (v := nI 1) hG dL_law_1752 (by decide) ?_
  refine pm_iaddN (c := i + 1) hG dL_law_1753 (by omega) ?_
  refine pm_sldN hG hs dL_law_1754 (by omega) hL ?_
  refine pm_aloadn hG dL_law_1755 rfl ?_
  refine pm_iloadn hG dL_law_1756 rfl ?_
  refine pm_iconst (v := nI 2) hG dL_law_1757 (by decide) ?_
  refine pm_iaddN (c := i + 2) hG dL_law_1758 (by omega) ?_
  refine pm_sldN hG hs dL_law_1759 (by omega) hL ?_
  obtain ⟨v, u, S1, T1, e1, e2, hr1, hx1, kx⟩ := (op_plan (za := xs (i + 1)) (zb := xs (i + 2)) h hx).x hx
  refine pm_callV (As := [.int (xs (i + 1)), .int (xs (i + 2))]) (rest := []) hG hR dL_law_1760 (lkL_195 _ rfl) okV_X11_plan rfl rfl (c_X11_plan (d := 1999) (by decide) e1) rfl rfl (by decide) (by omega) (by omega) (by decide) (pm_ki (fun v1 σ1 cnt1 hq => ?_))
  obtain ⟨rfl, rfl, rfl⟩ := hq
  have lm1 : pm_lies (cst B kp S1 σ) 54 (md_F B T.1 T.2) := lm.same (fun j h1 _ => pm_two_hi h1)
  refine pm_weak (pm_sub_mid lm1) ?_
  refine pm_pop hG dL_law_1763 rfl ?_
  refine pm_aloadn hG dL_law_1764 rfl ?_
  refine pm_aloadn hG dL_law_1765 rfl ?_
  refine pm_iloadn hG dL_law_1766 rfl ?_
  refine pm_iconst (v := nI 1) hG dL_law_1767 (by decide) ?_
  refine pm_iaddN (c := i + 1) hG dL_law_1768 (by omega) ?_
  refine pm_sldN hG hs dL_law_1769 (by omega) hL ?_
  refine pm_aloadn hG dL_law_1770 rfl ?_
  refine pm_iloadn hG dL_law_1771 rfl ?_
  refine pm_iconst (v := nI 2) hG dL_law_1772 (by decide) ?_
  refine pm_iaddN (c := i + 2) hG dL_law_1773 (by omega) ?_
  refine pm_sldN hG hs dL_law_1774 (by omega) hL ?_
  refine pm_callV (As := [.int (xs (i + 1)), .int (xs (i + 2))]) (rest := []) hG hR dL_law_1775 (lkL_198 _ rfl) okV_X12_plan rfl rfl (c_X12_plan (d := 1999) (by decide) e2) rfl rfl (by decide) (by omega) (by omega) (by decide) (pm_ki (fun v2 σ2 cnt2 hq => ?_))
  obtain ⟨rfl, rfl, rfl⟩ := hq
  refine pm_pop hG dL_law_1778 rfl ?_
  refine pm_goto (tgt := 2105) hG dL_law_1779 rfl ?_
  exact hT _ _ _ _ (LI.nx h74 hk hr1 hx1 kx) (by omega) (by omega)

set_option maxRecDepth 100000 in
set_option maxHeartbeats 4000000 in
theorem law_voice {nm : String} {G : pm_G} {B b cs zs cnt L i w : Nat} {σ : pm_S} {xs : Nat → Int32} (hG : pm_ok (mL_law nm) G B) (hR : pm_rm G 2000 600000 7302250) (hs : pm_scr G B b L xs) (hi : i + 6 ≤ L) (hL : L ≤ 3072) (hc : cs ≤ 590000) (hz : zs ≤ 7200000) (hw : w ≤ 1000) (hl : LI B σ cnt w) (hT : ∀ (σ' : pm_S) (cnt' cs' zs' : Nat), LI B σ' cnt' (w + 1) → cs' ≤ cs + 27 → zs' ≤ zs + 2170 → pm_wp (mL_law nm) G B 2105 [some (.ref b), some (.ref (B + 0)), some (.ref (B + 54)), some (.int (nI i))] [] cs' zs' cnt' σ') : pm_wp (mL_law nm) G B 1782 [some (.ref b), some (.ref (B + 0)), some (.ref (B + 54)), some (.int (nI i))] [] cs zs cnt σ := by
  obtain ⟨h74, kp, S, T, lc, lm, ⟨K, h⟩, hx, hk⟩ := hl
  refine pm_weak (pm_sub_two lc) ?_
  refine pm_aloadn hG dL_law_1782 rfl ?_
  refine pm_aloadn hG dL_law_1783 rfl ?_
  refine pm_iloadn hG dL_law_1784 rfl ?_
  refine pm_iconst (v := nI 1) hG dL_law_1785 (by decide) ?_
  refine pm_iaddN (c := i + 1) hG dL_law_1786 (by omega) ?_
  refine pm_sldN hG hs dL_law_1787 (by omega) hL ?_
  refine pm_aloadn hG dL_law_1788 rfl ?_
  refine pm_iloadn hG dL_law_1789 rfl ?_
  refine pm_iconst (v := nI 2) hG dL_law_1790 (by decide) ?_
  refine pm_iaddN (c := i + 2) hG dL_law_1791 (by omega) ?_
  refine pm_sldN hG hs dL_law_1792 (by omega) hL ?_
  refine pm_aloadn hG dL_law_1793 rfl ?_
  refine pm_iloadn hG dL_law_1794 rfl ?_
  refine pm_iconst (v := nI 3) hG dL_law_1795 (by decide) ?_
  refine pm_iaddN (c := i + 3) hG dL_law_1796 (by omega) ?_
  refine pm_sldN hG hs dL_law_1797 (by omega) hL ?_
  obtain ⟨v, S1, T1, e1, e2, hr1, hx1, kx⟩ := op_voice (za := xs (i + 1)) (zb := xs (i + 2)) (zc := xs (i + 3)) h hx
  refine pm_callV (As := [.int (xs (i + 1)), .int (xs (i + 2)), .int (xs (i + 3))]) (rest := []) hG hR dL_law_1798 (lkL_199 _ rfl) okV_X11_voice rfl rfl (c_X11_voice (d := 1999) (by decide) e1) rfl rfl (by decide) (by omega) (by omega) (by decide) (pm_ki (fun v1 σ1 cnt1 hq => ?_))
  obtain ⟨rfl, rfl, rfl⟩ := hq
  have lm1 : pm_lies (cst B kp S1 σ) 54 (md_F B T.1 T.2) := lm.same (fun j h1 _ => pm_two_hi h1)
  refine pm_weak (pm_sub_mid lm1) ?_
  refine pm_pop hG dL_law_1801 rfl ?_
  refine pm_aloadn hG dL_law_1802 rfl ?_
  refine pm_aloadn hG dL_law_1803 rfl ?_
  refine pm_iloadn hG dL_law_1804 rfl ?_
  refine pm_iconst (v := nI 1) hG dL_law_1805 (by decide) ?_
  refine pm_iaddN (c := i + 1) hG dL_law_1806 (by omega) ?_
  refine pm_sldN hG hs dL_law_1807 (by omega) hL ?_
  refine pm_aloadn hG dL_law_1808 rfl ?_
  refine pm_iloadn hG dL_law_1809 rfl ?_
  refine pm_iconst (v := nI 2) hG dL_law_1810 (by decide) ?_
  refine pm_iaddN (c := i + 2) hG dL_law_1811 (by omega) ?_
  refine pm_sldN hG hs dL_law_1812 (by omega) hL ?_
  refine pm_aloadn hG dL_law_1813 rfl ?_
  refine pm_iloadn hG dL_law_1814 rfl ?_
  refine pm_iconst (v := nI 3) hG dL_law_1815 (by decide) ?_
  refine pm_iaddN (c := i + 3) hG dL_law_1816 (by omega) ?_
  refine pm_sldN hG hs dL_law_1817 (by omega) hL ?_
  refine pm_callV (As := [.int (xs (i + 1)), .int (xs (i + 2)), .int (xs (i + 3))]) (rest := []) hG hR dL_law_1818 (lkL_202 _ rfl) okV_X12_voice rfl rfl (c_X12_voice (d := 1999) (by decide) e2) rfl rfl (by decide) (by omega) (by omega) (by decide) (pm_ki (fun v2 σ2 cnt2 hq => ?_))
  obtain ⟨rfl, rfl, rfl⟩ := hq
  refine pm_pop hG dL_law_1821 rfl ?_
  refine pm_goto (tgt := 2105) hG dL_law_1822 rfl ?_
  exact hT _ _ _ _ (LI.nx h74 hk hr1 hx1 kx) (by omega) (by omega)

set_option maxRecDepth 100000 in
set_option maxHeartbeats 4000000 in
theorem law_trace {nm : String} {G : pm_G} {B b cs zs cnt L i w : Nat} {σ : pm_S} {xs : Nat → Int32} (hG : pm_ok (mL_law nm) G B) (hR : pm_rm G 2000 600000 7302250) (hs : pm_scr G B b L xs) (hi : i + 6 ≤ L) (hL : L ≤ 3072) (hc : cs ≤ 590000) (hz : zs ≤ 7200000) (hw : w ≤ 1000) (hl : LI B σ cnt w) (hT : ∀ (σ' : pm_S) (cnt' cs' zs' : Nat), LI B σ' cnt' (w + 1) → cs' ≤ cs + 27 → zs' ≤ zs + 2170 → pm_wp (mL_law nm) G B 2105 [some (.ref b), some (.ref (B + 0)), some (.ref (B + 54)), some (.int (nI i))] [] cs' zs' cnt' σ') : pm_wp (mL_law nm) G B 1825 [some (.ref b), some (.ref (B + 0)), some (.ref (B + 54)), some (.int (nI i))] [] cs zs cnt σ := by
  obtain ⟨h74, kp, S, T, lc, lm, ⟨K, h⟩, hx, hk⟩ := hl
  refine pm_weak (pm_sub_two lc) ?_
  refine pm_aloadn hG dL_law_1825 rfl ?_
  refine pm_aloadn hG dL_law_1826 rfl ?_
  refine pm_iloadn hG dL_law_1827 rfl ?_
  refine pm_iconst (v := nI 1) hG dL_law_1828 (by decide) ?_
  refine pm_iaddN (c := i + 1) hG dL_law_1829 (by omega) ?_
  refine pm_sldN hG hs dL_law_1830 (by omega) hL ?_
  obtain ⟨v, S1, T1, e1, e2, hr1, hx1, kx⟩ := (op_trace (za := xs (i + 1)) h hx).x hx
  refine pm_callV (As := [.int (xs (i + 1))]) (rest := []) hG hR dL_law_1831 (lkL_203 _ rfl) okV_X11_trace rfl rfl (c_X11_trace (d := 1999) (by decide) e1) rfl rfl (by decide) (by omega) (by omega) (by decide) (pm_ki (fun v1 σ1 cnt1 hq => ?_))
  obtain ⟨rfl, rfl, rfl⟩ := hq
  have lm1 : pm_lies (cst B kp S1 σ) 54 (md_F B T.1 T.2) := lm.same (fun j h1 _ => pm_two_hi h1)
  refine pm_weak (pm_sub_mid lm1) ?_
  refine pm_pop hG dL_law_1834 rfl ?_
  refine pm_aloadn hG dL_law_1835 rfl ?_
  refine pm_aloadn hG dL_law_1836 rfl ?_
  refine pm_iloadn hG dL_law_1837 rfl ?_
  refine pm_iconst (v := nI 1) hG dL_law_1838 (by decide) ?_
  refine pm_iaddN (c := i + 1) hG dL_law_1839 (by omega) ?_
  refine pm_sldN hG hs dL_law_1840 (by omega) hL ?_
  refine pm_callV (As := [.int (xs (i + 1))]) (rest := []) hG hR dL_law_1841 (lkL_206 _ rfl) okV_X12_trace rfl rfl (c_X12_trace (d := 1999) (by decide) e2) rfl rfl (by decide) (by omega) (by omega) (by decide) (pm_ki (fun v2 σ2 cnt2 hq => ?_))
  obtain ⟨rfl, rfl, rfl⟩ := hq
  refine pm_pop hG dL_law_1844 rfl ?_
  refine pm_goto (tgt := 2105) hG dL_law_1845 rfl ?_
  exact hT _ _ _ _ (LI.nx h74 hk hr1 hx1 kx) (by omega) (by omega)

set_option maxRecDepth 100000 in
set_option maxHeartbeats 4000000 in
theorem law_sheet {nm : String} {G : pm_G} {B b cs zs cnt L i w : Nat} {σ : pm_S} {xs : Nat → Int32} (hG : pm_ok (mL_law nm) G B) (hR : pm_rm G 2000 600000 7302250) (hs : pm_scr G B b L xs) (hi : i + 6 ≤ L) (hL : L ≤ 3072) (hc : cs ≤ 590000) (hz : zs ≤ 7200000) (hw : w ≤ 1000) (hl : LI B σ cnt w) (hT : ∀ (σ' : pm_S) (cnt' cs' zs' : Nat), LI B σ' cnt' (w + 1) → cs' ≤ cs + 27 → zs' ≤ zs + 2170 → pm_wp (mL_law nm) G B 2105 [some (.ref b), some (.ref (B + 0)), some (.ref (B + 54)), some (.int (nI i))] [] cs' zs' cnt' σ') : pm_wp (mL_law nm) G B 1848 [some (.ref b), some (.ref (B + 0)), some (.ref (B + 54)), some (.int (nI i))] [] cs zs cnt σ := by
  obtain ⟨h74, kp, S, T, lc, lm, ⟨K, h⟩, hx, hk⟩ := hl
  refine pm_weak (pm_sub_two lc) ?_
  refine pm_aloadn hG dL_law_1848 rfl ?_
  refine pm_aloadn hG dL_law_1849 rfl ?_
  refine pm_iloadn hG dL_law_1850 rfl ?_
  refine pm_iconst (v := nI 1) hG dL_law_1851 (by decide) ?_
  refine pm_iaddN (c := i + 1) hG dL_law_1852 (by omega) ?_
  refine pm_sldN hG hs dL_law_1853 (by omega) hL ?_
  refine pm_aloadn hG dL_law_1854 rfl ?_
  refine pm_iloadn hG dL_law_1855 rfl ?_
  refine pm_iconst (v := nI 2) hG dL_law_1856 (by decide) ?_
  refine pm_iaddN (c := i + 2) hG dL_law_1857 (by omega) ?_
  refine pm_sldN hG hs dL_law_1858 (by omega) hL ?_
  refine pm_aloadn hG dL_law_1859 rfl ?_
  refine pm_iloadn hG dL_law_1860 rfl ?_
  refine pm_iconst (v := nI 3) hG dL_law_1861 (by decide) ?_
  refine pm_iaddN (c := i + 3) hG dL_law_1862 (by omega) ?_
  refine pm_sldN hG hs dL_law_1863 (by omega) hL ?_
  obtain ⟨v, S1, T1, e1, e2, hr1, hx1, kx⟩ := op_sheet (za := xs (i + 1)) (zb := xs (i + 2)) (zc := xs (i + 3)) h hx
  refine pm_callV (As := [.int (xs (i + 1)), .int (xs (i + 2)), .int (xs (i + 3))]) (rest := []) hG hR dL_law_1864 (lkL_207 _ rfl) okV_X11_sheet rfl rfl (c_X11_sheet (d := 1999) (by decide) e1) rfl rfl (by decide) (by omega) (by omega) (by decide) (pm_ki (fun v1 σ1 cnt1 hq => ?_))
  obtain ⟨rfl, rfl, rfl⟩ := hq
  have lm1 : pm_lies (cst B kp S1 σ) 54 (md_F B T.1 T.2) := lm.same (fun j h1 _ => pm_two_hi h1)
  refine pm_weak (pm_sub_mid lm1) ?_
  refine pm_pop hG dL_law_1867 rfl ?_
  refine pm_aloadn hG dL_law_1868 rfl ?_
  refine pm_aloadn hG dL_law_1869 rfl ?_
  refine pm_iloadn hG dL_law_1870 rfl ?_
  refine pm_iconst (v := nI 1) hG dL_law_1871 (by decide) ?_
  refine pm_iaddN (c := i + 1) hG dL_law_1872 (by omega) ?_
  refine pm_sldN hG hs dL_law_1873 (by omega) hL ?_
  refine pm_aloadn hG dL_law_1874 rfl ?_
  refine pm_iloadn hG dL_law_1875 rfl ?_
  refine pm_iconst (v := nI 2) hG dL_law_1876 (by decide) ?_
  refine pm_iaddN (c := i + 2) hG dL_law_1877 (by omega) ?_
  refine pm_sldN hG hs dL_law_1878 (by omega) hL ?_
  refine pm_aloadn hG dL_law_1879 rfl ?_
  refine pm_iloadn hG dL_law_1880 rfl ?_
  refine pm_iconst (v := nI 3) hG dL_law_1881 (by decide) ?_
  refine pm_iaddN (c := i + 3) hG dL_law_1882 (by omega) ?_
  refine pm_sldN hG hs dL_law_1883 (by omega) hL ?_
  refine pm_callV (As := [.int (xs (i + 1)), .int (xs (i + 2)), .int (xs (i + 3))]) (rest := []) hG hR dL_law_1884 (lkL_210 _ rfl) okV_X12_sheet rfl rfl (c_X12_sheet (d := 1999) (by decide) e2) rfl rfl (by decide) (by omega) (by omega) (by decide) (pm_ki (fun v2 σ2 cnt2 hq => ?_))
  obtain ⟨rfl, rfl, rfl⟩ := hq
  refine pm_pop hG dL_law_1887 rfl ?_
  refine pm_goto (tgt := 2105) hG dL_law_1888 rfl ?_
  exact hT _ _ _ _ (LI.nx h74 hk hr1 hx1 kx) (by omega) (by omega)

set_option maxRecDepth 100000 in
set_option maxHeartbeats 4000000 in
theorem law_put {nm : String} {G : pm_G} {B b cs zs cnt L i w : Nat} {σ : pm_S} {xs : Nat → Int32} (hG : pm_ok (mL_law nm) G B) (hR : pm_rm G 2000 600000 7302250) (hs : pm_scr G B b L xs) (hi : i + 6 ≤ L) (hL : L ≤ 3072) (hc : cs ≤ 590000) (hz : zs ≤ 7200000) (hw : w ≤ 1000) (hl : LI B σ cnt w) (hT : ∀ (σ' : pm_S) (cnt' cs' zs' : Nat), LI B σ' cnt' (w + 1) → cs' ≤ cs + 27 → zs' ≤ zs + 2170 → pm_wp (mL_law nm) G B 2105 [some (.ref b), some (.ref (B + 0)), some (.ref (B + 54)), some (.int (nI i))] [] cs' zs' cnt' σ') : pm_wp (mL_law nm) G B 1891 [some (.ref b), some (.ref (B + 0)), some (.ref (B + 54)), some (.int (nI i))] [] cs zs cnt σ := by
  obtain ⟨h74, kp, S, T, lc, lm, ⟨K, h⟩, hx, hk⟩ := hl
  refine pm_weak (pm_sub_two lc) ?_
  refine pm_aloadn hG dL_law_1891 rfl ?_
  refine pm_aloadn hG dL_law_1892 rfl ?_
  refine pm_iloadn hG dL_law_1893 rfl ?_
  refine pm_iconst (v := nI 1) hG dL_law_1894 (by decide) ?_
  refine pm_iaddN (c := i + 1) hG dL_law_1895 (by omega) ?_
  refine pm_sldN hG hs dL_law_1896 (by omega) hL ?_
  refine pm_aloadn hG dL_law_1897 rfl ?_
  refine pm_iloadn hG dL_law_1898 rfl ?_
  refine pm_iconst (v := nI 2) hG dL_law_1899 (by decide) ?_
  refine pm_iaddN (c := i + 2) hG dL_law_1900 (by omega) ?_
  refine pm_sldN hG hs dL_law_1901 (by omega) hL ?_
  refine pm_aloadn hG dL_law_1902 rfl ?_
  refine pm_iloadn hG dL_law_1903 rfl ?_
  refine pm_iconst (v := nI 3) hG dL_law_1904 (by decide) ?_
  refine pm_iaddN (c := i + 3) hG dL_law_1905 (by omega) ?_
  refine pm_sldN hG hs dL_law_1906 (by omega) hL ?_
  obtain ⟨v, S1, T1, e1, e2, hr1, hx1, kx⟩ := op_put (za := xs (i + 1)) (zb := xs (i + 2)) (zc := xs (i + 3)) h hx
  refine pm_callV (As := [.int (xs (i + 1)), .int (xs (i + 2)), .int (xs (i + 3))]) (rest := []) hG hR dL_law_1907 (lkL_211 _ rfl) okV_X11_put rfl rfl (c_X11_put (d := 1999) (by decide) e1) rfl rfl (by decide) (by omega) (by omega) (by decide) (pm_ki (fun v1 σ1 cnt1 hq => ?_))
  obtain ⟨rfl, rfl, rfl⟩ := hq
  have lm1 : pm_lies (cst B kp S1 σ) 54 (md_F B T.1 T.2) := lm.same (fun j h1 _ => pm_two_hi h1)
  refine pm_weak (pm_sub_mid lm1) ?_
  refine pm_pop hG dL_law_1910 rfl ?_
  refine pm_aloadn hG dL_law_1911 rfl ?_
  refine pm_aloadn hG dL_law_1912 rfl ?_
  refine pm_iloadn hG dL_law_1913 rfl ?_
  refine pm_iconst (v := nI 1) hG dL_law_1914 (by decide) ?_
  refine pm_iaddN (c := i + 1) hG dL_law_1915 (by omega) ?_
  refine pm_sldN hG hs dL_law_1916 (by omega) hL ?_
  refine pm_aloadn hG dL_law_1917 rfl ?_
  refine pm_iloadn hG dL_law_1918 rfl ?_
  refine pm_iconst (v := nI 2) hG dL_law_1919 (by decide) ?_
  refine pm_iaddN (c := i + 2) hG dL_law_1920 (by omega) ?_
  refine pm_sldN hG hs dL_law_1921 (by omega) hL ?_
  refine pm_aloadn hG dL_law_1922 rfl ?_
  refine pm_iloadn hG dL_law_1923 rfl ?_
  refine pm_iconst (v := nI 3) hG dL_law_1924 (by decide) ?_
  refine pm_iaddN (c := i + 3) hG dL_law_1925 (by omega) ?_
  refine pm_sldN hG hs dL_law_1926 (by omega) hL ?_
  refine pm_callV (As := [.int (xs (i + 1)), .int (xs (i + 2)), .int (xs (i + 3))]) (rest := []) hG hR dL_law_1927 (lkL_214 _ rfl) okV_X12_put rfl rfl (c_X12_put (d := 1999) (by decide) e2) rfl rfl (by decide) (by omega) (by omega) (by decide) (pm_ki (fun v2 σ2 cnt2 hq => ?_))
  obtain ⟨rfl, rfl, rfl⟩ := hq
  refine pm_pop hG dL_law_1930 rfl ?_
  refine pm_goto (tgt := 2105) hG dL_law_1931 rfl ?_
  exact hT _ _ _ _ (LI.nx h74 hk hr1 hx1 kx) (by omega) (by omega)

set_option maxRecDepth 100000 in
set_option maxHeartbeats 4000000 in
theorem law_move {nm : String} {G : pm_G} {B b cs zs cnt L i w : Nat} {σ : pm_S} {xs : Nat → Int32} (hG : pm_ok (mL_law nm) G B) (hR : pm_rm G 2000 600000 7302250) (hs : pm_scr G B b L xs) (hi : i + 6 ≤ L) (hL : L ≤ 3072) (hc : cs ≤ 590000) (hz : zs ≤ 7200000) (hw : w ≤ 1000) (hl : LI B σ cnt w) (hT : ∀ (σ' : pm_S) (cnt' cs' zs' : Nat), LI B σ' cnt' (w + 1) → cs' ≤ cs + 27 → zs' ≤ zs + 2170 → pm_wp (mL_law nm) G B 2105 [some (.ref b), some (.ref (B + 0)), some (.ref (B + 54)), some (.int (nI i))] [] cs' zs' cnt' σ') : pm_wp (mL_law nm) G B 1934 [some (.ref b), some (.ref (B + 0)), some (.ref (B + 54)), some (.int (nI i))] [] cs zs cnt σ := by
  obtain ⟨h74, kp, S, T, lc, lm, ⟨K, h⟩, hx, hk⟩ := hl
  refine pm_weak (pm_sub_two lc) ?_
  refine pm_aloadn hG dL_law_1934 rfl ?_
  refine pm_aloadn hG dL_law_1935 rfl ?_
  refine pm_iloadn hG dL_law_1936 rfl ?_
  refine pm_iconst (v := nI 1) hG dL_law_1937 (by decide) ?_
  refine pm_iaddN (c := i + 1) hG dL_law_1938 (by omega) ?_
  refine pm_sldN hG hs dL_law_1939 (by omega) hL ?_
  refine pm_aloadn hG dL_law_1940 rfl ?_
  refine pm_iloadn hG dL_law_1941 rfl ?_
  refine pm_iconst (v := nI 2) hG dL_law_1942 (by decide) ?_
  refine pm_iaddN (c := i + 2) hG dL_law_1943 (by omega) ?_
  refine pm_sldN hG hs dL_law_1944 (by omega) hL ?_
  refine pm_aloadn hG dL_law_1945 rfl ?_
  refine pm_iloadn hG dL_law_1946 rfl ?_
  refine pm_iconst (v := nI 3) hG dL_law_1947 (by decide) ?_
  refine pm_iaddN (c := i + 3) hG dL_law_1948 (by omega) ?_
  refine pm_sldN hG hs dL_law_1949 (by omega) hL ?_
  refine pm_aloadn hG dL_law_1950 rfl ?_
  refine pm_iloadn hG dL_law_1951 rfl ?_
  refine pm_iconst (v := nI 4) hG dL_law_1952 (by decide) ?_
  refine pm_iaddN (c := i + 4) hG dL_law_1953 (by omega) ?_
  refine pm_sldN hG hs dL_law_1954 (by omega) hL ?_
  refine pm_aloadn hG dL_law_1955 rfl ?_
  refine pm_iloadn hG dL_law_1956 rfl ?_
  refine pm_iconst (v := nI 5) hG dL_law_1957 (by decide) ?_
  refine pm_iaddN (c := i + 5) hG dL_law_1958 (by omega) ?_
  refine pm_sldN hG hs dL_law_1959 (by omega) hL ?_
  obtain ⟨v, S1, T1, e1, e2, hr1, hx1, kx⟩ := op_move (za := xs (i + 1)) (zb := xs (i + 2)) (zc := xs (i + 3)) (zd := xs (i + 4)) (ze := xs (i + 5)) h hx
  refine pm_callV (As := [.int (xs (i + 1)), .int (xs (i + 2)), .int (xs (i + 3)), .int (xs (i + 4)), .int (xs (i + 5))]) (rest := []) hG hR dL_law_1960 (lkL_215 _ rfl) okV_X11_move rfl rfl (c_X11_move (d := 1999) (by decide) e1) rfl rfl (by decide) (by omega) (by omega) (by decide) (pm_ki (fun v1 σ1 cnt1 hq => ?_))
  obtain ⟨rfl, rfl, rfl⟩ := hq
  have lm1 : pm_lies (cst B kp S1 σ) 54 (md_F B T.1 T.2) := lm.same (fun j h1 _ => pm_two_hi h1)
  refine pm_weak (pm_sub_mid lm1) ?_
  refine pm_pop hG dL_law_1963 rfl ?_
  refine pm_aloadn hG dL_law_1964 rfl ?_
  refine pm_aloadn hG dL_law_1965 rfl ?_
  refine pm_iloadn hG dL_law_1966 rfl ?_
  refine pm_iconst (v := nI 1) hG dL_law_1967 (by decide) ?_
  refine pm_iaddN (c := i + 1) hG dL_law_1968 (by omega) ?_
  refine pm_sldN hG hs dL_law_1969 (by omega) hL ?_
  refine pm_aloadn hG dL_law_1970 rfl ?_
  refine pm_iloadn hG dL_law_1971 rfl ?_
  refine pm_iconst (v := nI 2) hG dL_law_1972 (by decide) ?_
  refine pm_iaddN (c := i + 2) hG dL_law_1973 (by omega) ?_
  refine pm_sldN hG hs dL_law_1974 (by omega) hL ?_
  refine pm_aloadn hG dL_law_1975 rfl ?_
  refine pm_iloadn hG dL_law_1976 rfl ?_
  refine pm_iconst (v := nI 3) hG dL_law_1977 (by decide) ?_
  refine pm_iaddN (c := i + 3) hG dL_law_1978 (by omega) ?_
  refine pm_sldN hG hs dL_law_1979 (by omega) hL ?_
  refine pm_aloadn hG dL_law_1980 rfl ?_
  refine pm_iloadn hG dL_law_1981 rfl ?_
  refine pm_iconst (v := nI 4) hG dL_law_1982 (by decide) ?_
  refine pm_iaddN (c := i + 4) hG dL_law_1983 (by omega) ?_
  refine pm_sldN hG hs dL_law_1984 (by omega) hL ?_
  refine pm_aloadn hG dL_law_1985 rfl ?_
  refine pm_iloadn hG dL_law_1986 rfl ?_
  refine pm_iconst (v := nI 5) hG dL_law_1987 (by decide) ?_
  refine pm_iaddN (c := i + 5) hG dL_law_1988 (by omega) ?_
  refine pm_sldN hG hs dL_law_1989 (by omega) hL ?_
  refine pm_callV (As := [.int (xs (i + 1)), .int (xs (i + 2)), .int (xs (i + 3)), .int (xs (i + 4)), .int (xs (i + 5))]) (rest := []) hG hR dL_law_1990 (lkL_219 _ rfl) okV_X12_move rfl rfl (c_X12_move (d := 1999) (by decide) e2) rfl rfl (by decide) (by omega) (by omega) (by decide) (pm_ki (fun v2 σ2 cnt2 hq => ?_))
  obtain ⟨rfl, rfl, rfl⟩ := hq
  refine pm_pop hG dL_law_1993 rfl ?_
  refine pm_goto (tgt := 2105) hG dL_law_1994 rfl ?_
  exact hT _ _ _ _ (LI.nx h74 hk hr1 hx1 kx) (by omega) (by omega)

set_option maxRecDepth 100000 in
set_option maxHeartbeats 4000000 in
theorem law_image {nm : String} {G : pm_G} {B b cs zs cnt L i w : Nat} {σ : pm_S} {xs : Nat → Int32} (hG : pm_ok (mL_law nm) G B) (hR : pm_rm G 2000 600000 7302250) (hs : pm_scr G B b L xs) (hi : i + 6 ≤ L) (hL : L ≤ 3072) (hc : cs ≤ 590000) (hz : zs ≤ 7200000) (hw : w ≤ 1000) (hl : LI B σ cnt w) (hT : ∀ (σ' : pm_S) (cnt' cs' zs' : Nat), LI B σ' cnt' (w + 1) → cs' ≤ cs + 27 → zs' ≤ zs + 2170 → pm_wp (mL_law nm) G B 2105 [some (.ref b), some (.ref (B + 0)), some (.ref (B + 54)), some (.int (nI i))] [] cs' zs' cnt' σ') : pm_wp (mL_law nm) G B 1997 [some (.ref b), some (.ref (B + 0)), some (.ref (B + 54)), some (.int (nI i))] [] cs zs cnt σ := by
  obtain ⟨h74, kp, S, T, lc, lm, ⟨K, h⟩, hx, hk⟩ := hl
  refine pm_weak (pm_sub_two lc) ?_
  refine pm_aloadn hG dL_law_1997 rfl ?_
  obtain ⟨T1, im, e2⟩ := img_t T
  refine pm_callV (As := []) (rest := []) hG hR dL_law_1998 (lkL_220 _ rfl) okV_X11_image rfl rfl (g_X11_image (d := 1999) (by decide) h74 hk.img) rfl rfl (by decide) (by omega) (by omega) (by decide) (pm_ki (fun v1 σ1 cnt1 hq => ?_))
  obtain ⟨rfl, κ, J, Kf, l0, q74, qκ, lk, htk, hcc, ho⟩ := hq
  have lm1 : pm_lies σ1 54 (md_F B T.1 T.2) := lm.same (fun j h1 h2 => ho j h1 (by have h9 : (md_F B T.1 T.2).length = 20 := rfl; omega))
  refine pm_weak (pm_sub_mid lm1) ?_
  refine pm_pop hG dL_law_2001 rfl ?_
  refine pm_aloadn hG dL_law_2002 rfl ?_
  refine pm_callV (As := []) (rest := []) hG hR dL_law_2003 (lkL_223 _ rfl) okV_X12_image rfl rfl (c_X12_image (d := 1999) (by decide) e2) rfl rfl (by decide) (by omega) (by omega) (by decide) (pm_ki (fun v2 σ2 cnt2 hq => ?_))
  obtain ⟨rfl, rfl, rfl⟩ := hq
  refine pm_pop hG dL_law_2006 rfl ?_
  refine pm_goto (tgt := 2105) hG dL_law_2007 rfl ?_
  exact hT _ _ _ _ (LI.img hw h74 hk h hx l0 q74 qκ lk htk hcc im) (by omega) (by omega)

set_option maxRecDepth 100000 in
set_option maxHeartbeats 4000000 in
theorem law_restore {nm : String} {G : pm_G} {B b cs zs cnt L i w : Nat} {σ : pm_S} {xs : Nat → Int32} (hG : pm_ok (mL_law nm) G B) (hR : pm_rm G 2000 600000 7302250) (hs : pm_scr G B b L xs) (hi : i + 6 ≤ L) (hL : L ≤ 3072) (hc : cs ≤ 590000) (hz : zs ≤ 7200000) (hw : w ≤ 1000) (hl : LI B σ cnt w) (hT : ∀ (σ' : pm_S) (cnt' cs' zs' : Nat), LI B σ' cnt' (w + 1) → cs' ≤ cs + 27 → zs' ≤ zs + 2170 → pm_wp (mL_law nm) G B 2105 [some (.ref b), some (.ref (B + 0)), some (.ref (B + 54)), some (.int (nI i))] [] cs' zs' cnt' σ') : pm_wp (mL_law nm) G B 2010 [some (.ref b), some (.ref (B + 0)), some (.ref (B + 54)), some (.int (nI i))] [] cs zs cnt σ := by
  obtain ⟨h74, kp, S, T, lc, lm, ⟨K, h⟩, hx, hk⟩ := hl
  refine pm_weak (pm_sub_two lc) ?_
  refine pm_aloadn hG dL_law_2010 rfl ?_
  have hk0 := hk
  rcases hk0.2 with rfl | ⟨κ, J, Kf, rfl, q74, qκ, lk, Kk, hr⟩
  · obtain ⟨S1, T1, e1, e2, hr1, hx1, kx⟩ := op_restore0 h hx ((hk.ct hw).2.mpr rfl)
    refine pm_callV (As := []) (rest := []) hG hR dL_law_2011 (lkL_224 _ rfl) okV_X11_restore rfl rfl (g_restore0 (d := 1999) (by decide) e1) rfl rfl (by decide) (by omega) (by omega) (by decide) (pm_ki (fun v1 σ1 cnt1 hq => ?_))
    obtain ⟨rfl, rfl, rfl⟩ := hq
    have lm1 : pm_lies (cst B .null S1 σ) 54 (md_F B T.1 T.2) := lm.same (fun j h1 _ => pm_two_hi h1)
    refine pm_weak (pm_sub_mid lm1) ?_
    refine pm_pop hG dL_law_2014 rfl ?_
    refine pm_aloadn hG dL_law_2015 rfl ?_
    refine pm_callV (As := []) (rest := []) hG hR dL_law_2016 (lkL_227 _ rfl) okV_X12_restore rfl rfl (c_X12_restore (d := 1999) (by decide) e2) rfl rfl (by decide) (by omega) (by omega) (by decide) (pm_ki (fun v2 σ2 cnt2 hq => ?_))
    obtain ⟨rfl, rfl, rfl⟩ := hq
    refine pm_pop hG dL_law_2019 rfl ?_
    refine pm_goto (tgt := 2105) hG dL_law_2020 rfl ?_
    exact hT _ _ _ _ (LI.nx h74 hk hr1 hx1 kx) (by omega) (by omega)
  · obtain ⟨T1, rm, e2⟩ := rst_t (T := T) (fun q => by have := (hk.ct hw).2.mp q; cases this)
    refine pm_callV (As := []) (rest := []) hG hR dL_law_2011 (lkL_224 _ rfl) okV_X11_restore rfl rfl (g_restore1 (d := 1999) (by decide) q74 qκ lk) rfl rfl (by decide) (by omega) (by omega) (by decide) (pm_ki (fun v1 σ1 cnt1 hq => ?_))
    obtain ⟨J1, K1, rfl, l0, htk, lk1, rfl, ho⟩ := hq
    have lm1 : pm_lies σ1 54 (md_F B T.1 T.2) := lm.same (fun j h1 _ => ho j h1)
    refine pm_weak (pm_sub_mid lm1) ?_
    refine pm_pop hG dL_law_2014 rfl ?_
    refine pm_aloadn hG dL_law_2015 rfl ?_
    refine pm_callV (As := []) (rest := []) hG hR dL_law_2016 (lkL_227 _ rfl) okV_X12_restore rfl rfl (c_X12_restore (d := 1999) (by decide) e2) rfl rfl (by decide) (by omega) (by omega) (by decide) (pm_ki (fun v2 σ2 cnt2 hq => ?_))
    obtain ⟨rfl, rfl, rfl⟩ := hq
    refine pm_pop hG dL_law_2019 rfl ?_
    refine pm_goto (tgt := 2105) hG dL_law_2020 rfl ?_
    exact hT _ _ _ _ (LI.res h74 hk hx hr l0 htk q74 qκ lk1 rm) (by omega) (by omega)

set_option maxRecDepth 100000 in
set_option maxHeartbeats 4000000 in
theorem law_tell {nm : String} {G : pm_G} {B b cs zs cnt L i w : Nat} {σ : pm_S} {xs : Nat → Int32} (hG : pm_ok (mL_law nm) G B) (hR : pm_rm G 2000 600000 7302250) (hs : pm_scr G B b L xs) (hi : i + 6 ≤ L) (hL : L ≤ 3072) (hc : cs ≤ 590000) (hz : zs ≤ 7200000) (hw : w ≤ 1000) (hl : LI B σ cnt w) (hT : ∀ (σ' : pm_S) (cnt' cs' zs' : Nat), LI B σ' cnt' (w + 1) → cs' ≤ cs + 27 → zs' ≤ zs + 2170 → pm_wp (mL_law nm) G B 2105 [some (.ref b), some (.ref (B + 0)), some (.ref (B + 54)), some (.int (nI i))] [] cs' zs' cnt' σ') : pm_wp (mL_law nm) G B 2023 [some (.ref b), some (.ref (B + 0)), some (.ref (B + 54)), some (.int (nI i))] [] cs zs cnt σ := by
  obtain ⟨h74, kp, S, T, lc, lm, ⟨K, h⟩, hx, hk⟩ := hl
  refine pm_weak (pm_sub_two lc) ?_
  refine pm_aloadn hG dL_law_2023 rfl ?_
  refine pm_aloadn hG dL_law_2024 rfl ?_
  refine pm_iloadn hG dL_law_2025 rfl ?_
  refine pm_iconst (v := nI 1) hG dL_law_2026 (by decide) ?_
  refine pm_iaddN (c := i + 1) hG dL_law_2027 (by omega) ?_
  refine pm_sldN hG hs dL_law_2028 (by omega) hL ?_
  obtain ⟨v, S1, T1, e1, e2, hr1, hx1, kx⟩ := (op_tell (za := xs (i + 1)) h).x hx
  refine pm_callV (As := [.int (xs (i + 1))]) (rest := []) hG hR dL_law_2029 (lkL_228 _ rfl) okV_X11_tell rfl rfl (c_X11_tell (d := 1999) (by decide) e1) rfl rfl (by decide) (by omega) (by omega) (by decide) (pm_ki (fun v1 σ1 cnt1 hq => ?_))
  obtain ⟨rfl, rfl, rfl⟩ := hq
  have lm1 : pm_lies (cst B kp S1 σ) 54 (md_F B T.1 T.2) := lm.same (fun j h1 _ => pm_two_hi h1)
  refine pm_weak (pm_sub_mid lm1) ?_
  refine pm_pop hG dL_law_2032 rfl ?_
  refine pm_aloadn hG dL_law_2033 rfl ?_
  refine pm_aloadn hG dL_law_2034 rfl ?_
  refine pm_iloadn hG dL_law_2035 rfl ?_
  refine pm_iconst (v := nI 1) hG dL_law_2036 (by decide) ?_
  refine pm_iaddN (c := i + 1) hG dL_law_2037 (by omega) ?_
  refine pm_sldN hG hs dL_law_2038 (by omega) hL ?_
  refine pm_callV (As := [.int (xs (i + 1))]) (rest := []) hG hR dL_law_2039 (lkL_231 _ rfl) okV_X12_tell rfl rfl (c_X12_tell (d := 1999) (by decide) e2) rfl rfl (by decide) (by omega) (by omega) (by decide) (pm_ki (fun v2 σ2 cnt2 hq => ?_))
  obtain ⟨rfl, rfl, rfl⟩ := hq
  refine pm_pop hG dL_law_2042 rfl ?_
  refine pm_goto (tgt := 2105) hG dL_law_2043 rfl ?_
  exact hT _ _ _ _ (LI.nx h74 hk hr1 hx1 kx) (by omega) (by omega)

set_option maxRecDepth 100000 in
set_option maxHeartbeats 4000000 in
theorem law_check {nm : String} {G : pm_G} {B b cs zs cnt L i w : Nat} {σ : pm_S} {xs : Nat → Int32} (hG : pm_ok (mL_law nm) G B) (hR : pm_rm G 2000 600000 7302250) (hs : pm_scr G B b L xs) (hi : i + 6 ≤ L) (hL : L ≤ 3072) (hc : cs ≤ 590000) (hz : zs ≤ 7200000) (hw : w ≤ 1000) (hl : LI B σ cnt w) (hT : ∀ (σ' : pm_S) (cnt' cs' zs' : Nat), LI B σ' cnt' (w + 1) → cs' ≤ cs + 27 → zs' ≤ zs + 2170 → pm_wp (mL_law nm) G B 2105 [some (.ref b), some (.ref (B + 0)), some (.ref (B + 54)), some (.int (nI i))] [] cs' zs' cnt' σ') : pm_wp (mL_law nm) G B 2046 [some (.ref b), some (.ref (B + 0)), some (.ref (B + 54)), some (.int (nI i))] [] cs zs cnt σ := by
  obtain ⟨h74, kp, S, T, lc, lm, ⟨K, h⟩, hx, hk⟩ := hl
  refine pm_weak (pm_sub_two lc) ?_
  refine pm_aloadn hG dL_law_2046 rfl ?_
  obtain ⟨v, S1, T1, e1, e2, hr1, hx1, kx⟩ := (op_check  h).x hx
  refine pm_callV (As := []) (rest := []) hG hR dL_law_2047 (lkL_232 _ rfl) okV_X11_check rfl rfl (c_X11_check (d := 1999) (by decide) e1) rfl rfl (by decide) (by omega) (by omega) (by decide) (pm_ki (fun v1 σ1 cnt1 hq => ?_))
  obtain ⟨rfl, rfl, rfl⟩ := hq
  have lm1 : pm_lies (cst B kp S1 σ) 54 (md_F B T.1 T.2) := lm.same (fun j h1 _ => pm_two_hi h1)
  refine pm_weak (pm_sub_mid lm1) ?_
  refine pm_pop hG dL_law_2050 rfl ?_
  refine pm_aloadn hG dL_law_2051 rfl ?_
  refine pm_callV (As := []) (rest := []) hG hR dL_law_2052 (lkL_235 _ rfl) okV_X12_check rfl rfl (c_X12_check (d := 1999) (by decide) e2) rfl rfl (by decide) (by omega) (by omega) (by decide) (pm_ki (fun v2 σ2 cnt2 hq => ?_))
  obtain ⟨rfl, rfl, rfl⟩ := hq
  refine pm_pop hG dL_law_2055 rfl ?_
  refine pm_goto (tgt := 2105) hG dL_law_2056 rfl ?_
  exact hT _ _ _ _ (LI.nx h74 hk hr1 hx1 kx) (by omega) (by omega)

set_option maxRecDepth 100000 in
set_option maxHeartbeats 4000000 in
theorem law_count {nm : String} {G : pm_G} {B b cs zs cnt L i w : Nat} {σ : pm_S} {xs : Nat → Int32} (hG : pm_ok (mL_law nm) G B) (hR : pm_rm G 2000 600000 7302250) (hs : pm_scr G B b L xs) (hi : i + 6 ≤ L) (hL : L ≤ 3072) (hc : cs ≤ 590000) (hz : zs ≤ 7200000) (hw : w ≤ 1000) (hl : LI B σ cnt w) (hT : ∀ (σ' : pm_S) (cnt' cs' zs' : Nat), LI B σ' cnt' (w + 1) → cs' ≤ cs + 27 → zs' ≤ zs + 2170 → pm_wp (mL_law nm) G B 2105 [some (.ref b), some (.ref (B + 0)), some (.ref (B + 54)), some (.int (nI i))] [] cs' zs' cnt' σ') : pm_wp (mL_law nm) G B 2059 [some (.ref b), some (.ref (B + 0)), some (.ref (B + 54)), some (.int (nI i))] [] cs zs cnt σ := by
  obtain ⟨h74, kp, S, T, lc, lm, ⟨K, h⟩, hx, hk⟩ := hl
  refine pm_weak (pm_sub_two lc) ?_
  refine pm_aloadn hG dL_law_2059 rfl ?_
  refine pm_aloadn hG dL_law_2060 rfl ?_
  refine pm_iloadn hG dL_law_2061 rfl ?_
  refine pm_iconst (v := nI 1) hG dL_law_2062 (by decide) ?_
  refine pm_iaddN (c := i + 1) hG dL_law_2063 (by omega) ?_
  refine pm_sldN hG hs dL_law_2064 (by omega) hL ?_
  obtain ⟨v, S1, T1, e1, e2, hr1, hx1, kx⟩ := (op_count (za := xs (i + 1)) h hx).x hx
  refine pm_callV (As := [.int (xs (i + 1))]) (rest := []) hG hR dL_law_2065 (lkL_236 _ rfl) okV_X11_count rfl rfl (c_X11_count (d := 1999) (by decide) e1) rfl rfl (by decide) (by omega) (by omega) (by decide) (pm_ki (fun v1 σ1 cnt1 hq => ?_))
  obtain ⟨rfl, rfl, rfl⟩ := hq
  have lm1 : pm_lies (cst B kp S1 σ) 54 (md_F B T.1 T.2) := lm.same (fun j h1 _ => pm_two_hi h1)
  refine pm_weak (pm_sub_mid lm1) ?_
  refine pm_aloadn hG dL_law_2068 rfl ?_
  refine pm_aloadn hG dL_law_2069 rfl ?_
  refine pm_iloadn hG dL_law_2070 rfl ?_
  refine pm_iconst (v := nI 1) hG dL_law_2071 (by decide) ?_
  refine pm_iaddN (c := i + 1) hG dL_law_2072 (by omega) ?_
  refine pm_sldN hG hs dL_law_2073 (by omega) hL ?_
  refine pm_callV (As := [.int (xs (i + 1))]) (rest := [.int v1]) hG hR dL_law_2074 (lkL_239 _ rfl) okV_X12_count rfl rfl (c_X12_count (d := 1999) (by decide) e2) rfl rfl (by decide) (by omega) (by omega) (Nat.le_of_ble_eq_true rfl) (pm_ki (fun v2 σ2 cnt2 hq => ?_))
  obtain ⟨rfl, rfl, rfl⟩ := hq
  refine pm_icmp_eq (tgt := 2105) hG dL_law_2077 rfl (fun _ => ?_) (fun q => absurd (rfl) q)
  exact hT _ _ _ _ (LI.nx h74 hk hr1 hx1 kx) (by omega) (by omega)
