theorem pm_lend6 {L q : Nat} (hL : L ≤ 3072) (hq : 6 * q ≤ L + 5) (h : ¬ 6 * q + 6 ≤ L) : (Int32.ofNat L - nI 6 : Int32) < nI (6 * q) := by
  have h1 := pk_sub_toInt (a := L) (b := 6) (by omega) (by decide)
  have h2 := nI_toInt (n := 6 * q) (by omega)
  show nI L - nI 6 < nI (6 * q)
  rw [Int32.lt_iff_toInt_lt, h1, h2]; omega
set_option maxRecDepth 100000 in
set_option maxHeartbeats 8000000 in
theorem law_switch {nm : String} {G : pm_G} {B b cs zs cnt L i w : Nat} {σ : pm_S} {xs : Nat → Int32} (hG : pm_ok (mL_law nm) G B) (hR : pm_rm G 2000 600000 7302250) (hs : pm_scr G B b L xs) (hi : i + 6 ≤ L) (hL : L ≤ 3072) (hc : cs ≤ 590000) (hz : zs ≤ 7200000) (hw : w ≤ 1000) (hl : LI B σ cnt w) (hT : ∀ (σ' : pm_S) (cnt' cs' zs' : Nat), LI B σ' cnt' (w + 1) → cs' ≤ cs + 27 → zs' ≤ zs + 2170 → pm_wp (mL_law nm) G B 2105 [some (.ref b), some (.ref (B + 0)), some (.ref (B + 54)), some (.int (nI i))] [] cs' zs' cnt' σ') : pm_wp (mL_law nm) G B 27 [some (.ref b), some (.ref (B + 0)), some (.ref (B + 54)), some (.int (nI i))] [] cs zs cnt σ := by
  refine pm_aloadn hG dL_law_27 rfl ?_
  refine pm_iloadn hG dL_law_28 rfl ?_
  refine pm_sldN hG hs dL_law_29 (by omega) hL ?_
  refine pm_bipush (v := 63) hG dL_law_30 (by decide) ?_
  refine pm_iand hG dL_law_32 ?_
  obtain ⟨j, hj, hx⟩ := pk_andE (xs i) (m := 63) 6 (by decide)
  refine pm_top (v := nI j) hx ?_
  rcases (show j = 0 ∨ j = 1 ∨ j = 2 ∨ j = 3 ∨ j = 4 ∨ j = 5 ∨ j = 6 ∨ j = 7 ∨ j = 8 ∨ j = 9 ∨ j = 10 ∨ j = 11 ∨ j = 12 ∨ j = 13 ∨ j = 14 ∨ j = 15 ∨ j = 16 ∨ j = 17 ∨ j = 18 ∨ j = 19 ∨ j = 20 ∨ j = 21 ∨ j = 22 ∨ j = 23 ∨ j = 24 ∨ j = 25 ∨ j = 26 ∨ j = 27 ∨ j = 28 ∨ j = 29 ∨ j = 30 ∨ j = 31 ∨ j = 32 ∨ j = 33 ∨ j = 34 ∨ j = 35 ∨ j = 36 ∨ j = 37 ∨ j = 38 ∨ j = 39 ∨ j = 40 ∨ j = 41 ∨ j = 42 ∨ j = 43 ∨ j = 44 ∨ j = 45 ∨ j = 46 ∨ j = 47 ∨ j = 48 ∨ j = 49 ∨ j = 50 ∨ j = 51 ∨ j = 52 ∨ j = 53 ∨ j = 54 ∨ 55 ≤ j by omega) with rfl | rfl | rfl | rfl | rfl | rfl | rfl | rfl | rfl | rfl | rfl | rfl | rfl | rfl | rfl | rfl | rfl | rfl | rfl | rfl | rfl | rfl | rfl | rfl | rfl | rfl | rfl | rfl | rfl | rfl | rfl | rfl | rfl | rfl | rfl | rfl | rfl | rfl | rfl | rfl | rfl | rfl | rfl | rfl | rfl | rfl | rfl | rfl | rfl | rfl | rfl | rfl | rfl | rfl | rfl | h55
  · refine pm_tswIn (off := 235) (tgt := 268) hG dL_law_33 (by decide) (by decide) (by decide) rfl ?_
    exact law_town hG hR hs hi hL hc hz hw hl hT
  · refine pm_tswIn (off := 248) (tgt := 281) hG dL_law_33 (by decide) (by decide) (by decide) rfl ?_
    exact law_road hG hR hs hi hL hc hz hw hl hT
  · refine pm_tswIn (off := 291) (tgt := 324) hG dL_law_33 (by decide) (by decide) (by decide) rfl ?_
    exact law_far hG hR hs hi hL hc hz hw hl hT
  · refine pm_tswIn (off := 324) (tgt := 357) hG dL_law_33 (by decide) (by decide) (by decide) rfl ?_
    exact law_person hG hR hs hi hL hc hz hw hl hT
  · refine pm_tswIn (off := 377) (tgt := 410) hG dL_law_33 (by decide) (by decide) (by decide) rfl ?_
    exact law_die hG hR hs hi hL hc hz hw hl hT
  · refine pm_tswIn (off := 400) (tgt := 433) hG dL_law_33 (by decide) (by decide) (by decide) rfl ?_
    exact law_go hG hR hs hi hL hc hz hw hl hT
  · refine pm_tswIn (off := 433) (tgt := 466) hG dL_law_33 (by decide) (by decide) (by decide) rfl ?_
    exact law_about hG hR hs hi hL hc hz hw hl hT
  · refine pm_tswIn (off := 466) (tgt := 499) hG dL_law_33 (by decide) (by decide) (by decide) rfl ?_
    exact law_pay hG hR hs hi hL hc hz hw hl hT
  · refine pm_tswIn (off := 499) (tgt := 532) hG dL_law_33 (by decide) (by decide) (by decide) rfl ?_
    exact law_men hG hR hs hi hL hc hz hw hl hT
  · refine pm_tswIn (off := 532) (tgt := 565) hG dL_law_33 (by decide) (by decide) (by decide) rfl ?_
    exact law_power hG hR hs hi hL hc hz hw hl hT
  · refine pm_tswIn (off := 575) (tgt := 608) hG dL_law_33 (by decide) (by decide) (by decide) rfl ?_
    exact law_as hG hR hs hi hL hc hz hw hl hT
  · refine pm_tswIn (off := 608) (tgt := 641) hG dL_law_33 (by decide) (by decide) (by decide) rfl ?_
    exact law_held hG hR hs hi hL hc hz hw hl hT
  · refine pm_tswIn (off := 641) (tgt := 674) hG dL_law_33 (by decide) (by decide) (by decide) rfl ?_
    exact law_give hG hR hs hi hL hc hz hw hl hT
  · refine pm_tswIn (off := 674) (tgt := 707) hG dL_law_33 (by decide) (by decide) (by decide) rfl ?_
    exact law_lend hG hR hs hi hL hc hz hw hl hT
  · refine pm_tswIn (off := 717) (tgt := 750) hG dL_law_33 (by decide) (by decide) (by decide) rfl ?_
    exact law_copy hG hR hs hi hL hc hz hw hl hT
  · refine pm_tswIn (off := 740) (tgt := 773) hG dL_law_33 (by decide) (by decide) (by decide) rfl ?_
    exact law_feed hG hR hs hi hL hc hz hw hl hT
  · refine pm_tswIn (off := 803) (tgt := 836) hG dL_law_33 (by decide) (by decide) (by decide) rfl ?_
    exact law_law hG hR hs hi hL hc hz hw hl hT
  · refine pm_tswIn (off := 836) (tgt := 869) hG dL_law_33 (by decide) (by decide) (by decide) rfl ?_
    exact law_strike hG hR hs hi hL hc hz hw hl hT
  · refine pm_tswIn (off := 859) (tgt := 892) hG dL_law_33 (by decide) (by decide) (by decide) rfl ?_
    exact law_force hG hR hs hi hL hc hz hw hl hT
  · refine pm_tswIn (off := 902) (tgt := 935) hG dL_law_33 (by decide) (by decide) (by decide) rfl ?_
    exact law_says hG hR hs hi hL hc hz hw hl hT
  · refine pm_tswIn (off := 945) (tgt := 978) hG dL_law_33 (by decide) (by decide) (by decide) rfl ?_
    exact law_draw hG hR hs hi hL hc hz hw hl hT
  · refine pm_tswIn (off := 988) (tgt := 1021) hG dL_law_33 (by decide) (by decide) (by decide) rfl ?_
    exact law_press hG hR hs hi hL hc hz hw hl hT
  · refine pm_tswIn (off := 1021) (tgt := 1054) hG dL_law_33 (by decide) (by decide) (by decide) rfl ?_
    exact law_send hG hR hs hi hL hc hz hw hl hT
  · refine pm_tswIn (off := 1054) (tgt := 1087) hG dL_law_33 (by decide) (by decide) (by decide) rfl ?_
    exact law_open hG hR hs hi hL hc hz hw hl hT
  · refine pm_tswIn (off := 1077) (tgt := 1110) hG dL_law_33 (by decide) (by decide) (by decide) rfl ?_
    exact law_obey hG hR hs hi hL hc hz hw hl hT
  · refine pm_tswIn (off := 1100) (tgt := 1133) hG dL_law_33 (by decide) (by decide) (by decide) rfl ?_
    exact law_letter hG hR hs hi hL hc hz hw hl hT
  · refine pm_tswIn (off := 1133) (tgt := 1166) hG dL_law_33 (by decide) (by decide) (by decide) rfl ?_
    exact law_days hG hR hs hi hL hc hz hw hl hT
  · refine pm_tswIn (off := 1156) (tgt := 1189) hG dL_law_33 (by decide) (by decide) (by decide) rfl ?_
    exact law_rent hG hR hs hi hL hc hz hw hl hT
  · refine pm_tswIn (off := 1189) (tgt := 1222) hG dL_law_33 (by decide) (by decide) (by decide) rfl ?_
    exact law_own hG hR hs hi hL hc hz hw hl hT
  · refine pm_tswIn (off := 1222) (tgt := 1255) hG dL_law_33 (by decide) (by decide) (by decide) rfl ?_
    exact law_rents hG hR hs hi hL hc hz hw hl hT
  · refine pm_tswIn (off := 1255) (tgt := 1288) hG dL_law_33 (by decide) (by decide) (by decide) rfl ?_
    exact law_debt hG hR hs hi hL hc hz hw hl hT
  · refine pm_tswIn (off := 1298) (tgt := 1331) hG dL_law_33 (by decide) (by decide) (by decide) rfl ?_
    exact law_owed hG hR hs hi hL hc hz hw hl hT
  · refine pm_tswIn (off := 1331) (tgt := 1364) hG dL_law_33 (by decide) (by decide) (by decide) rfl ?_
    exact law_seat hG hR hs hi hL hc hz hw hl hT
  · refine pm_tswIn (off := 1380) (tgt := 1413) hG dL_law_33 (by decide) (by decide) (by decide) rfl ?_
    exact law_promise hG hR hs hi hL hc hz hw hl hT
  · refine pm_tswIn (off := 1449) (tgt := 1482) hG dL_law_33 (by decide) (by decide) (by decide) rfl ?_
    exact law_breaks hG hR hs hi hL hc hz hw hl hT
  · refine pm_tswIn (off := 1472) (tgt := 1505) hG dL_law_33 (by decide) (by decide) (by decide) rfl ?_
    exact law_cause hG hR hs hi hL hc hz hw hl hT
  · refine pm_tswIn (off := 1505) (tgt := 1538) hG dL_law_33 (by decide) (by decide) (by decide) rfl ?_
    exact law_price hG hR hs hi hL hc hz hw hl hT
  · refine pm_tswIn (off := 1538) (tgt := 1571) hG dL_law_33 (by decide) (by decide) (by decide) rfl ?_
    exact law_buying hG hR hs hi hL hc hz hw hl hT
  · refine pm_tswIn (off := 1571) (tgt := 1604) hG dL_law_33 (by decide) (by decide) (by decide) rfl ?_
    exact law_guard hG hR hs hi hL hc hz hw hl hT
  · refine pm_tswIn (off := 1604) (tgt := 1637) hG dL_law_33 (by decide) (by decide) (by decide) rfl ?_
    exact law_night hG hR hs hi hL hc hz hw hl hT
  · refine pm_tswIn (off := 1657) (tgt := 1690) hG dL_law_33 (by decide) (by decide) (by decide) rfl ?_
    exact law_heir hG hR hs hi hL hc hz hw hl hT
  · refine pm_tswIn (off := 1680) (tgt := 1713) hG dL_law_33 (by decide) (by decide) (by decide) rfl ?_
    exact law_age hG hR hs hi hL hc hz hw hl hT
  · refine pm_tswIn (off := 1693) (tgt := 1726) hG dL_law_33 (by decide) (by decide) (by decide) rfl ?_
    exact law_after hG hR hs hi hL hc hz hw hl hT
  · refine pm_tswIn (off := 1716) (tgt := 1749) hG dL_law_33 (by decide) (by decide) (by decide) rfl ?_
    exact law_plan hG hR hs hi hL hc hz hw hl hT
  · refine pm_tswIn (off := 1749) (tgt := 1782) hG dL_law_33 (by decide) (by decide) (by decide) rfl ?_
    exact law_voice hG hR hs hi hL hc hz hw hl hT
  · refine pm_tswIn (off := 1792) (tgt := 1825) hG dL_law_33 (by decide) (by decide) (by decide) rfl ?_
    exact law_trace hG hR hs hi hL hc hz hw hl hT
  · refine pm_tswIn (off := 1815) (tgt := 1848) hG dL_law_33 (by decide) (by decide) (by decide) rfl ?_
    exact law_sheet hG hR hs hi hL hc hz hw hl hT
  · refine pm_tswIn (off := 1858) (tgt := 1891) hG dL_law_33 (by decide) (by decide) (by decide) rfl ?_
    exact law_put hG hR hs hi hL hc hz hw hl hT
  · refine pm_tswIn (off := 1901) (tgt := 1934) hG dL_law_33 (by decide) (by decide) (by decide) rfl ?_
    exact law_move hG hR hs hi hL hc hz hw hl hT
  · refine pm_tswIn (off := 1964) (tgt := 1997) hG dL_law_33 (by decide) (by decide) (by decide) rfl ?_
    exact law_image hG hR hs hi hL hc hz hw hl hT
  · refine pm_tswIn (off := 1977) (tgt := 2010) hG dL_law_33 (by decide) (by decide) (by decide) rfl ?_
    exact law_restore hG hR hs hi hL hc hz hw hl hT
  · refine pm_tswIn (off := 1990) (tgt := 2023) hG dL_law_33 (by decide) (by decide) (by decide) rfl ?_
    exact law_tell hG hR hs hi hL hc hz hw hl hT
  · refine pm_tswIn (off := 2013) (tgt := 2046) hG dL_law_33 (by decide) (by decide) (by decide) rfl ?_
    exact law_check hG hR hs hi hL hc hz hw hl hT
  · refine pm_tswIn (off := 2026) (tgt := 2059) hG dL_law_33 (by decide) (by decide) (by decide) rfl ?_
    exact law_count hG hR hs hi hL hc hz hw hl hT
  · refine pm_tswIn (off := 2049) (tgt := 2082) hG dL_law_33 (by decide) (by decide) (by decide) rfl ?_
    exact law_found hG hR hs hi hL hc hz hw hl hT
  · have h3 := nI_toInt (n := j) (by omega)
    refine pm_tswOut (dflt := 2072) (tgt := 2105) hG dL_law_33 (Or.inr (by omega)) rfl ?_
    exact hT _ _ _ _ hl.up (by omega) (by omega)
set_option maxRecDepth 100000 in
set_option maxHeartbeats 8000000 in
theorem law_loop {nm : String} {G : pm_G} {B b L : Nat} {xs : Nat → Int32} (hL : L ≤ 3072) (hG : pm_ok (mL_law nm) G B) (hR : pm_rm G 2000 600000 7302250) (hs : pm_scr G B b L xs) (hE : pm_lend nm G B) : ∀ (m q cs zs cnt : Nat) (σ : pm_S), LI B σ cnt q → 6 * q ≤ L + 5 → cs ≤ 100 + 27 * q → zs ≤ 8000 + 2170 * q → 513 - q < m → pm_wp (mL_law nm) G B 18 [some (.ref b), some (.ref (B + 0)), some (.ref (B + 54)), some (.int (nI (6 * q)))] [] cs zs cnt σ := by
  intro m
  induction m with
  | zero => intro q cs zs cnt σ _ _ _ _ hm; exact absurd hm (Nat.not_lt_zero _)
  | succ m ih =>
    intro q cs zs cnt σ hl hq hc hz hm
    refine pm_iloadn hG dL_law_18 rfl ?_
    refine pm_aloadn hG dL_law_19 rfl ?_
    refine pm_slen hG hs dL_law_20 ?_
    refine pm_bipush (v := nI 6) hG dL_law_21 (by decide) ?_
    refine pm_isub hG dL_law_23 ?_
    by_cases h6 : 6 * q + 6 ≤ L
    · obtain ⟨r, hr⟩ : ∃ r : Nat, L = 6 + r := ⟨L - 6, by omega⟩
      refine pm_top (v := nI r) (by rw [hr]; exact (pk_sub (a := 6 + r) (b := 6) (by omega)).trans (congrArg nI (by omega))) ?_
      refine pm_icmpN_gt (tgt := 2111) hG dL_law_24 rfl (by omega) (by omega) (fun q => absurd q (by omega)) (fun _ => ?_)
      refine law_switch hG hR hs h6 hL (by omega) (by omega) (by omega) hl (fun σ' cnt' cs' zs' l' hc' hz' => ?_)
      refine pm_iincX (v := nI (6 * (q + 1))) (loc' := [some (.ref b), some (.ref (B + 0)), some (.ref (B + 54)), some (.int (nI (6 * (q + 1))))]) hG dL_law_2105 rfl ((nI_add (6 * q) 6).trans (congrArg nI (by omega))) (Nat.le_of_ble_eq_true rfl) (pm_c1b rfl) rfl ?_
      refine pm_goto (tgt := 18) hG dL_law_2108 rfl ?_
      exact ih (q + 1) cs' zs' cnt' σ' l' (by omega) (by omega) (by omega) (by omega)
    · refine pm_icmp_gt (tgt := 2111) hG dL_law_24 rfl (fun _ => ?_) (fun h => absurd (pm_lend6 hL (by omega) h6) h)
      refine pm_iconst (v := 1) hG dL_law_2111 (by decide) ?_
      exact hE _ _ _ _ _ _ (by omega) (by omega) (dL_law_2112 (nm := nm)).1
set_option maxRecDepth 100000 in
set_option maxHeartbeats 8000000 in
theorem law_start {nm : String} {G : pm_G} {B b L : Nat} {xs : Nat → Int32} (hL : L ≤ 3072) (hG : pm_ok (mL_law nm) G B) (hR : pm_rm G 2000 600000 7302250) (hs : pm_scr G B b L xs) (hE : pm_lend nm G B) : pm_wp (mL_law nm) G B 0 [some (.ref b), none, none, none] [] 0 0 0 (fun _ => none) := by
  refine pm_new hG hR dL_law_0 (nwL_7 _ rfl) (Nat.le_of_ble_eq_true rfl) (Nat.le_of_ble_eq_true rfl) ?_
  refine pm_dup hG dL_law_3 rfl ?_
  refine pm_callI (As := []) (rest := [.ref (B + 0)]) hG hR dL_law_4 (lkL_9 _ rfl) okI_X11_init (k_class (d := 1999) (by decide) rfl) rfl rfl (by decide) (by decide) (by decide) (Nat.le_of_ble_eq_true rfl) (pm_kv (fun σ' cnt' hq => ?_))
  obtain ⟨⟨fw, hq1, hfw⟩, hq2, rfl⟩ := hq
  refine pm_astoreXn (loc' := [some (.ref b), some (.ref (B + 0)), none, none]) hG dL_law_7 (Nat.le_of_ble_eq_true rfl) (pm_c1b rfl) rfl ?_
  refine pm_new hG hR dL_law_8 (nwL_10 _ rfl) (Nat.le_of_ble_eq_true rfl) (Nat.le_of_ble_eq_true rfl) ?_
  refine pm_dup hG dL_law_11 rfl ?_
  refine pm_callI (As := []) (rest := [.ref (B + 54)]) hG hR dL_law_12 (lkL_12 _ rfl) okI_X12_init (k_model (d := 1999) (by decide) (pm_up_same _ _ _)) rfl rfl (by decide) (by decide) (by decide) (Nat.le_of_ble_eq_true rfl) (pm_kv (fun σ'' cnt'' hq => ?_))
  obtain ⟨hm1, hm2, rfl⟩ := hq
  have hc1 : pm_lies σ'' 0 (l_k_class B fw) := pm_old_lies hm2.trx hq1 (Nat.le_of_ble_eq_true rfl)
  refine pm_nums (cs' := 74) (zs' := 7345) (cnt' := 74) rfl rfl rfl ?_
  refine pm_astoreXn (loc' := [some (.ref b), some (.ref (B + 0)), some (.ref (B + 54)), none]) hG dL_law_15 (Nat.le_of_ble_eq_true rfl) (pm_c1b rfl) rfl ?_
  refine pm_iconst (v := nI 0) hG dL_law_16 (by decide) ?_
  refine pm_istoreXn (loc' := [some (.ref b), some (.ref (B + 0)), some (.ref (B + 54)), some (.int (nI (6 * 0)))]) hG dL_law_17 (Nat.le_of_ble_eq_true rfl) (pm_c1b rfl) rfl ?_
  exact law_loop hL hG hR hs hE _ 0 _ _ _ _ ⟨Nat.le_refl _, .null, (cl_I0, cl_A0 fw), (fun _ => 0, md_A0), by rw [show cl_L B .null ((cl_I0, cl_A0 fw) : FS).1 ((cl_I0, cl_A0 fw) : FS).2 = cl_L B .null cl_I0 (cl_A0 fw) from rfl, cl_new]; exact hc1, by rw [show md_F B ((fun _ => 0, md_A0) : FS).1 ((fun _ => 0, md_A0) : FS).2 = md_F B (fun _ => 0) md_A0 from rfl, md_new]; exact hm1, ⟨_, new_rel hfw⟩, new_rx, ⟨0, Nat.le_refl _, rfl, rfl, ⟨fun _ => rfl, fun _ => rfl⟩⟩, Or.inl rfl⟩ (by omega) (Nat.le_of_ble_eq_true rfl) (Nat.le_of_ble_eq_true rfl) (Nat.lt_succ_self _)
