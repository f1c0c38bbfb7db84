set_option maxRecDepth 100000 in
set_option maxHeartbeats 4000000 in
theorem law_count {nm : String} {G : pm_G} {B b cs zs cnt L i w : Nat} {σ : pm_S} {xs : Nat → Int32} (hG : pm_ok (mL_law nm) G B) (hR : pm_rm G 2000 600000 7302250) (hs : pm_scr G B b L xs) (hi : i + 6 ≤ L) (hL : L ≤ 3072) (hc : cs ≤ 590000) (hz : zs ≤ 7200000) (hw : w ≤ 1000) (hl : LI B σ cnt w) (hT : ∀ (σ' : pm_S) (cnt' cs' zs' : Nat), LI B σ' cnt' (w + 1) → cs' ≤ cs + 27 → zs' ≤ zs + 2170 → pm_wp (mL_law nm) G B 2105 [some (.ref b), some (.ref (B + 0)), some (.ref (B + 54)), some (.int (nI i))] [] cs' zs' cnt' σ') : pm_wp (mL_law nm) G B 2059 [some (.ref b), some (.ref (B + 0)), some (.ref (B + 54)), some (.int (nI i))] [] cs zs cnt σ := by
  obtain ⟨ε, εk, T, Tk, nul, n, k, im, hx, hE, hS⟩ := hl
  obtain ⟨kp, I, A, h, hk, hnu, hsub, h74, hv1, hv2⟩ := hx.cls
  refine pm_weak hsub ?_
  refine pm_aloadn hG dL_law_2059 rfl ?_
  refine pm_aloadn hG dL_law_2060 rfl ?_
  refine pm_iloadn hG dL_law_2061 rfl ?_
  refine pm_iconst (v := nI 1) hG dL_law_2062 (by decide) ?_
  refine pm_iaddN (c := i + 1) hG dL_law_2063 (by omega) ?_
  refine pm_sldN hG hs dL_law_2064 (by omega) hL ?_
  refine pm_callV (As := [.int (xs (i + 1))]) (rest := []) hG hR dL_law_2065 (lkL_236 _ rfl) okV_X11_count rfl rfl (g_X11_count (d := 1999) (by decide) h) rfl rfl (by decide) (by omega) (by omega) (by decide) (pm_ki (fun v1 σ1 cnt1 hq => ?_))
  have l1 := hv1 _ _ _ _ hq
  obtain ⟨I2, A2, z, ac, wt, pl, p0, t0, hm, hsub2, h742, hl2⟩ := l1.mod
  refine pm_weak hsub2 ?_
  obtain ⟨⟨hn, hr⟩, ⟨hk1, hk2⟩, hz2, hp0, ht0⟩ := hm
  refine pm_pop hG dL_law_2068 rfl ?_
  refine pm_aloadn hG dL_law_2069 rfl ?_
  refine pm_aloadn hG dL_law_2070 rfl ?_
  refine pm_iloadn hG dL_law_2071 rfl ?_
  refine pm_iconst (v := nI 1) hG dL_law_2072 (by decide) ?_
  refine pm_iaddN (c := i + 1) hG dL_law_2073 (by omega) ?_
  refine pm_sldN hG hs dL_law_2074 (by omega) hL ?_
  refine pm_callV (As := [.int (xs (i + 1))]) (rest := []) hG hR dL_law_2075 (lkL_239 _ rfl) okV_X12_count rfl rfl (m_count (d := 1999) (by decide) hn hr hz2 ht0) rfl rfl (by decide) (by omega) (by omega) (by decide) (pm_ki (fun v2 σ2 cnt2 hq => ?_))
  obtain ⟨⟨I9, A9, rfl⟩, rfl⟩ := hq
  refine pm_pop hG dL_law_2078 rfl ?_
  refine pm_goto (tgt := 2105) hG dL_law_2079 rfl ?_
  exact hT _ _ _ _ (⟨_, _, _, _, _, _, _, _, hl2 _ _ _ _ _ _ _ _ _ _ _ _ _ ⟨⟨hn, hr⟩, ⟨hk1, hk2⟩, hz2, hp0, ht0⟩ (fun _ _ => rfl) (Nat.le_refl _), hE.up, hS⟩) (by omega) (by omega)

set_option maxRecDepth 100000 in
set_option maxHeartbeats 4000000 in
theorem law_found {nm : String} {G : pm_G} {B b cs zs cnt L i w : Nat} {σ : pm_S} {xs : Nat → Int32} (hG : pm_ok (mL_law nm) G B) (hR : pm_rm G 2000 600000 7302250) (hs : pm_scr G B b L xs) (hi : i + 6 ≤ L) (hL : L ≤ 3072) (hc : cs ≤ 590000) (hz : zs ≤ 7200000) (hw : w ≤ 1000) (hl : LI B σ cnt w) (hT : ∀ (σ' : pm_S) (cnt' cs' zs' : Nat), LI B σ' cnt' (w + 1) → cs' ≤ cs + 27 → zs' ≤ zs + 2170 → pm_wp (mL_law nm) G B 2105 [some (.ref b), some (.ref (B + 0)), some (.ref (B + 54)), some (.int (nI i))] [] cs' zs' cnt' σ') : pm_wp (mL_law nm) G B 2082 [some (.ref b), some (.ref (B + 0)), some (.ref (B + 54)), some (.int (nI i))] [] cs zs cnt σ := by
  obtain ⟨ε, εk, T, Tk, nul, n, k, im, hx, hE, hS⟩ := hl
  obtain ⟨kp, I, A, h, hk, hnu, hsub, h74, hv1, hv2⟩ := hx.cls
  refine pm_weak hsub ?_
  refine pm_aloadn hG dL_law_2082 rfl ?_
  refine pm_aloadn hG dL_law_2083 rfl ?_
  refine pm_iloadn hG dL_law_2084 rfl ?_
  refine pm_iconst (v := nI 1) hG dL_law_2085 (by decide) ?_
  refine pm_iaddN (c := i + 1) hG dL_law_2086 (by omega) ?_
  refine pm_sldN hG hs dL_law_2087 (by omega) hL ?_
  refine pm_callV (As := [.int (xs (i + 1))]) (rest := []) hG hR dL_law_2088 (lkL_240 _ rfl) okV_X11_found rfl rfl (g_X11_found (d := 1999) (by decide) h) rfl rfl (by decide) (by omega) (by omega) (by decide) (pm_ki (fun v1 σ1 cnt1 hq => ?_))
  have l1 := hv1 _ _ _ _ hq
  obtain ⟨I2, A2, z, ac, wt, pl, p0, t0, hm, hsub2, h742, hl2⟩ := l1.mod
  refine pm_weak hsub2 ?_
  obtain ⟨⟨hn, hr⟩, ⟨hk1, hk2⟩, hz2, hp0, ht0⟩ := hm
  refine pm_pop hG dL_law_2091 rfl ?_
  refine pm_aloadn hG dL_law_2092 rfl ?_
  refine pm_aloadn hG dL_law_2093 rfl ?_
  refine pm_iloadn hG dL_law_2094 rfl ?_
  refine pm_iconst (v := nI 1) hG dL_law_2095 (by decide) ?_
  refine pm_iaddN (c := i + 1) hG dL_law_2096 (by omega) ?_
  refine pm_sldN hG hs dL_law_2097 (by omega) hL ?_
  refine pm_callV (As := [.int (xs (i + 1))]) (rest := []) hG hR dL_law_2098 (lkL_243 _ rfl) okV_X12_found rfl rfl (m_found (d := 1999) (by decide) hn hz2) rfl rfl (by decide) (by omega) (by omega) (by decide) (pm_ki (fun v2 σ2 cnt2 hq => ?_))
  obtain ⟨⟨I9, A9, rfl⟩, rfl⟩ := hq
  refine pm_pop hG dL_law_2101 rfl ?_
  refine pm_goto (tgt := 2105) hG dL_law_2102 rfl ?_
  exact hT _ _ _ _ (⟨_, _, _, _, _, _, _, _, hl2 _ _ _ _ _ _ _ _ _ _ _ _ _ ⟨⟨hn, hr⟩, ⟨hk1, hk2⟩, hz2, hp0, ht0⟩ (fun _ _ => rfl) (Nat.le_refl _), hE.up, hS⟩) (by omega) (by omega)
