set_option maxRecDepth 100000 in
set_option maxHeartbeats 4000000 in
theorem law_found {nm : String} {G : pm_G} {B b cs zs cnt L i w : Nat} {σ : pm_S} {xs : Nat → Int32} (hG : pm_ok (mL_law nm) G B) (hR : pm_rm G 2000 600000 7302250) (hs : pm_scr G B b L xs) (hi : i + 6 ≤ L) (hL : L ≤ 3072) (hc : cs ≤ 590000) (hz : zs ≤ 7200000) (hw : w ≤ 1000) (hl : LI B σ cnt w) (hT : ∀ (σ' : pm_S) (cnt' cs' zs' : Nat), LI B σ' cnt' (w + 1) → cs' ≤ cs + 27 → zs' ≤ zs + 2170 → pm_wp (mL_law nm) G B 2105 [some (.ref b), some (.ref (B + 0)), some (.ref (B + 54)), some (.int (nI i))] [] cs' zs' cnt' σ') : pm_wp (mL_law nm) G B 2082 [some (.ref b), some (.ref (B + 0)), some (.ref (B + 54)), some (.int (nI i))] [] cs zs cnt σ := by
  obtain ⟨h74, kp, S, T, lc, lm, ⟨K, h⟩, hx, hk⟩ := hl
  refine pm_weak (pm_sub_two lc) ?_
  refine pm_aloadn hG dL_law_2082 rfl ?_
  refine pm_aloadn hG dL_law_2083 rfl ?_
  refine pm_iloadn hG dL_law_2084 rfl ?_
  refine pm_iconst (v := nI 1) hG dL_law_2085 (by decide) ?_
  refine pm_iaddN (c := i + 1) hG dL_law_2086 (by omega) ?_
  refine pm_sldN hG hs dL_law_2087 (by omega) hL ?_
  obtain ⟨v, u, S1, T1, e1, e2, hr1, hx1, kx⟩ := (op_found (za := xs (i + 1)) h).x hx
  refine pm_callV (As := [.int (xs (i + 1))]) (rest := []) hG hR dL_law_2088 (lkL_240 _ rfl) okV_X11_found rfl rfl (c_X11_found (d := 1999) (by decide) e1) rfl rfl (by decide) (by omega) (by omega) (by decide) (pm_ki (fun v1 σ1 cnt1 hq => ?_))
  obtain ⟨rfl, rfl, rfl⟩ := hq
  have lm1 : pm_lies (cst B kp S1 σ) 54 (md_F B T.1 T.2) := lm.same (fun j h1 _ => pm_two_hi h1)
  refine pm_weak (pm_sub_mid lm1) ?_
  refine pm_pop hG dL_law_2091 rfl ?_
  refine pm_aloadn hG dL_law_2092 rfl ?_
  refine pm_aloadn hG dL_law_2093 rfl ?_
  refine pm_iloadn hG dL_law_2094 rfl ?_
  refine pm_iconst (v := nI 1) hG dL_law_2095 (by decide) ?_
  refine pm_iaddN (c := i + 1) hG dL_law_2096 (by omega) ?_
  refine pm_sldN hG hs dL_law_2097 (by omega) hL ?_
  refine pm_callV (As := [.int (xs (i + 1))]) (rest := []) hG hR dL_law_2098 (lkL_243 _ rfl) okV_X12_found rfl rfl (c_X12_found (d := 1999) (by decide) e2) rfl rfl (by decide) (by omega) (by omega) (by decide) (pm_ki (fun v2 σ2 cnt2 hq => ?_))
  obtain ⟨rfl, rfl, rfl⟩ := hq
  refine pm_pop hG dL_law_2101 rfl ?_
  refine pm_goto (tgt := 2105) hG dL_law_2102 rfl ?_
  exact hT _ _ _ _ (LI.nx h74 hk hr1 hx1 kx) (by omega) (by omega)
