set_option maxRecDepth 100000 in
set_option maxHeartbeats 4000000 in
theorem m_age {d B cnt p0 t0 : Nat} {σ : pm_S} {I : Nat → Int32} {A : Nat → Nat → Int32} {n k z : Nat → Int32} {ac wt pl im : Int32} {y : Nat → Int32} (hdd : 5 ≤ d) (hn : KI n) (hr : NR n) (hz : SZ z)  : pm_met mX12_age d 0 0 B [.ref (B + 54)] cnt (pm_mid σ (md_L B I A n k z ac wt pl (nI p0) (nI t0) im y)) (pm_Qi (fun v σ' cnt' => (∃ (I' : Nat → Int32) (A' : Nat → Nat → Int32), σ' = pm_mid σ (md_L B I' A' n k z ac wt pl (nI p0) (nI t0) im y)) ∧ cnt = cnt')) := by
  refine pm_enter 1 (by decide) (Nat.le_of_ble_eq_true rfl) rfl (fun G hG hR hF => ?_)
  refine pm_aloadn hG dX12_age_0 rfl ?_
  refine pm_callV (As := []) (rest := []) hG hR dX12_age_1 (lkX12_267 _ rfl) okV_X12_ageDay rfl rfl (m_ageDay (d := 4) (by decide) hn hr hz) rfl rfl hdd (Nat.le_refl _) (Nat.le_refl _) (by decide) (pm_ki (fun v1 σ' cnt' hq => ?_))
  obtain ⟨⟨I2, A2, rfl⟩, rfl⟩ := hq
  refine pm_istoreXn (loc' := [some (.ref (B + 54)), some (.int v1)]) hG dX12_age_4 (by decide) (pm_c1b rfl) rfl ?_
  refine pm_iloadn hG dX12_age_5 rfl ?_
  refine pm_if_ge (tgt := 17) hG dX12_age_6 rfl (fun c3 => ?_) (fun c3 => ?_)
  · obtain ⟨k4, hk4, ek4⟩ := nI_of (Int32.not_lt.mpr c3)
    refine pm_iloadn hG dX12_age_17 rfl ?_
    refine pm_top (v := nI k4) ek4 ?_
    exact pm_iret hG hF dX12_age_18 rfl (Nat.le_refl _) (Nat.le_refl _) ⟨_, rfl, ⟨_, _, rfl⟩, rfl⟩
  · refine pm_aloadn hG dX12_age_9 rfl ?_
    refine pm_iconst (v := nI 2) hG dX12_age_10 (by decide) ?_
    refine pm_callV (As := [.int (nI 2)]) (rest := []) hG hR dX12_age_11 (lkX12_80 _ rfl) okV_X12_finds rfl rfl (m_finds (d := 4) (by decide) hn hz (by omega)) rfl rfl hdd (Nat.le_refl _) (Nat.le_refl _) (by decide) (pm_ki (fun v5 σ' cnt' hq => ?_))
    obtain ⟨⟨I6, A6, rfl⟩, rfl, fv5⟩ := hq
    refine pm_goto (tgt := 18) hG dX12_age_14 rfl ?_
    exact pm_iret hG hF dX12_age_18 rfl (Nat.le_refl _) (Nat.le_refl _) ⟨_, rfl, ⟨_, _, rfl⟩, rfl⟩
