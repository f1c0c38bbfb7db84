set_option maxRecDepth 100000 in
set_option maxHeartbeats 4000000 in
theorem m_far {d B cnt p0 t0 : Nat} {σ : pm_S} {I : Nat → Int32} {A : Nat → Nat → Int32} {n k z : Nat → Int32} {ac wt pl im : Int32} {y : Nat → Int32} {za zb : Int32} (hdd : 3 ≤ d) (hn : KI n) (hz : SZ z)  : pm_met mX12_far d 0 0 B [.ref (B + 54), .int za, .int zb] cnt (pm_mid σ (md_L B I A n k z ac wt pl (nI p0) (nI t0) im y)) (pm_Qi (fun v σ' cnt' => (∃ (I' : Nat → Int32) (A' : Nat → Nat → Int32), σ' = pm_mid σ (md_L B I' A' n k z ac wt pl (nI p0) (nI t0) im y)) ∧ cnt = cnt')) := by
  refine pm_enter 1 (by decide) (Nat.le_of_ble_eq_true rfl) rfl (fun G hG hR hF => ?_)
  refine pm_aloadn hG dX12_far_0 rfl ?_
  refine pm_iloadn hG dX12_far_1 rfl ?_
  obtain ⟨k1, hk1, ek1⟩ := KI.nat hn (show kd 0 = (1, 11, true) by decide)
  refine pm_callV (As := [.int za]) (rest := []) hG hR dX12_far_2 (lkX12_84 _ rfl) okV_X12_isTown rfl rfl (m_isTown (d := 2) (by decide) ek1 (by omega)) rfl rfl hdd (Nat.le_refl _) (Nat.le_refl _) (by decide) (pm_ki (fun v2 σ' cnt' hq => ?_))
  obtain ⟨hq, rfl, rfl⟩ := hq
  rcases hq with ⟨rfl, k4, hk4, ek4⟩ | rfl
  · refine pm_ifN_eq (tgt := 16) hG dX12_far_5 rfl (by omega) (fun q => absurd q (by omega)) (fun _ => ?_)
    refine pm_aloadn hG dX12_far_8 rfl ?_
    refine pm_iloadn hG dX12_far_9 rfl ?_
    refine pm_callV (As := [.int zb]) (rest := []) hG hR dX12_far_10 (lkX12_84 _ rfl) okV_X12_isTown rfl rfl (m_isTown (d := 2) (by decide) ek1 (by omega)) rfl rfl hdd (Nat.le_refl _) (Nat.le_refl _) (by decide) (pm_ki (fun v5 σ' cnt' hq => ?_))
    obtain ⟨hq, rfl, rfl⟩ := hq
    rcases hq with ⟨rfl, k7, hk7, ek7⟩ | rfl
    · refine pm_ifN_ne (tgt := 22) hG dX12_far_13 rfl (by omega) (fun _ => ?_) (fun q => absurd q (by omega))
      refine pm_aloadn hG dX12_far_22 rfl ?_
      refine pm_iloadn hG dX12_far_23 rfl ?_
      refine pm_top (v := nI k4) ek4 ?_
      refine pm_iloadn hG dX12_far_24 rfl ?_
      refine pm_top (v := nI k7) ek7 ?_
      refine pm_callV (As := [.int (nI k4), .int (nI k7)]) (rest := []) hG hR dX12_far_25 (lkX12_88 _ rfl) okV_X12_farOf rfl rfl (m_farOf (d := 2) (by decide) hn hz (by omega)) rfl rfl hdd (Nat.le_refl _) (Nat.le_refl _) (by decide) (pm_ki (fun v8 σ' cnt' hq => ?_))
      obtain ⟨⟨I9, A9, rfl⟩, rfl⟩ := hq
      refine pm_istoreXn (loc' := [some (.ref (B + 54)), some (.int za), some (.int zb), some (.int v8)]) hG dX12_far_28 (by decide) (pm_c1b rfl) rfl ?_
      refine pm_iloadn hG dX12_far_29 rfl ?_
      refine pm_if_ge (tgt := 41) hG dX12_far_30 rfl (fun c10 => ?_) (fun c10 => ?_)
      · obtain ⟨k11, hk11, ek11⟩ := nI_of (Int32.not_lt.mpr c10)
        refine pm_iloadn hG dX12_far_41 rfl ?_
        refine pm_top (v := nI k11) ek11 ?_
        exact pm_iret hG hF dX12_far_42 rfl (Nat.le_refl _) (Nat.le_refl _) ⟨_, rfl, ⟨_, _, rfl⟩, rfl⟩
      · refine pm_aloadn hG dX12_far_33 rfl ?_
        refine pm_iconst (v := nI 2) hG dX12_far_34 (by decide) ?_
        refine pm_callV (As := [.int (nI 2)]) (rest := []) hG hR dX12_far_35 (lkX12_80 _ rfl) okV_X12_finds rfl rfl (m_finds (d := 2) (by decide) hn hz (by omega)) rfl rfl hdd (Nat.le_refl _) (Nat.le_refl _) (by decide) (pm_ki (fun v12 σ' cnt' hq => ?_))
        obtain ⟨⟨I13, A13, rfl⟩, rfl, fv12⟩ := hq
        refine pm_goto (tgt := 42) hG dX12_far_38 rfl ?_
        exact pm_iret hG hF dX12_far_42 rfl (Nat.le_refl _) (Nat.le_refl _) ⟨_, rfl, ⟨_, _, rfl⟩, rfl⟩
    · refine pm_ifN_ne (tgt := 22) hG dX12_far_13 rfl (by omega) (fun q => absurd q (by omega)) (fun _ => ?_)
      refine pm_aloadn hG dX12_far_16 rfl ?_
      refine pm_iconst (v := nI 1) hG dX12_far_17 (by decide) ?_
      refine pm_callV (As := [.int (nI 1)]) (rest := []) hG hR dX12_far_18 (lkX12_80 _ rfl) okV_X12_finds rfl rfl (m_finds (d := 2) (by decide) hn hz (by omega)) rfl rfl hdd (Nat.le_refl _) (Nat.le_refl _) (by decide) (pm_ki (fun v14 σ' cnt' hq => ?_))
      obtain ⟨⟨I15, A15, rfl⟩, rfl, fv14⟩ := hq
      exact pm_iret hG hF dX12_far_21 rfl (Nat.le_refl _) (Nat.le_refl _) ⟨_, rfl, ⟨_, _, rfl⟩, rfl⟩
  · refine pm_ifN_eq (tgt := 16) hG dX12_far_5 rfl (by omega) (fun _ => ?_) (fun q => absurd q (by omega))
    refine pm_aloadn hG dX12_far_16 rfl ?_
    refine pm_iconst (v := nI 1) hG dX12_far_17 (by decide) ?_
    refine pm_callV (As := [.int (nI 1)]) (rest := []) hG hR dX12_far_18 (lkX12_80 _ rfl) okV_X12_finds rfl rfl (m_finds (d := 2) (by decide) hn hz (by omega)) rfl rfl hdd (Nat.le_refl _) (Nat.le_refl _) (by decide) (pm_ki (fun v16 σ' cnt' hq => ?_))
    obtain ⟨⟨I17, A17, rfl⟩, rfl, fv16⟩ := hq
    exact pm_iret hG hF dX12_far_21 rfl (Nat.le_refl _) (Nat.le_refl _) ⟨_, rfl, ⟨_, _, rfl⟩, rfl⟩
