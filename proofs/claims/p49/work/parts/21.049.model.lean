set_option maxRecDepth 100000 in
set_option maxHeartbeats 4000000 in
theorem m_force {d B cnt p0 t0 : Nat} {σ : pm_S} {I : Nat → Int32} {A : Nat → Nat → Int32} {n k z : Nat → Int32} {ac wt pl im : Int32} {y : Nat → Int32} {za zb zc : Int32} (hdd : 2 ≤ d) (hn : KI n) (hz : SZ z)  : pm_met mX12_force d 0 0 B [.ref (B + 54), .int za, .int zb, .int zc] cnt (pm_mid σ (md_L B I A n k z ac wt pl (nI p0) (nI t0) im y)) (pm_Qi (fun v σ' cnt' => (∃ (I' : Nat → Int32) (A' : Nat → Nat → Int32), σ' = pm_mid σ (md_L B I' A' n k z ac wt pl (nI p0) (nI t0) im y)) ∧ cnt = cnt')) := by
  refine pm_enter 1 (by decide) (Nat.le_of_ble_eq_true rfl) rfl (fun G hG hR hF => ?_)
  refine pm_iloadn hG dX12_force_0 rfl ?_
  refine pm_iconst (v := nI 0) hG dX12_force_1 (by decide) ?_
  refine pm_iconst (v := nI 4) hG dX12_force_2 (by decide) ?_
  refine pm_callS (As := [.int za, .int (nI 0), .int (nI 4)]) (rest := []) hG hR dX12_force_3 (lkX12_68 _ rfl) okS_X12_in (m_in (d := 1)) rfl rfl hdd (Nat.le_refl _) (Nat.le_refl _) (by decide) (pm_ki (fun v1 σ' cnt' hq => ?_))
  obtain ⟨hq, rfl, rfl⟩ := hq
  rcases hq with ⟨rfl, ac2, bc2⟩ | ⟨rfl, c2⟩
  · obtain ⟨k3, hk3, ek3⟩ := in_nat (by omega) (by omega) ac2 bc2
    refine pm_ifN_eq (tgt := 27) hG dX12_force_6 rfl (by omega) (fun q => absurd q (by omega)) (fun _ => ?_)
    refine pm_iloadn hG dX12_force_9 rfl ?_
    refine pm_callS (As := [.int zb]) (rest := []) hG hR dX12_force_10 (lkX12_186 _ rfl) okS_X12_isDay (m_isDay (d := 1) (by decide)) rfl rfl hdd (Nat.le_refl _) (Nat.le_refl _) (by decide) (pm_ki (fun v4 σ' cnt' hq => ?_))
    obtain ⟨hq, rfl, rfl⟩ := hq
    rcases hq with ⟨rfl, ac5, bc5⟩ | ⟨rfl, c5⟩
    · obtain ⟨k6, hk6, ek6⟩ := in_nat (by omega) (by omega) ac5 bc5
      refine pm_ifN_eq (tgt := 27) hG dX12_force_13 rfl (by omega) (fun q => absurd q (by omega)) (fun _ => ?_)
      refine pm_iloadn hG dX12_force_16 rfl ?_
      refine pm_iconst (v := (-1)) hG dX12_force_17 (by decide) ?_
      refine pm_sipush (v := nI 2000) hG dX12_force_18 (by decide) ?_
      refine pm_callS (As := [.int zc, .int (-1), .int (nI 2000)]) (rest := []) hG hR dX12_force_21 (lkX12_68 _ rfl) okS_X12_in (m_in (d := 1)) rfl rfl hdd (Nat.le_refl _) (Nat.le_refl _) (by decide) (pm_ki (fun v7 σ' cnt' hq => ?_))
      obtain ⟨hq, rfl, rfl⟩ := hq
      rcases hq with ⟨rfl, ac8, bc8⟩ | ⟨rfl, c8⟩
      · refine pm_ifN_ne (tgt := 33) hG dX12_force_24 rfl (by omega) (fun _ => ?_) (fun q => absurd q (by omega))
        refine pm_aloadn hG dX12_force_33 rfl ?_
        refine pm_iloadn hG dX12_force_34 rfl ?_
        refine pm_top (v := nI k3) ek3 ?_
        refine pm_iloadn hG dX12_force_35 rfl ?_
        refine pm_top (v := nI k6) ek6 ?_
        refine pm_iloadn hG dX12_force_36 rfl ?_
        refine pm_callV (As := [.int (nI k3), .int (nI k6), .int zc]) (rest := []) hG hR dX12_force_37 (lkX12_195 _ rfl) okV_X12_inForce rfl rfl (m_inForce (d := 1) (by decide) hn hz) rfl rfl hdd (Nat.le_refl _) (Nat.le_refl _) (by decide) (pm_ki (fun v9 σ' cnt' hq => ?_))
        obtain ⟨rfl, rfl, rv9⟩ := hq
        rcases rv9 with rfl | ⟨k11, hk11, rfl⟩
        · refine pm_istoreXi (loc' := [some (.ref (B + 54)), some (.int za), some (.int zb), some (.int zc), some (.int (-1))]) hG dX12_force_40 (by decide) (pm_c1b rfl) rfl ?_
          refine pm_iloadi hG dX12_force_42 rfl ?_
          refine pm_if_ge (tgt := 55) hG dX12_force_44 rfl (fun q => absurd q (by decide)) (fun _ => ?_)
          refine pm_aloadn hG dX12_force_47 rfl ?_
          refine pm_iconst (v := nI 2) hG dX12_force_48 (by decide) ?_
          refine pm_callV (As := [.int (nI 2)]) (rest := []) hG hR dX12_force_49 (lkX12_80 _ rfl) okV_X12_finds rfl rfl (m_finds (d := 1) (by decide) hn hz (by omega)) rfl rfl hdd (Nat.le_refl _) (Nat.le_refl _) (by decide) (pm_ki (fun v12 σ' cnt' hq => ?_))
          obtain ⟨⟨I13, A13, rfl⟩, rfl, fv12⟩ := hq
          refine pm_goto (tgt := 57) hG dX12_force_52 rfl ?_
          exact pm_iret hG hF dX12_force_57 rfl (Nat.le_refl _) (Nat.le_refl _) ⟨_, rfl, ⟨_, _, rfl⟩, rfl⟩
        · refine pm_istoreXi (loc' := [some (.ref (B + 54)), some (.int za), some (.int zb), some (.int zc), some (.int (nI k11))]) hG dX12_force_40 (by decide) (pm_c1b rfl) rfl ?_
          refine pm_iloadi hG dX12_force_42 rfl ?_
          refine pm_ifN_ge (tgt := 55) hG dX12_force_44 rfl (by omega) ?_
          refine pm_iloadi hG dX12_force_55 rfl ?_
          exact pm_iret hG hF dX12_force_57 rfl (Nat.le_refl _) (Nat.le_refl _) ⟨_, rfl, ⟨_, _, rfl⟩, rfl⟩
      · refine pm_ifN_ne (tgt := 33) hG dX12_force_24 rfl (by omega) (fun q => absurd q (by omega)) (fun _ => ?_)
        refine pm_aloadn hG dX12_force_27 rfl ?_
        refine pm_iconst (v := nI 1) hG dX12_force_28 (by decide) ?_
        refine pm_callV (As := [.int (nI 1)]) (rest := []) hG hR dX12_force_29 (lkX12_80 _ rfl) okV_X12_finds rfl rfl (m_finds (d := 1) (by decide) hn hz (by omega)) rfl rfl hdd (Nat.le_refl _) (Nat.le_refl _) (by decide) (pm_ki (fun v14 σ' cnt' hq => ?_))
        obtain ⟨⟨I15, A15, rfl⟩, rfl, fv14⟩ := hq
        exact pm_iret hG hF dX12_force_32 rfl (Nat.le_refl _) (Nat.le_refl _) ⟨_, rfl, ⟨_, _, rfl⟩, rfl⟩
    · refine pm_ifN_eq (tgt := 27) hG dX12_force_13 rfl (by omega) (fun _ => ?_) (fun q => absurd q (by omega))
      refine pm_aloadn hG dX12_force_27 rfl ?_
      refine pm_iconst (v := nI 1) hG dX12_force_28 (by decide) ?_
      refine pm_callV (As := [.int (nI 1)]) (rest := []) hG hR dX12_force_29 (lkX12_80 _ rfl) okV_X12_finds rfl rfl (m_finds (d := 1) (by decide) hn hz (by omega)) rfl rfl hdd (Nat.le_refl _) (Nat.le_refl _) (by decide) (pm_ki (fun v16 σ' cnt' hq => ?_))
      obtain ⟨⟨I17, A17, rfl⟩, rfl, fv16⟩ := hq
      exact pm_iret hG hF dX12_force_32 rfl (Nat.le_refl _) (Nat.le_refl _) ⟨_, rfl, ⟨_, _, rfl⟩, rfl⟩
  · refine pm_ifN_eq (tgt := 27) hG dX12_force_6 rfl (by omega) (fun _ => ?_) (fun q => absurd q (by omega))
    refine pm_aloadn hG dX12_force_27 rfl ?_
    refine pm_iconst (v := nI 1) hG dX12_force_28 (by decide) ?_
    refine pm_callV (As := [.int (nI 1)]) (rest := []) hG hR dX12_force_29 (lkX12_80 _ rfl) okV_X12_finds rfl rfl (m_finds (d := 1) (by decide) hn hz (by omega)) rfl rfl hdd (Nat.le_refl _) (Nat.le_refl _) (by decide) (pm_ki (fun v18 σ' cnt' hq => ?_))
    obtain ⟨⟨I19, A19, rfl⟩, rfl, fv18⟩ := hq
    exact pm_iret hG hF dX12_force_32 rfl (Nat.le_refl _) (Nat.le_refl _) ⟨_, rfl, ⟨_, _, rfl⟩, rfl⟩
