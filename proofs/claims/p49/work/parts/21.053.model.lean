set_option maxRecDepth 100000 in
set_option maxHeartbeats 4000000 in
theorem m_go {d B cnt p0 t0 : Nat} {σ : pm_S} {I : Nat → Int32} {A : Nat → Nat → Int32} {n k z : Nat → Int32} {ac wt pl im : Int32} {y : Nat → Int32} {za zb : Int32} (hdd : 5 ≤ d) (hn : KI n) (hr : NR n) (hz : SZ z)  : pm_met mX12_go d 0 0 B [.ref (B + 54), .int za, .int zb] cnt (pm_mid σ (md_L B I A n k z ac wt pl (nI p0) (nI t0) im y)) (pm_Qi (fun v σ' cnt' => (∃ (I' : Nat → Int32) (A' : Nat → Nat → Int32) (n' : Nat → Int32), σ' = pm_mid σ (md_L B I' A' n' k z ac wt pl (nI p0) (nI t0) im y) ∧ KI n' ∧ NR n') ∧ cnt = cnt')) := by
  refine pm_enter 1 (by decide) (Nat.le_of_ble_eq_true rfl) rfl (fun G hG hR hF => ?_)
  refine pm_aloadn hG dX12_go_0 rfl ?_
  refine pm_iloadn hG dX12_go_1 rfl ?_
  obtain ⟨k1, hk1, ek1⟩ := KI.nat hn (show kd 2 = (1, 21, true) by decide)
  refine pm_callV (As := [.int za]) (rest := []) hG hR dX12_go_2 (lkX12_91 _ rfl) okV_X12_isPerson rfl rfl (m_isPerson (d := 4) (by decide) ek1 (by omega)) rfl rfl hdd (Nat.le_refl _) (Nat.le_refl _) (by decide) (pm_ki (fun v2 σ' cnt' hq => ?_))
  obtain ⟨hq, rfl, rfl⟩ := hq
  rcases hq with ⟨rfl, k4, hk4, ek4⟩ | rfl
  · refine pm_ifN_eq (tgt := 16) hG dX12_go_5 rfl (by omega) (fun q => absurd q (by omega)) (fun _ => ?_)
    refine pm_aloadn hG dX12_go_8 rfl ?_
    refine pm_iloadn hG dX12_go_9 rfl ?_
    obtain ⟨k5, hk5, ek5⟩ := KI.nat hn (show kd 0 = (1, 11, true) by decide)
    refine pm_callV (As := [.int zb]) (rest := []) hG hR dX12_go_10 (lkX12_84 _ rfl) okV_X12_isTown rfl rfl (m_isTown (d := 4) (by decide) ek5 (by omega)) rfl rfl hdd (Nat.le_refl _) (Nat.le_refl _) (by decide) (pm_ki (fun v6 σ' cnt' hq => ?_))
    obtain ⟨hq, rfl, rfl⟩ := hq
    rcases hq with ⟨rfl, k8, hk8, ek8⟩ | rfl
    · refine pm_ifN_ne (tgt := 22) hG dX12_go_13 rfl (by omega) (fun _ => ?_) (fun q => absurd q (by omega))
      refine pm_aloadn hG dX12_go_22 rfl ?_
      refine pm_iloadn hG dX12_go_23 rfl ?_
      refine pm_top (v := nI k4) ek4 ?_
      rcases KI.opt hn (show kd (14 * k4 + 119) = (2, 2001, false) from (kd_P (k := k4) (c := 9) (by omega) (by omega) (by decide))) with ek9 | ⟨k9, hk9, ek9⟩
      · refine pm_callV (As := [.int (nI k4)]) (rest := []) hG hR dX12_go_24 (lkX12_101 _ rfl) okV_X12_lives rfl rfl (m_lives1 (d := 4) (by decide) (by omega) (by omega : 14 * k4 + 119 = 14 * k4 + 119) ek9) rfl rfl hdd (Nat.le_refl _) (Nat.le_refl _) (by decide) (pm_ki (fun v10 σ' cnt' hq => ?_))
        obtain ⟨rfl, rfl, rfl⟩ := hq
        refine pm_ifN_eq (tgt := 39) hG dX12_go_27 rfl (by omega) (fun q => absurd q (by omega)) (fun _ => ?_)
        refine pm_aloadn hG dX12_go_30 rfl ?_
        refine pm_iloadn hG dX12_go_31 rfl ?_
        refine pm_top (v := nI k4) ek4 ?_
        refine pm_iconst (v := nI 4) hG dX12_go_32 (by decide) ?_
        refine pm_callV (As := [.int (nI k4), .int (nI 4)]) (rest := []) hG hR dX12_go_33 (lkX12_72 _ rfl) okV_X12_man rfl rfl (m_man (d := 4) (e := 14 * k4 + 114) (by omega) (by omega) (by omega)) rfl rfl hdd (Nat.le_refl _) (Nat.le_refl _) (by decide) (pm_ki (fun v11 σ' cnt' hq => ?_))
        obtain ⟨rfl, rfl, rfl⟩ := hq
        rcases KI.opt hn (show kd (14 * k4 + 114) = (2, 10, false) from (kd_P (k := k4) (c := 4) (by omega) (by omega) (by decide))) with ek12 | ⟨k12, hk12, ek12⟩
        · refine pm_top (v := (-1)) ek12 ?_
          refine pm_if_ge (tgt := 45) hG dX12_go_36 rfl (fun q => absurd q (by decide)) (fun _ => ?_)
          refine pm_aloadn hG dX12_go_39 rfl ?_
          refine pm_iconst (v := nI 3) hG dX12_go_40 (by decide) ?_
          refine pm_callV (As := [.int (nI 3)]) (rest := []) hG hR dX12_go_41 (lkX12_80 _ rfl) okV_X12_finds rfl rfl (m_finds (d := 4) (by decide) hn hz (by omega)) rfl rfl hdd (Nat.le_refl _) (Nat.le_refl _) (by decide) (pm_ki (fun v13 σ' cnt' hq => ?_))
          obtain ⟨⟨I14, A14, rfl⟩, rfl, fv13⟩ := hq
          exact pm_iret hG hF dX12_go_44 rfl (Nat.le_refl _) (Nat.le_refl _) ⟨_, rfl, ⟨_, _, _, rfl, hn, hr⟩, rfl⟩
        · refine pm_top (v := nI k12) ek12 ?_
          refine pm_ifN_ge (tgt := 45) hG dX12_go_36 rfl (by omega) ?_
          refine pm_aloadn hG dX12_go_45 rfl ?_
          refine pm_iloadn hG dX12_go_46 rfl ?_
          refine pm_top (v := nI k4) ek4 ?_
          refine pm_iloadn hG dX12_go_47 rfl ?_
          refine pm_top (v := nI k8) ek8 ?_
          refine pm_callV (As := [.int (nI k4), .int (nI k8)]) (rest := []) hG hR dX12_go_48 (lkX12_119 _ rfl) okV_X12_goes rfl rfl (m_goes (d := 4) (by decide) hn hr hz (by omega) (by omega)) rfl rfl hdd (Nat.le_refl _) (Nat.le_refl _) (by decide) (pm_ki (fun v15 σ' cnt' hq => ?_))
          obtain ⟨⟨I16, A16, n_16, rfl, hn16, hr16⟩, rfl⟩ := hq
          refine pm_istoreXn (loc' := [some (.ref (B + 54)), some (.int za), some (.int zb), some (.int v15)]) hG dX12_go_51 (by decide) (pm_c1b rfl) rfl ?_
          refine pm_iloadn hG dX12_go_52 rfl ?_
          refine pm_if_ge (tgt := 64) hG dX12_go_53 rfl (fun c17 => ?_) (fun c17 => ?_)
          · obtain ⟨k18, hk18, ek18⟩ := nI_of (Int32.not_lt.mpr c17)
            refine pm_iloadn hG dX12_go_64 rfl ?_
            refine pm_top (v := nI k18) ek18 ?_
            exact pm_iret hG hF dX12_go_65 rfl (Nat.le_refl _) (Nat.le_refl _) ⟨_, rfl, ⟨_, _, _, rfl, hn16, hr16⟩, rfl⟩
          · refine pm_aloadn hG dX12_go_56 rfl ?_
            refine pm_iconst (v := nI 2) hG dX12_go_57 (by decide) ?_
            refine pm_callV (As := [.int (nI 2)]) (rest := []) hG hR dX12_go_58 (lkX12_80 _ rfl) okV_X12_finds rfl rfl (m_finds (d := 4) (by decide) hn16 hz (by omega)) rfl rfl hdd (Nat.le_refl _) (Nat.le_refl _) (by decide) (pm_ki (fun v19 σ' cnt' hq => ?_))
            obtain ⟨⟨I20, A20, rfl⟩, rfl, fv19⟩ := hq
            refine pm_goto (tgt := 65) hG dX12_go_61 rfl ?_
            exact pm_iret hG hF dX12_go_65 rfl (Nat.le_refl _) (Nat.le_refl _) ⟨_, rfl, ⟨_, _, _, rfl, hn16, hr16⟩, rfl⟩
      · refine pm_callV (As := [.int (nI k4)]) (rest := []) hG hR dX12_go_24 (lkX12_101 _ rfl) okV_X12_lives rfl rfl (m_lives0 (d := 4) (by decide) (by omega) (by omega : 14 * k4 + 119 = 14 * k4 + 119) ek9 (by omega)) rfl rfl hdd (Nat.le_refl _) (Nat.le_refl _) (by decide) (pm_ki (fun v21 σ' cnt' hq => ?_))
        obtain ⟨rfl, rfl, rfl⟩ := hq
        refine pm_ifN_eq (tgt := 39) hG dX12_go_27 rfl (by omega) (fun _ => ?_) (fun q => absurd q (by omega))
        refine pm_aloadn hG dX12_go_39 rfl ?_
        refine pm_iconst (v := nI 3) hG dX12_go_40 (by decide) ?_
        refine pm_callV (As := [.int (nI 3)]) (rest := []) hG hR dX12_go_41 (lkX12_80 _ rfl) okV_X12_finds rfl rfl (m_finds (d := 4) (by decide) hn hz (by omega)) rfl rfl hdd (Nat.le_refl _) (Nat.le_refl _) (by decide) (pm_ki (fun v22 σ' cnt' hq => ?_))
        obtain ⟨⟨I23, A23, rfl⟩, rfl, fv22⟩ := hq
        exact pm_iret hG hF dX12_go_44 rfl (Nat.le_refl _) (Nat.le_refl _) ⟨_, rfl, ⟨_, _, _, rfl, hn, hr⟩, rfl⟩
    · refine pm_ifN_ne (tgt := 22) hG dX12_go_13 rfl (by omega) (fun q => absurd q (by omega)) (fun _ => ?_)
      refine pm_aloadn hG dX12_go_16 rfl ?_
      refine pm_iconst (v := nI 1) hG dX12_go_17 (by decide) ?_
      refine pm_callV (As := [.int (nI 1)]) (rest := []) hG hR dX12_go_18 (lkX12_80 _ rfl) okV_X12_finds rfl rfl (m_finds (d := 4) (by decide) hn hz (by omega)) rfl rfl hdd (Nat.le_refl _) (Nat.le_refl _) (by decide) (pm_ki (fun v24 σ' cnt' hq => ?_))
      obtain ⟨⟨I25, A25, rfl⟩, rfl, fv24⟩ := hq
      exact pm_iret hG hF dX12_go_21 rfl (Nat.le_refl _) (Nat.le_refl _) ⟨_, rfl, ⟨_, _, _, rfl, hn, hr⟩, rfl⟩
  · refine pm_ifN_eq (tgt := 16) hG dX12_go_5 rfl (by omega) (fun _ => ?_) (fun q => absurd q (by omega))
    refine pm_aloadn hG dX12_go_16 rfl ?_
    refine pm_iconst (v := nI 1) hG dX12_go_17 (by decide) ?_
    refine pm_callV (As := [.int (nI 1)]) (rest := []) hG hR dX12_go_18 (lkX12_80 _ rfl) okV_X12_finds rfl rfl (m_finds (d := 4) (by decide) hn hz (by omega)) rfl rfl hdd (Nat.le_refl _) (Nat.le_refl _) (by decide) (pm_ki (fun v26 σ' cnt' hq => ?_))
    obtain ⟨⟨I27, A27, rfl⟩, rfl, fv26⟩ := hq
    exact pm_iret hG hF dX12_go_21 rfl (Nat.le_refl _) (Nat.le_refl _) ⟨_, rfl, ⟨_, _, _, rfl, hn, hr⟩, rfl⟩
