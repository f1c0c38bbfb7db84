set_option maxRecDepth 100000 in
set_option maxHeartbeats 4000000 in
theorem m_power {d B cnt p0 t0 : Nat} {σ : pm_S} {I : Nat → Int32} {A : Nat → Nat → Int32} {n k z : Nat → Int32} {ac wt pl im : Int32} {y : Nat → Int32} {za zb zc : Int32} (hdd : 3 ≤ d) (hn : KI n) (hr : NR n) (hz : SZ z)  : pm_met mX12_power d 0 0 B [.ref (B + 54), .int za, .int zb, .int zc] cnt (pm_mid σ (md_L B I A n k z ac wt pl (nI p0) (nI t0) im y)) (pm_Qi (fun v σ' cnt' => (∃ (I' : Nat → Int32) (A' : Nat → Nat → Int32) (n' : Nat → Int32), σ' = pm_mid σ (md_L B I' A' n' k z ac wt pl (nI p0) (nI t0) im y) ∧ KI n' ∧ NR n') ∧ cnt = cnt')) := by
  refine pm_enter 0 (by decide) (Nat.le_of_ble_eq_true rfl) rfl (fun G hG hR hF => ?_)
  refine pm_iloadn hG dX12_power_0 rfl ?_
  refine pm_iconst (v := nI 0) hG dX12_power_1 (by decide) ?_
  refine pm_iconst (v := nI 5) hG dX12_power_2 (by decide) ?_
  refine pm_callS (As := [.int za, .int (nI 0), .int (nI 5)]) (rest := []) hG hR dX12_power_3 (lkX12_68 _ rfl) okS_X12_in (m_in (d := 2)) rfl rfl hdd (Nat.le_refl _) (Nat.le_refl _) (by decide) (pm_ki (fun v1 σ' cnt' hq => ?_))
  obtain ⟨hq, rfl, rfl⟩ := hq
  rcases hq with ⟨rfl, ac2, bc2⟩ | ⟨rfl, c2⟩
  · obtain ⟨k3, hk3, ek3⟩ := in_nat (by omega) (by omega) ac2 bc2
    refine pm_ifN_eq (tgt := 40) hG dX12_power_6 rfl (by omega) (fun q => absurd q (by omega)) (fun _ => ?_)
    refine pm_iloadn hG dX12_power_9 rfl ?_
    refine pm_iconst (v := (-1)) hG dX12_power_10 (by decide) ?_
    refine pm_icmp_eq (tgt := 30) hG dX12_power_11 rfl (fun c4 => ?_) (fun c4 => ?_)
    · refine pm_iloadn hG dX12_power_30 rfl ?_
      refine pm_iconst (v := nI 0) hG dX12_power_31 (by decide) ?_
      refine pm_bipush (v := nI 99) hG dX12_power_32 (by decide) ?_
      refine pm_callS (As := [.int zc, .int (nI 0), .int (nI 99)]) (rest := []) hG hR dX12_power_34 (lkX12_68 _ rfl) okS_X12_in (m_in (d := 2)) rfl rfl hdd (Nat.le_refl _) (Nat.le_refl _) (by decide) (pm_ki (fun v5 σ' cnt' hq => ?_))
      obtain ⟨hq, rfl, rfl⟩ := hq
      rcases hq with ⟨rfl, ac6, bc6⟩ | ⟨rfl, c6⟩
      · obtain ⟨k7, hk7, ek7⟩ := in_nat (by omega) (by omega) ac6 bc6
        refine pm_ifN_ne (tgt := 46) hG dX12_power_37 rfl (by omega) (fun _ => ?_) (fun q => absurd q (by omega))
        refine pm_aloadn hG dX12_power_46 rfl ?_
        refine pm_getf hG dX12_power_47 (flX12_7 _ rfl) rfl rfl ?_
        refine pm_iconst (v := nI 3) hG dX12_power_50 (by decide) ?_
        refine pm_ialdN hG dX12_power_51 rfl (by decide) (by omega) ?_
        obtain ⟨k8, hk8, ek8⟩ := KI.nat hn (show kd 3 = (1, 21, false) by decide)
        refine pm_top (v := nI k8) ek8 ?_
        refine pm_bipush (v := nI 20) hG dX12_power_52 (by decide) ?_
        refine pm_icmpN_ne (tgt := 65) hG dX12_power_54 rfl (by omega) (by omega) (fun c9 => ?_) (fun c9 => ?_)
        · refine pm_aloadn hG dX12_power_65 rfl ?_
          refine pm_iloadn hG dX12_power_66 rfl ?_
          refine pm_top (v := nI k3) ek3 ?_
          refine pm_iloadn hG dX12_power_67 rfl ?_
          refine pm_top (v := (-1)) c4 ?_
          refine pm_iloadn hG dX12_power_68 rfl ?_
          refine pm_top (v := nI k7) ek7 ?_
          refine pm_iconst (v := (-1)) hG dX12_power_69 (by decide) ?_
          refine pm_callV (As := [.int (nI k3), .int (-1), .int (nI k7), .int (-1)]) (rest := []) hG hR dX12_power_70 (lkX12_128 _ rfl) okV_X12_newPower rfl rfl (m_newPower_m (d := 2) (by decide) hn hr hz ek8 (by omega)) rfl rfl hdd (Nat.le_refl _) (Nat.le_refl _) (by decide) (pm_ki (fun v10 σ' cnt' hq => ?_))
          obtain ⟨⟨n_11, rfl, hn11, hr11⟩, rfl⟩ := hq
          exact pm_iret hG hF dX12_power_73 rfl (Nat.le_refl _) (Nat.le_refl _) ⟨_, rfl, ⟨_, _, _, rfl, hn11, hr11⟩, rfl⟩
        · refine pm_aloadn hG dX12_power_57 rfl ?_
          refine pm_iconst (v := nI 4) hG dX12_power_58 (by decide) ?_
          refine pm_callV (As := [.int (nI 4)]) (rest := []) hG hR dX12_power_59 (lkX12_80 _ rfl) okV_X12_finds rfl rfl (m_finds (d := 2) (by decide) hn hz (by omega)) rfl rfl hdd (Nat.le_refl _) (Nat.le_refl _) (by decide) (pm_ki (fun v12 σ' cnt' hq => ?_))
          obtain ⟨⟨I13, A13, rfl⟩, rfl, fv12⟩ := hq
          refine pm_goto (tgt := 73) hG dX12_power_62 rfl ?_
          exact pm_iret hG hF dX12_power_73 rfl (Nat.le_refl _) (Nat.le_refl _) ⟨_, rfl, ⟨_, _, _, rfl, hn, hr⟩, rfl⟩
      · refine pm_ifN_ne (tgt := 46) hG dX12_power_37 rfl (by omega) (fun q => absurd q (by omega)) (fun _ => ?_)
        refine pm_aloadn hG dX12_power_40 rfl ?_
        refine pm_iconst (v := nI 1) hG dX12_power_41 (by decide) ?_
        refine pm_callV (As := [.int (nI 1)]) (rest := []) hG hR dX12_power_42 (lkX12_80 _ rfl) okV_X12_finds rfl rfl (m_finds (d := 2) (by decide) hn hz (by omega)) rfl rfl hdd (Nat.le_refl _) (Nat.le_refl _) (by decide) (pm_ki (fun v14 σ' cnt' hq => ?_))
        obtain ⟨⟨I15, A15, rfl⟩, rfl, fv14⟩ := hq
        exact pm_iret hG hF dX12_power_45 rfl (Nat.le_refl _) (Nat.le_refl _) ⟨_, rfl, ⟨_, _, _, rfl, hn, hr⟩, rfl⟩
    · refine pm_aloadn hG dX12_power_14 rfl ?_
      refine pm_iloadn hG dX12_power_15 rfl ?_
      obtain ⟨k16, hk16, ek16⟩ := KI.nat hn (show kd 2 = (1, 21, true) by decide)
      refine pm_callV (As := [.int zb]) (rest := []) hG hR dX12_power_16 (lkX12_91 _ rfl) okV_X12_isPerson rfl rfl (m_isPerson (d := 2) (by decide) ek16 (by omega)) rfl rfl hdd (Nat.le_refl _) (Nat.le_refl _) (by decide) (pm_ki (fun v17 σ' cnt' hq => ?_))
      obtain ⟨hq, rfl, rfl⟩ := hq
      rcases hq with ⟨rfl, k19, hk19, ek19⟩ | rfl
      · refine pm_ifN_eq (tgt := 40) hG dX12_power_19 rfl (by omega) (fun q => absurd q (by omega)) (fun _ => ?_)
        refine pm_aloadn hG dX12_power_22 rfl ?_
        refine pm_iloadn hG dX12_power_23 rfl ?_
        refine pm_top (v := nI k19) ek19 ?_
        rcases KI.opt hn (show kd (14 * k19 + 119) = (2, 2001, false) from (kd_P (k := k19) (c := 9) (by omega) (by omega) (by decide))) with ek20 | ⟨k20, hk20, ek20⟩
        · refine pm_callV (As := [.int (nI k19)]) (rest := []) hG hR dX12_power_24 (lkX12_101 _ rfl) okV_X12_lives rfl rfl (m_lives1 (d := 2) (by decide) (by omega) (by omega : 14 * k19 + 119 = 14 * k19 + 119) ek20) rfl rfl hdd (Nat.le_refl _) (Nat.le_refl _) (by decide) (pm_ki (fun v21 σ' cnt' hq => ?_))
          obtain ⟨rfl, rfl, rfl⟩ := hq
          refine pm_ifN_eq (tgt := 40) hG dX12_power_27 rfl (by omega) (fun q => absurd q (by omega)) (fun _ => ?_)
          refine pm_iloadn hG dX12_power_30 rfl ?_
          refine pm_iconst (v := nI 0) hG dX12_power_31 (by decide) ?_
          refine pm_bipush (v := nI 99) hG dX12_power_32 (by decide) ?_
          refine pm_callS (As := [.int zc, .int (nI 0), .int (nI 99)]) (rest := []) hG hR dX12_power_34 (lkX12_68 _ rfl) okS_X12_in (m_in (d := 2)) rfl rfl hdd (Nat.le_refl _) (Nat.le_refl _) (by decide) (pm_ki (fun v22 σ' cnt' hq => ?_))
          obtain ⟨hq, rfl, rfl⟩ := hq
          rcases hq with ⟨rfl, ac23, bc23⟩ | ⟨rfl, c23⟩
          · obtain ⟨k24, hk24, ek24⟩ := in_nat (by omega) (by omega) ac23 bc23
            refine pm_ifN_ne (tgt := 46) hG dX12_power_37 rfl (by omega) (fun _ => ?_) (fun q => absurd q (by omega))
            refine pm_aloadn hG dX12_power_46 rfl ?_
            refine pm_getf hG dX12_power_47 (flX12_7 _ rfl) rfl rfl ?_
            refine pm_iconst (v := nI 3) hG dX12_power_50 (by decide) ?_
            refine pm_ialdN hG dX12_power_51 rfl (by decide) (by omega) ?_
            obtain ⟨k25, hk25, ek25⟩ := KI.nat hn (show kd 3 = (1, 21, false) by decide)
            refine pm_top (v := nI k25) ek25 ?_
            refine pm_bipush (v := nI 20) hG dX12_power_52 (by decide) ?_
            refine pm_icmpN_ne (tgt := 65) hG dX12_power_54 rfl (by omega) (by omega) (fun c26 => ?_) (fun c26 => ?_)
            · refine pm_aloadn hG dX12_power_65 rfl ?_
              refine pm_iloadn hG dX12_power_66 rfl ?_
              refine pm_top (v := nI k3) ek3 ?_
              refine pm_iloadn hG dX12_power_67 rfl ?_
              refine pm_top (v := nI k19) ek19 ?_
              refine pm_iloadn hG dX12_power_68 rfl ?_
              refine pm_top (v := nI k24) ek24 ?_
              refine pm_iconst (v := (-1)) hG dX12_power_69 (by decide) ?_
              refine pm_callV (As := [.int (nI k3), .int (nI k19), .int (nI k24), .int (-1)]) (rest := []) hG hR dX12_power_70 (lkX12_128 _ rfl) okV_X12_newPower rfl rfl (m_newPower_n20 (d := 2) (by decide) hn hr hz (by omega) ek25 (by omega)) rfl rfl hdd (Nat.le_refl _) (Nat.le_refl _) (by decide) (pm_ki (fun v27 σ' cnt' hq => ?_))
              obtain ⟨⟨n_28, rfl, hn28, hr28⟩, rfl⟩ := hq
              exact pm_iret hG hF dX12_power_73 rfl (Nat.le_refl _) (Nat.le_refl _) ⟨_, rfl, ⟨_, _, _, rfl, hn28, hr28⟩, rfl⟩
            · refine pm_aloadn hG dX12_power_57 rfl ?_
              refine pm_iconst (v := nI 4) hG dX12_power_58 (by decide) ?_
              refine pm_callV (As := [.int (nI 4)]) (rest := []) hG hR dX12_power_59 (lkX12_80 _ rfl) okV_X12_finds rfl rfl (m_finds (d := 2) (by decide) hn hz (by omega)) rfl rfl hdd (Nat.le_refl _) (Nat.le_refl _) (by decide) (pm_ki (fun v29 σ' cnt' hq => ?_))
              obtain ⟨⟨I30, A30, rfl⟩, rfl, fv29⟩ := hq
              refine pm_goto (tgt := 73) hG dX12_power_62 rfl ?_
              exact pm_iret hG hF dX12_power_73 rfl (Nat.le_refl _) (Nat.le_refl _) ⟨_, rfl, ⟨_, _, _, rfl, hn, hr⟩, rfl⟩
          · refine pm_ifN_ne (tgt := 46) hG dX12_power_37 rfl (by omega) (fun q => absurd q (by omega)) (fun _ => ?_)
            refine pm_aloadn hG dX12_power_40 rfl ?_
            refine pm_iconst (v := nI 1) hG dX12_power_41 (by decide) ?_
            refine pm_callV (As := [.int (nI 1)]) (rest := []) hG hR dX12_power_42 (lkX12_80 _ rfl) okV_X12_finds rfl rfl (m_finds (d := 2) (by decide) hn hz (by omega)) rfl rfl hdd (Nat.le_refl _) (Nat.le_refl _) (by decide) (pm_ki (fun v31 σ' cnt' hq => ?_))
            obtain ⟨⟨I32, A32, rfl⟩, rfl, fv31⟩ := hq
            exact pm_iret hG hF dX12_power_45 rfl (Nat.le_refl _) (Nat.le_refl _) ⟨_, rfl, ⟨_, _, _, rfl, hn, hr⟩, rfl⟩
        · refine pm_callV (As := [.int (nI k19)]) (rest := []) hG hR dX12_power_24 (lkX12_101 _ rfl) okV_X12_lives rfl rfl (m_lives0 (d := 2) (by decide) (by omega) (by omega : 14 * k19 + 119 = 14 * k19 + 119) ek20 (by omega)) rfl rfl hdd (Nat.le_refl _) (Nat.le_refl _) (by decide) (pm_ki (fun v33 σ' cnt' hq => ?_))
          obtain ⟨rfl, rfl, rfl⟩ := hq
          refine pm_ifN_eq (tgt := 40) hG dX12_power_27 rfl (by omega) (fun _ => ?_) (fun q => absurd q (by omega))
          refine pm_aloadn hG dX12_power_40 rfl ?_
          refine pm_iconst (v := nI 1) hG dX12_power_41 (by decide) ?_
          refine pm_callV (As := [.int (nI 1)]) (rest := []) hG hR dX12_power_42 (lkX12_80 _ rfl) okV_X12_finds rfl rfl (m_finds (d := 2) (by decide) hn hz (by omega)) rfl rfl hdd (Nat.le_refl _) (Nat.le_refl _) (by decide) (pm_ki (fun v34 σ' cnt' hq => ?_))
          obtain ⟨⟨I35, A35, rfl⟩, rfl, fv34⟩ := hq
          exact pm_iret hG hF dX12_power_45 rfl (Nat.le_refl _) (Nat.le_refl _) ⟨_, rfl, ⟨_, _, _, rfl, hn, hr⟩, rfl⟩
      · refine pm_ifN_eq (tgt := 40) hG dX12_power_19 rfl (by omega) (fun _ => ?_) (fun q => absurd q (by omega))
        refine pm_aloadn hG dX12_power_40 rfl ?_
        refine pm_iconst (v := nI 1) hG dX12_power_41 (by decide) ?_
        refine pm_callV (As := [.int (nI 1)]) (rest := []) hG hR dX12_power_42 (lkX12_80 _ rfl) okV_X12_finds rfl rfl (m_finds (d := 2) (by decide) hn hz (by omega)) rfl rfl hdd (Nat.le_refl _) (Nat.le_refl _) (by decide) (pm_ki (fun v36 σ' cnt' hq => ?_))
        obtain ⟨⟨I37, A37, rfl⟩, rfl, fv36⟩ := hq
        exact pm_iret hG hF dX12_power_45 rfl (Nat.le_refl _) (Nat.le_refl _) ⟨_, rfl, ⟨_, _, _, rfl, hn, hr⟩, rfl⟩
  · refine pm_ifN_eq (tgt := 40) hG dX12_power_6 rfl (by omega) (fun _ => ?_) (fun q => absurd q (by omega))
    refine pm_aloadn hG dX12_power_40 rfl ?_
    refine pm_iconst (v := nI 1) hG dX12_power_41 (by decide) ?_
    refine pm_callV (As := [.int (nI 1)]) (rest := []) hG hR dX12_power_42 (lkX12_80 _ rfl) okV_X12_finds rfl rfl (m_finds (d := 2) (by decide) hn hz (by omega)) rfl rfl hdd (Nat.le_refl _) (Nat.le_refl _) (by decide) (pm_ki (fun v38 σ' cnt' hq => ?_))
    obtain ⟨⟨I39, A39, rfl⟩, rfl, fv38⟩ := hq
    exact pm_iret hG hF dX12_power_45 rfl (Nat.le_refl _) (Nat.le_refl _) ⟨_, rfl, ⟨_, _, _, rfl, hn, hr⟩, rfl⟩
