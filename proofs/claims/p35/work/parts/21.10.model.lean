set_option maxRecDepth 100000 in
set_option maxHeartbeats 4000000 in
theorem m_go {d B cnt p0 t0 : Nat} {σ : pm_S} {I : Nat → Int32} {A : Nat → Nat → Int32} {n k z : Nat → Int32} {ac wt pl im : Int32} {za zb : Int32} (hdd : 5 ≤ d) (hn : KI n) (hr : NR n) (hz : SZ z)  : pm_met mX12_go d 0 0 B [.ref (B + 54), .int za, .int zb] cnt (pm_mid σ (md_L B I A n k z ac wt pl (nI p0) (nI t0) im)) (pm_Qi (fun v σ' cnt' => (∃ (I' : Nat → Int32) (A' : Nat → Nat → Int32) (n' : Nat → Int32), σ' = pm_mid σ (md_L B I' A' n' k z ac wt pl (nI p0) (nI t0) im) ∧ KI n' ∧ NR n' ∧ n' 0 = n 0 ∧ n' 2 = n 2 ∧ n' 7 = n 7 ∧ n' 8 = n 8 ∧ KS n' n) ∧ cnt = cnt')) := by
  obtain ⟨kc0, hkc0, ekc0⟩ := KI.nat hn (show kd 0 = (1, 11, true) by decide)
  obtain ⟨kc2, hkc2, ekc2⟩ := KI.nat hn (show kd 2 = (1, 21, true) by decide)
  obtain ⟨kc7, hkc7, ekc7⟩ := KI.nat hn (show kd 7 = (1, 31, false) by decide)
  obtain ⟨kc8, hkc8, ekc8⟩ := KI.nat hn (show kd 8 = (1, 2001, false) by decide)
  refine pm_enter 1 (by decide) (Nat.le_of_ble_eq_true rfl) rfl (fun G hG hR hF => ?_)
  refine pm_aloadn hG dX12_go_0 rfl ?_
  refine pm_iloadn hG dX12_go_1 rfl ?_
  refine pm_callV (As := [.int za]) (rest := []) hG hR dX12_go_2 (lkX12_91 _ rfl) okV_X12_isPerson rfl rfl (m_isPerson (d := 4) (by decide) ekc2 (by omega)) rfl rfl hdd (Nat.le_refl _) (Nat.le_refl _) (by decide) (pm_ki (fun v1 σ' cnt' hq => ?_))
  obtain ⟨hq, rfl, rfl⟩ := hq
  rcases hq with ⟨rfl, k3, hk3, ek3⟩ | ⟨rfl, ntk3⟩
  · refine pm_ifN_eq (tgt := 16) hG dX12_go_5 rfl (by omega) (fun q => absurd q (by omega)) (fun _ => ?_)
    refine pm_aloadn hG dX12_go_8 rfl ?_
    refine pm_iloadn hG dX12_go_9 rfl ?_
    refine pm_callV (As := [.int zb]) (rest := []) hG hR dX12_go_10 (lkX12_84 _ rfl) okV_X12_isTown rfl rfl (m_isTown (d := 4) (by decide) ekc0 (by omega)) rfl rfl hdd (Nat.le_refl _) (Nat.le_refl _) (by decide) (pm_ki (fun v4 σ' cnt' hq => ?_))
    obtain ⟨hq, rfl, rfl⟩ := hq
    rcases hq with ⟨rfl, k6, hk6, ek6⟩ | ⟨rfl, ntk6⟩
    · refine pm_ifN_ne (tgt := 22) hG dX12_go_13 rfl (by omega) (fun _ => ?_) (fun q => absurd q (by omega))
      refine pm_aloadn hG dX12_go_22 rfl ?_
      refine pm_iloadn hG dX12_go_23 rfl ?_
      refine pm_top (v := nI k3) ek3 ?_
      rcases KI.opt hn (show kd (14 * k3 + 119) = (2, 2001, false) from (kd_P (k := k3) (c := 9) (by omega) (by omega) (by decide))) with ek7 | ⟨k7, hk7, ek7⟩
      · refine pm_callV (As := [.int (nI k3)]) (rest := []) hG hR dX12_go_24 (lkX12_101 _ rfl) okV_X12_lives rfl rfl (m_lives1 (d := 4) (by decide) (by omega) (by omega : 14 * k3 + 119 = 14 * k3 + 119) ek7) rfl rfl hdd (Nat.le_refl _) (Nat.le_refl _) (by decide) (pm_ki (fun v8 σ' cnt' hq => ?_))
        obtain ⟨rfl, rfl, rfl⟩ := hq
        refine pm_ifN_eq (tgt := 39) hG dX12_go_27 rfl (by omega) (fun q => absurd q (by omega)) (fun _ => ?_)
        refine pm_aloadn hG dX12_go_30 rfl ?_
        refine pm_iloadn hG dX12_go_31 rfl ?_
        refine pm_top (v := nI k3) ek3 ?_
        refine pm_iconst (v := nI 4) hG dX12_go_32 (by decide) ?_
        refine pm_callV (As := [.int (nI k3), .int (nI 4)]) (rest := []) hG hR dX12_go_33 (lkX12_72 _ rfl) okV_X12_man rfl rfl (m_man (d := 4) (e := 14 * k3 + 114) (by omega) (by omega) (by omega)) rfl rfl hdd (Nat.le_refl _) (Nat.le_refl _) (by decide) (pm_ki (fun v9 σ' cnt' hq => ?_))
        obtain ⟨rfl, rfl, rfl⟩ := hq
        rcases KI.opt hn (show kd (14 * k3 + 114) = (2, 10, false) from (kd_P (k := k3) (c := 4) (by omega) (by omega) (by decide))) with ek10 | ⟨k10, hk10, ek10⟩
        · refine pm_top (v := (-1)) ek10 ?_
          refine pm_if_ge (tgt := 45) hG dX12_go_36 rfl (fun q => absurd q (by decide)) (fun _ => ?_)
          refine pm_aloadn hG dX12_go_39 rfl ?_
          refine pm_iconst (v := nI 3) hG dX12_go_40 (by decide) ?_
          refine pm_callV (As := [.int (nI 3)]) (rest := []) hG hR dX12_go_41 (lkX12_80 _ rfl) okV_X12_finds rfl rfl (m_finds (d := 4) (by decide) hn hz (by omega)) rfl rfl hdd (Nat.le_refl _) (Nat.le_refl _) (by decide) (pm_ki (fun v11 σ' cnt' hq => ?_))
          obtain ⟨⟨I12, A12, rfl⟩, rfl, fv11⟩ := hq
          exact pm_iret hG hF dX12_go_44 rfl (Nat.le_refl _) (Nat.le_refl _) ⟨_, rfl, ⟨_, _, _, rfl, hn, hr, ekc0.trans ekc0.symm, ekc2.trans ekc2.symm, ekc7.trans ekc7.symm, ekc8.trans ekc8.symm, KS.rf⟩, rfl⟩
        · refine pm_top (v := nI k10) ek10 ?_
          refine pm_ifN_ge (tgt := 45) hG dX12_go_36 rfl (by omega) ?_
          refine pm_aloadn hG dX12_go_45 rfl ?_
          refine pm_iloadn hG dX12_go_46 rfl ?_
          refine pm_top (v := nI k3) ek3 ?_
          refine pm_iloadn hG dX12_go_47 rfl ?_
          refine pm_top (v := nI k6) ek6 ?_
          refine pm_callV (As := [.int (nI k3), .int (nI k6)]) (rest := []) hG hR dX12_go_48 (lkX12_119 _ rfl) okV_X12_goes rfl rfl (m_goes (d := 4) (by decide) hn hr hz (by omega) (by omega)) rfl rfl hdd (Nat.le_refl _) (Nat.le_refl _) (by decide) (pm_ki (fun v13 σ' cnt' hq => ?_))
          obtain ⟨⟨I14, A14, n_14, rfl, hn14, hr14, hc14_0, hc14_2, hc14_7, hc14_8, hks14⟩, rfl⟩ := hq
          have e15 : n_14 0 = nI kc0 := hc14_0.trans ekc0
          have e16 : n_14 2 = nI kc2 := hc14_2.trans ekc2
          have e17 : n_14 7 = nI kc7 := hc14_7.trans ekc7
          have e18 : n_14 8 = nI kc8 := hc14_8.trans ekc8
          refine pm_istoreXn (loc' := [some (.ref (B + 54)), some (.int za), some (.int zb), some (.int v13)]) hG dX12_go_51 (by decide) (pm_c1b rfl) rfl ?_
          refine pm_iloadn hG dX12_go_52 rfl ?_
          refine pm_if_ge (tgt := 64) hG dX12_go_53 rfl (fun c19 => ?_) (fun c19 => ?_)
          · obtain ⟨k20, hk20, ek20⟩ := nI_of (Int32.not_lt.mpr c19)
            refine pm_iloadn hG dX12_go_64 rfl ?_
            refine pm_top (v := nI k20) ek20 ?_
            exact pm_iret hG hF dX12_go_65 rfl (Nat.le_refl _) (Nat.le_refl _) ⟨_, rfl, ⟨_, _, _, rfl, hn14, hr14, e15.trans ekc0.symm, e16.trans ekc2.symm, e17.trans ekc7.symm, e18.trans ekc8.symm, (hks14.tr KS.rf)⟩, rfl⟩
          · refine pm_aloadn hG dX12_go_56 rfl ?_
            refine pm_iconst (v := nI 2) hG dX12_go_57 (by decide) ?_
            refine pm_callV (As := [.int (nI 2)]) (rest := []) hG hR dX12_go_58 (lkX12_80 _ rfl) okV_X12_finds rfl rfl (m_finds (d := 4) (by decide) hn14 hz (by omega)) rfl rfl hdd (Nat.le_refl _) (Nat.le_refl _) (by decide) (pm_ki (fun v21 σ' cnt' hq => ?_))
            obtain ⟨⟨I22, A22, rfl⟩, rfl, fv21⟩ := hq
            refine pm_goto (tgt := 65) hG dX12_go_61 rfl ?_
            exact pm_iret hG hF dX12_go_65 rfl (Nat.le_refl _) (Nat.le_refl _) ⟨_, rfl, ⟨_, _, _, rfl, hn14, hr14, e15.trans ekc0.symm, e16.trans ekc2.symm, e17.trans ekc7.symm, e18.trans ekc8.symm, (hks14.tr KS.rf)⟩, rfl⟩
      · refine pm_callV (As := [.int (nI k3)]) (rest := []) hG hR dX12_go_24 (lkX12_101 _ rfl) okV_X12_lives rfl rfl (m_lives0 (d := 4) (by decide) (by omega) (by omega : 14 * k3 + 119 = 14 * k3 + 119) ek7 (by omega)) rfl rfl hdd (Nat.le_refl _) (Nat.le_refl _) (by decide) (pm_ki (fun v23 σ' cnt' hq => ?_))
        obtain ⟨rfl, rfl, rfl⟩ := hq
        refine pm_ifN_eq (tgt := 39) hG dX12_go_27 rfl (by omega) (fun _ => ?_) (fun q => absurd q (by omega))
        refine pm_aloadn hG dX12_go_39 rfl ?_
        refine pm_iconst (v := nI 3) hG dX12_go_40 (by decide) ?_
        refine pm_callV (As := [.int (nI 3)]) (rest := []) hG hR dX12_go_41 (lkX12_80 _ rfl) okV_X12_finds rfl rfl (m_finds (d := 4) (by decide) hn hz (by omega)) rfl rfl hdd (Nat.le_refl _) (Nat.le_refl _) (by decide) (pm_ki (fun v24 σ' cnt' hq => ?_))
        obtain ⟨⟨I25, A25, rfl⟩, rfl, fv24⟩ := hq
        exact pm_iret hG hF dX12_go_44 rfl (Nat.le_refl _) (Nat.le_refl _) ⟨_, rfl, ⟨_, _, _, rfl, hn, hr, ekc0.trans ekc0.symm, ekc2.trans ekc2.symm, ekc7.trans ekc7.symm, ekc8.trans ekc8.symm, KS.rf⟩, rfl⟩
    · refine pm_ifN_ne (tgt := 22) hG dX12_go_13 rfl (by omega) (fun q => absurd q (by omega)) (fun _ => ?_)
      refine pm_aloadn hG dX12_go_16 rfl ?_
      refine pm_iconst (v := nI 1) hG dX12_go_17 (by decide) ?_
      refine pm_callV (As := [.int (nI 1)]) (rest := []) hG hR dX12_go_18 (lkX12_80 _ rfl) okV_X12_finds rfl rfl (m_finds (d := 4) (by decide) hn hz (by omega)) rfl rfl hdd (Nat.le_refl _) (Nat.le_refl _) (by decide) (pm_ki (fun v26 σ' cnt' hq => ?_))
      obtain ⟨⟨I27, A27, rfl⟩, rfl, fv26⟩ := hq
      exact pm_iret hG hF dX12_go_21 rfl (Nat.le_refl _) (Nat.le_refl _) ⟨_, rfl, ⟨_, _, _, rfl, hn, hr, ekc0.trans ekc0.symm, ekc2.trans ekc2.symm, ekc7.trans ekc7.symm, ekc8.trans ekc8.symm, KS.rf⟩, rfl⟩
  · refine pm_ifN_eq (tgt := 16) hG dX12_go_5 rfl (by omega) (fun _ => ?_) (fun q => absurd q (by omega))
    refine pm_aloadn hG dX12_go_16 rfl ?_
    refine pm_iconst (v := nI 1) hG dX12_go_17 (by decide) ?_
    refine pm_callV (As := [.int (nI 1)]) (rest := []) hG hR dX12_go_18 (lkX12_80 _ rfl) okV_X12_finds rfl rfl (m_finds (d := 4) (by decide) hn hz (by omega)) rfl rfl hdd (Nat.le_refl _) (Nat.le_refl _) (by decide) (pm_ki (fun v28 σ' cnt' hq => ?_))
    obtain ⟨⟨I29, A29, rfl⟩, rfl, fv28⟩ := hq
    exact pm_iret hG hF dX12_go_21 rfl (Nat.le_refl _) (Nat.le_refl _) ⟨_, rfl, ⟨_, _, _, rfl, hn, hr, ekc0.trans ekc0.symm, ekc2.trans ekc2.symm, ekc7.trans ekc7.symm, ekc8.trans ekc8.symm, KS.rf⟩, rfl⟩

set_option maxRecDepth 100000 in
set_option maxHeartbeats 4000000 in
theorem m_guard {d B cnt p0 t0 : Nat} {σ : pm_S} {I : Nat → Int32} {A : Nat → Nat → Int32} {n k z : Nat → Int32} {ac wt pl im : Int32} {za zb : Int32} (hdd : 2 ≤ d) (hn : KI n) (hr : NR n) (hz : SZ z)  : pm_met mX12_guard d 0 0 B [.ref (B + 54), .int za, .int zb] cnt (pm_mid σ (md_L B I A n k z ac wt pl (nI p0) (nI t0) im)) (pm_Qi (fun v σ' cnt' => (∃ (I' : Nat → Int32) (A' : Nat → Nat → Int32) (n' : Nat → Int32), σ' = pm_mid σ (md_L B I' A' n' k z ac wt pl (nI p0) (nI t0) im) ∧ KI n' ∧ NR n' ∧ n' 0 = n 0 ∧ n' 2 = n 2 ∧ n' 7 = n 7 ∧ n' 8 = n 8 ∧ KS n' n) ∧ cnt = cnt')) := by
  obtain ⟨kc0, hkc0, ekc0⟩ := KI.nat hn (show kd 0 = (1, 11, true) by decide)
  obtain ⟨kc2, hkc2, ekc2⟩ := KI.nat hn (show kd 2 = (1, 21, true) by decide)
  obtain ⟨kc7, hkc7, ekc7⟩ := KI.nat hn (show kd 7 = (1, 31, false) by decide)
  obtain ⟨kc8, hkc8, ekc8⟩ := KI.nat hn (show kd 8 = (1, 2001, false) by decide)
  refine pm_enter 1 (by decide) (Nat.le_of_ble_eq_true rfl) rfl (fun G hG hR hF => ?_)
  refine pm_iloadn hG dX12_guard_0 rfl ?_
  refine pm_iconst (v := nI 0) hG dX12_guard_1 (by decide) ?_
  refine pm_iconst (v := nI 4) hG dX12_guard_2 (by decide) ?_
  refine pm_callS (As := [.int za, .int (nI 0), .int (nI 4)]) (rest := []) hG hR dX12_guard_3 (lkX12_68 _ rfl) okS_X12_in (m_in (d := 1)) rfl rfl hdd (Nat.le_refl _) (Nat.le_refl _) (by decide) (pm_ki (fun v1 σ' cnt' hq => ?_))
  obtain ⟨hq, rfl, rfl⟩ := hq
  rcases hq with ⟨rfl, ac2, bc2⟩ | ⟨rfl, c2⟩
  · obtain ⟨k3, hk3, ek3⟩ := in_nat (by omega) (by omega) ac2 bc2
    refine pm_ifN_eq (tgt := 19) hG dX12_guard_6 rfl (by omega) (fun q => absurd q (by omega)) (fun _ => ?_)
    refine pm_iloadn hG dX12_guard_9 rfl ?_
    refine pm_iconst (v := nI 0) hG dX12_guard_10 (by decide) ?_
    refine pm_bipush (v := nI 6) hG dX12_guard_11 (by decide) ?_
    refine pm_callS (As := [.int zb, .int (nI 0), .int (nI 6)]) (rest := []) hG hR dX12_guard_13 (lkX12_68 _ rfl) okS_X12_in (m_in (d := 1)) rfl rfl hdd (Nat.le_refl _) (Nat.le_refl _) (by decide) (pm_ki (fun v4 σ' cnt' hq => ?_))
    obtain ⟨hq, rfl, rfl⟩ := hq
    rcases hq with ⟨rfl, ac5, bc5⟩ | ⟨rfl, c5⟩
    · obtain ⟨k6, hk6, ek6⟩ := in_nat (by omega) (by omega) ac5 bc5
      refine pm_ifN_ne (tgt := 25) hG dX12_guard_16 rfl (by omega) (fun _ => ?_) (fun q => absurd q (by omega))
      refine pm_aloadn hG dX12_guard_25 rfl ?_
      refine pm_getf hG dX12_guard_26 (flX12_7 _ rfl) rfl rfl ?_
      refine pm_sipush (v := nI 1986) hG dX12_guard_29 (by decide) ?_
      refine pm_iloadn hG dX12_guard_32 rfl ?_
      refine pm_top (v := nI k3) ek3 ?_
      refine pm_iaddN (c := k3 + 1986) hG dX12_guard_33 (by omega) ?_
      refine pm_ialdN hG dX12_guard_34 rfl (by decide) (by omega) ?_
      refine pm_gen (fun x7 ex7 => ?_)
      refine pm_istoreXn (loc' := [some (.ref (B + 54)), some (.int za), some (.int zb), some (.int x7)]) hG dX12_guard_35 (by decide) (pm_c1b rfl) rfl ?_
      refine pm_aloadn hG dX12_guard_36 rfl ?_
      refine pm_getf hG dX12_guard_37 (flX12_7 _ rfl) rfl rfl ?_
      refine pm_sipush (v := nI 1986) hG dX12_guard_40 (by decide) ?_
      refine pm_iloadn hG dX12_guard_43 rfl ?_
      refine pm_top (v := nI k3) ek3 ?_
      refine pm_iaddN (c := k3 + 1986) hG dX12_guard_44 (by omega) ?_
      refine pm_iloadn hG dX12_guard_45 rfl ?_
      refine pm_top (v := nI k6) ek6 ?_
      refine pm_iastN hG dX12_guard_46 rfl (by decide) (by omega) ?_
      refine mdn_now (fun n_8 en_8 => ?_)
      have hnn_8 := KI.w en_8 hn (okv_f (show kd (k3 + 1986) = (0, 0, false) from (kd_O (by omega))))
      have hrn_8 := NRx.w en_8 hr (by rw [(show kd (k3 + 1986) = (0, 0, false) from (kd_O (by omega)))])
      have ksn_8 := KS.w en_8 KS.rf (by unfold tS; omega)
      have e9 : n_8 0 = nI kc0 := by rw [en_8, pk_un (by omega)]; exact ekc0
      have e10 : n_8 2 = nI kc2 := by rw [en_8, pk_un (by omega)]; exact ekc2
      have e11 : n_8 7 = nI kc7 := by rw [en_8, pk_un (by omega)]; exact ekc7
      have e12 : n_8 8 = nI kc8 := by rw [en_8, pk_un (by omega)]; exact ekc8
      have e13 : n_8 (k3 + 1986) = nI k6 := by rw [en_8, pk_us]
      refine pm_iloadn hG dX12_guard_47 rfl ?_
      exact pm_iret hG hF dX12_guard_48 rfl (Nat.le_refl _) (Nat.le_refl _) ⟨_, rfl, ⟨_, _, _, rfl, hnn_8, hrn_8, e9.trans ekc0.symm, e10.trans ekc2.symm, e11.trans ekc7.symm, e12.trans ekc8.symm, ksn_8⟩, rfl⟩
    · refine pm_ifN_ne (tgt := 25) hG dX12_guard_16 rfl (by omega) (fun q => absurd q (by omega)) (fun _ => ?_)
      refine pm_aloadn hG dX12_guard_19 rfl ?_
      refine pm_iconst (v := nI 1) hG dX12_guard_20 (by decide) ?_
      refine pm_callV (As := [.int (nI 1)]) (rest := []) hG hR dX12_guard_21 (lkX12_80 _ rfl) okV_X12_finds rfl rfl (m_finds (d := 1) (by decide) hn hz (by omega)) rfl rfl hdd (Nat.le_refl _) (Nat.le_refl _) (by decide) (pm_ki (fun v14 σ' cnt' hq => ?_))
      obtain ⟨⟨I15, A15, rfl⟩, rfl, fv14⟩ := hq
      exact pm_iret hG hF dX12_guard_24 rfl (Nat.le_refl _) (Nat.le_refl _) ⟨_, rfl, ⟨_, _, _, rfl, hn, hr, ekc0.trans ekc0.symm, ekc2.trans ekc2.symm, ekc7.trans ekc7.symm, ekc8.trans ekc8.symm, KS.rf⟩, rfl⟩
  · refine pm_ifN_eq (tgt := 19) hG dX12_guard_6 rfl (by omega) (fun _ => ?_) (fun q => absurd q (by omega))
    refine pm_aloadn hG dX12_guard_19 rfl ?_
    refine pm_iconst (v := nI 1) hG dX12_guard_20 (by decide) ?_
    refine pm_callV (As := [.int (nI 1)]) (rest := []) hG hR dX12_guard_21 (lkX12_80 _ rfl) okV_X12_finds rfl rfl (m_finds (d := 1) (by decide) hn hz (by omega)) rfl rfl hdd (Nat.le_refl _) (Nat.le_refl _) (by decide) (pm_ki (fun v16 σ' cnt' hq => ?_))
    obtain ⟨⟨I17, A17, rfl⟩, rfl, fv16⟩ := hq
    exact pm_iret hG hF dX12_guard_24 rfl (Nat.le_refl _) (Nat.le_refl _) ⟨_, rfl, ⟨_, _, _, rfl, hn, hr, ekc0.trans ekc0.symm, ekc2.trans ekc2.symm, ekc7.trans ekc7.symm, ekc8.trans ekc8.symm, KS.rf⟩, rfl⟩

set_option maxRecDepth 100000 in
set_option maxHeartbeats 4000000 in
theorem m_heir {d B cnt p0 t0 : Nat} {σ : pm_S} {I : Nat → Int32} {A : Nat → Nat → Int32} {n k z : Nat → Int32} {ac wt pl im : Int32} {za : Int32} (hdd : 4 ≤ d) (hn : KI n) (hr : NR n) (hz : SZ z) (h74 : 74 ≤ cnt) : pm_met mX12_heir d 2 40 B [.ref (B + 54), .int za] cnt (pm_mid σ (md_L B I A n k z ac wt pl (nI p0) (nI t0) im)) (pm_Qi (fun v σ' cnt' => (∃ (τ : pm_S) (I' : Nat → Int32) (A' : Nat → Nat → Int32), σ' = pm_mid τ (md_L B I' A' n k z ac wt pl (nI p0) (nI t0) im) ∧ ∀ j : Nat, j < cnt → τ j = σ j) ∧ cnt ≤ cnt')) := by
  refine pm_enter 7 (by decide) (Nat.le_of_ble_eq_true rfl) rfl (fun G hG hR hF => ?_)
  refine pm_iloadn hG dX12_heir_0 rfl ?_
  refine pm_if_ge (tgt := 10) hG dX12_heir_1 rfl (fun c1 => ?_) (fun c1 => ?_)
  · obtain ⟨k2, hk2, ek2⟩ := nI_of (Int32.not_lt.mpr c1)
    refine pm_aloadn hG dX12_heir_10 rfl ?_
    refine pm_iconst (v := nI 2) hG dX12_heir_11 (by decide) ?_
    refine pm_aloadn hG dX12_heir_12 rfl ?_
    refine pm_getf hG dX12_heir_13 (flX12_7 _ rfl) rfl rfl ?_
    refine pm_bipush (v := nI 8) hG dX12_heir_16 (by decide) ?_
    refine pm_ialdN hG dX12_heir_18 rfl (by decide) (by omega) ?_
    obtain ⟨k3, hk3, ek3⟩ := KI.nat hn (show kd 8 = (1, 2001, false) by decide)
    refine pm_top (v := nI k3) ek3 ?_
    refine pm_aloadn hG dX12_heir_19 rfl ?_
    refine pm_getf hG dX12_heir_20 (flX12_7 _ rfl) rfl rfl ?_
    refine pm_bipush (v := nI 8) hG dX12_heir_23 (by decide) ?_
    refine pm_ialdN hG dX12_heir_25 rfl (by decide) (by omega) ?_
    refine pm_top (v := nI k3) ek3 ?_
    refine pm_callV (As := [.int (nI 2), .int (nI k3), .int (nI k3)]) (rest := []) hG hR dX12_heir_26 (lkX12_195 _ rfl) okV_X12_inForce rfl rfl (m_inForce (d := 3) (by decide) hn hz) rfl rfl hdd (by decide) (by decide) (by decide) (pm_ki (fun v4 σ' cnt' hq => ?_))
    obtain ⟨rfl, rfl, rv4⟩ := hq
    rcases rv4 with rfl | ⟨k6, hk6, rfl⟩
    · refine pm_istoreXn (loc' := [some (.ref (B + 54)), some (.int za), some (.int (-1)), none, none, none, none, none, none]) hG dX12_heir_29 (by decide) (pm_c1b rfl) rfl ?_
      refine pm_bipush (v := nI 20) hG dX12_heir_30 (by decide) ?_
      refine pm_newi (N := 20) hG hR dX12_heir_32 (by decide) (by decide) (by decide) (by decide) (by decide) ?_
      refine pm_nrw (by omega) ?_
      refine pm_genB (fun t7 et7 => ?_)
      obtain ⟨wt7, ewt7⟩ : ∃ f : Nat → Int32, f = fun _ => 0 := ⟨_, rfl⟩
      rw [← ewt7] at et7
      have hwt7 : t7 cnt = some (.inl (20, wt7)) := by rw [et7]; exact pm_up_same _ _ _
      have vwt7 : WH wt7 := fun j => ⟨0, by decide, by rw [ewt7]; rfl⟩
      have ot7 : ∀ j : Nat, j < cnt → t7 j = σ j := fun j hj => by rw [et7, pm_up_ne _ _ (by omega)]
      refine pm_nums (cs' := 1) (zs' := 20) (cnt' := (cnt + 1)) rfl rfl rfl ?_
      refine pm_astoreXn (loc' := [some (.ref (B + 54)), some (.int za), some (.int (-1)), some (.ref (B + cnt)), none, none, none, none, none]) hG dX12_heir_34 (by decide) (pm_c1b rfl) rfl ?_
      refine pm_bipush (v := nI 20) hG dX12_heir_35 (by decide) ?_
      refine pm_newi (N := 20) hG hR dX12_heir_37 (by decide) (by decide) (by decide) (by decide) (by decide) ?_
      refine pm_nrw (by omega) ?_
      refine pm_genB (fun t8 et8 => ?_)
      obtain ⟨wt8, ewt8⟩ : ∃ f : Nat → Int32, f = fun _ => 0 := ⟨_, rfl⟩
      rw [← ewt8] at et8
      have hwt8 : t8 (cnt + 1) = some (.inl (20, wt8)) := by rw [et8]; exact pm_up_same _ _ _
      have vwt8 : WH wt8 := fun j => ⟨0, by decide, by rw [ewt8]; rfl⟩
      have hwt7_t8 : t8 cnt = some (.inl (20, wt7)) := by rw [et8, pm_up_ne _ _ (by omega)]; exact hwt7
      have ot8 : ∀ j : Nat, j < cnt → t8 j = σ j := fun j hj => by rw [et8, pm_up_ne _ _ (by omega)]; exact ot7 j hj
      refine pm_nums (cs' := 2) (zs' := 40) (cnt' := (cnt + 2)) rfl rfl rfl ?_
      refine pm_astoreXi (loc' := [some (.ref (B + 54)), some (.int za), some (.int (-1)), some (.ref (B + cnt)), some (.ref (B + (cnt + 1))), none, none, none, none]) hG dX12_heir_39 (by decide) (pm_c1b rfl) rfl ?_
      refine pm_iconst (v := nI 0) hG dX12_heir_41 (by decide) ?_
      refine pm_istoreXi (loc' := [some (.ref (B + 54)), some (.int za), some (.int (-1)), some (.ref (B + cnt)), some (.ref (B + (cnt + 1))), some (.int (nI 0)), none, none, none]) hG dX12_heir_42 (by decide) (pm_c1b rfl) rfl ?_
      refine pm_iconst (v := nI 1) hG dX12_heir_44 (by decide) ?_
      refine pm_istoreXi (loc' := [some (.ref (B + 54)), some (.int za), some (.int (-1)), some (.ref (B + cnt)), some (.ref (B + (cnt + 1))), some (.int (nI 0)), some (.int (nI 1)), none, none]) hG dX12_heir_45 (by decide) (pm_c1b rfl) rfl ?_
      have loop47_9 : ∀ (m9 : Nat) (I9 : Nat → Int32) (A9 : Nat → Nat → Int32) (j9_5 : Nat) (i9 : Nat) (t9L : pm_S) (w9_0 : Nat → Int32) (w9_1 : Nat → Int32), j9_5 ≤ 20 → i9 ≤ 20 → 1 ≤ i9 → t9L cnt = some (.inl (20, w9_0)) → WH w9_0 → t9L (cnt + 1) = some (.inl (20, w9_1)) → (∀ j : Nat, j < cnt → t9L j = σ j) → j9_5 + 1 ≤ i9 → 20 - i9 < m9 → pm_wp mX12_heir G B 47 [some (.ref (B + 54)), some (.int za), some (.int (-1)), some (.ref (B + cnt)), some (.ref (B + (cnt + 1))), some (.int (nI j9_5)), some (.int (nI i9)), none, none] [] 2 40 (cnt + 2) (pm_mid t9L (md_L B I9 A9 n k z ac wt pl (nI p0) (nI t0) im)) := by
        intro m9
        induction m9 with
        | zero => intro I9 A9 j9_5 i9 t9L w9_0 w9_1 _ _ _ _ _ _ _ _ hm; exact absurd hm (Nat.not_lt_zero _)
        | succ m9 ih9 =>
          intro I9 A9 j9_5 i9 t9L w9_0 w9_1 hj9_5 hi9 hl9 hw9_0 vw9_0 hw9_1 ot9L hv9 hm9
          refine pm_iloadi hG dX12_heir_47 rfl ?_
          refine pm_aloadn hG dX12_heir_49 rfl ?_
          refine pm_getf hG dX12_heir_50 (flX12_7 _ rfl) rfl rfl ?_
          refine pm_iconst (v := nI 2) hG dX12_heir_53 (by decide) ?_
          refine pm_ialdN hG dX12_heir_54 rfl (by decide) (by omega) ?_
          obtain ⟨k10, hk10, ek10⟩ := KI.nat hn (show kd 2 = (1, 21, true) by decide)
          refine pm_top (v := nI k10) ek10 ?_
          refine pm_icmpN_ge (tgt := 207) hG dX12_heir_55 rfl (by omega) (by omega) (fun c11 => ?_) (fun c11 => ?_)
          · refine pm_iloadn hG dX12_heir_207 rfl ?_
            refine pm_top (v := nI k2) ek2 ?_
            refine pm_iloadi hG dX12_heir_208 rfl ?_
            refine pm_icmpN_ge (tgt := 219) hG dX12_heir_210 rfl (by omega) (by omega) (fun c12 => ?_) (fun c12 => ?_)
            · refine pm_aloadn hG dX12_heir_219 rfl ?_
              refine pm_iconst (v := nI 2) hG dX12_heir_220 (by decide) ?_
              refine pm_callV (As := [.int (nI 2)]) (rest := []) hG hR dX12_heir_221 (lkX12_80 _ rfl) okV_X12_finds rfl rfl (m_finds (d := 3) (by decide) hn hz (by omega)) rfl rfl hdd (by decide) (by decide) (by decide) (pm_ki (fun v13 σ' cnt' hq => ?_))
              obtain ⟨⟨I14, A14, rfl⟩, rfl, fv13⟩ := hq
              exact pm_iret hG hF dX12_heir_224 rfl (by decide) (by decide) ⟨_, rfl, ⟨_, _, _, rfl, ot9L⟩, by omega⟩
            · refine pm_aloadn hG dX12_heir_213 rfl ?_
              refine pm_iloadn hG dX12_heir_214 rfl ?_
              refine pm_top (v := nI k2) ek2 ?_
              refine pm_ialdN hG dX12_heir_215 (pm_mid_hi (by omega) hw9_0) (by decide) (by omega) ?_
              obtain ⟨k15, hk15, ek15⟩ := vw9_0 k2
              refine pm_top (v := nI k15) ek15 ?_
              refine pm_goto (tgt := 224) hG dX12_heir_216 rfl ?_
              exact pm_iret hG hF dX12_heir_224 rfl (by decide) (by decide) ⟨_, rfl, ⟨_, _, _, rfl, ot9L⟩, by omega⟩
          · refine pm_aloadn hG dX12_heir_58 rfl ?_
            refine pm_iloadi hG dX12_heir_59 rfl ?_
            refine pm_callV (As := [.int (nI i9)]) (rest := []) hG hR dX12_heir_61 (lkX12_125 _ rfl) okV_X12_stepsOf rfl rfl (m_stepsOf (d := 3) (by decide) hn hz (by omega)) rfl rfl hdd (by decide) (by decide) (by decide) (pm_ki (fun v16 σ' cnt' hq => ?_))
            obtain ⟨⟨I17, A17, rfl⟩, rfl⟩ := hq
            refine pm_istoreXi (loc' := [some (.ref (B + 54)), some (.int za), some (.int (-1)), some (.ref (B + cnt)), some (.ref (B + (cnt + 1))), some (.int (nI j9_5)), some (.int (nI i9)), some (.int v16), none]) hG dX12_heir_64 (by decide) (pm_c1b rfl) rfl ?_
            refine pm_aloadn hG dX12_heir_66 rfl ?_
            refine pm_iloadi hG dX12_heir_67 rfl ?_
            rcases KI.opt hn (show kd (14 * i9 + 119) = (2, 2001, false) from (kd_P (k := i9) (c := 9) (by omega) (by omega) (by decide))) with ek18 | ⟨k18, hk18, ek18⟩
            · refine pm_callV (As := [.int (nI i9)]) (rest := []) hG hR dX12_heir_69 (lkX12_101 _ rfl) okV_X12_lives rfl rfl (m_lives1 (d := 3) (by decide) (by omega) (by omega : 14 * i9 + 119 = 14 * i9 + 119) ek18) rfl rfl hdd (by decide) (by decide) (by decide) (pm_ki (fun v19 σ' cnt' hq => ?_))
              obtain ⟨rfl, rfl, rfl⟩ := hq
              refine pm_ifN_eq (tgt := 201) hG dX12_heir_72 rfl (by omega) (fun q => absurd q (by omega)) (fun _ => ?_)
              refine pm_iloadi hG dX12_heir_75 rfl ?_
              refine pm_bipush (v := nI 99) hG dX12_heir_77 (by decide) ?_
              refine pm_icmp_eq (tgt := 201) hG dX12_heir_79 rfl (fun c20 => ?_) (fun c20 => ?_)
              · refine pm_iincX (v := nI (i9 + 1)) (loc' := [some (.ref (B + 54)), some (.int za), some (.int (-1)), some (.ref (B + cnt)), some (.ref (B + (cnt + 1))), some (.int (nI j9_5)), some (.int (nI (i9 + 1))), some (.int v16), none]) hG dX12_heir_201 rfl (nI_1 _) (by decide) (pm_c1b rfl) rfl ?_
                refine pm_goto (tgt := 47) hG dX12_heir_204 rfl ?_
                refine pm_fg 7 (loc' := [some (.ref (B + 54)), some (.int za), some (.int (-1)), some (.ref (B + cnt)), some (.ref (B + (cnt + 1))), some (.int (nI j9_5)), some (.int (nI (i9 + 1))), none, none]) rfl ?_
                exact ih9 I17 A17 j9_5 (i9 + 1) t9L w9_0 w9_1 (by omega) (by omega) (by omega) hw9_0 vw9_0 hw9_1 ot9L (by omega) (by omega)
              · refine pm_aloadn hG dX12_heir_82 rfl ?_
                refine pm_iloadn hG dX12_heir_83 rfl ?_
                refine pm_iloadi hG dX12_heir_84 rfl ?_
                refine pm_iconst (v := (-1)) hG dX12_heir_86 (by decide) ?_
                refine pm_aloadn hG dX12_heir_87 rfl ?_
                refine pm_getf hG dX12_heir_88 (flX12_7 _ rfl) rfl rfl ?_
                refine pm_bipush (v := nI 8) hG dX12_heir_91 (by decide) ?_
                refine pm_ialdN hG dX12_heir_93 rfl (by decide) (by omega) ?_
                refine pm_top (v := nI k3) ek3 ?_
                refine pm_callV (As := [.int (-1), .int (nI i9), .int (-1), .int (nI k3)]) (rest := []) hG hR dX12_heir_94 (lkX12_214 _ rfl) okV_X12_comesTo rfl rfl (m_comesTo_m_n20_m (d := 3) (by decide) hn hr hz (by omega)) rfl rfl hdd (by decide) (by decide) (by decide) (pm_ki (fun v21 σ' cnt' hq => ?_))
                obtain ⟨⟨I22, A22, rfl⟩, rfl⟩ := hq
                refine pm_if_ne (tgt := 103) hG dX12_heir_97 rfl (fun c23 => ?_) (fun c23 => ?_)
                · refine pm_iloadi hG dX12_heir_103 rfl ?_
                  refine pm_istoreXi (loc' := [some (.ref (B + 54)), some (.int za), some (.int (-1)), some (.ref (B + cnt)), some (.ref (B + (cnt + 1))), some (.int (nI j9_5)), some (.int (nI i9)), some (.int v16), some (.int (nI j9_5))]) hG dX12_heir_105 (by decide) (pm_c1b rfl) rfl ?_
                  have loop107_24 : ∀ (m24 : Nat) (I24 : Nat → Int32) (A24 : Nat → Nat → Int32) (i24 : Nat) (t24L : pm_S) (w24_0 : Nat → Int32) (w24_1 : Nat → Int32), i24 ≤ 20 → t24L cnt = some (.inl (20, w24_0)) → WH w24_0 → t24L (cnt + 1) = some (.inl (20, w24_1)) → (∀ j : Nat, j < cnt → t24L j = σ j) → i24 ≤ j9_5 → i24 < m24 → pm_wp mX12_heir G B 107 [some (.ref (B + 54)), some (.int za), some (.int (-1)), some (.ref (B + cnt)), some (.ref (B + (cnt + 1))), some (.int (nI j9_5)), some (.int (nI i9)), some (.int v16), some (.int (nI i24))] [] 2 40 (cnt + 2) (pm_mid t24L (md_L B I24 A24 n k z ac wt pl (nI p0) (nI t0) im)) := by
                    intro m24
                    induction m24 with
                    | zero => intro I24 A24 i24 t24L w24_0 w24_1 _ _ _ _ _ _ hm; exact absurd hm (Nat.not_lt_zero _)
                    | succ m24 ih24 =>
                      intro I24 A24 i24 t24L w24_0 w24_1 hi24 hw24_0 vw24_0 hw24_1 ot24L hw24 hm24
                      refine pm_iloadi hG dX12_heir_107 rfl ?_
                      refine pm_ifN_le (tgt := 185) hG dX12_heir_109 rfl (by omega) (fun c25 => ?_) (fun c25 => ?_)
                      · refine pm_aloadn hG dX12_heir_185 rfl ?_
                        refine pm_iloadi hG dX12_heir_186 rfl ?_
                        refine pm_iloadi hG dX12_heir_188 rfl ?_
                        refine pm_iastN hG dX12_heir_190 (pm_mid_hi (by omega) hw24_0) (by decide) (by omega) ?_
                        refine pm_nrw (by omega) ?_
                        refine pm_genB (fun t26 et26 => ?_)
                        obtain ⟨wt26, ewt26⟩ : ∃ f : Nat → Int32, f = upd w24_0 i24 (nI i9) := ⟨_, rfl⟩
                        rw [← ewt26] at et26
                        have hwt26 : t26 cnt = some (.inl (20, wt26)) := by rw [et26]; exact pm_up_same _ _ _
                        have vwt26 : WH wt26 := WH.w ewt26 vw24_0 (by omega : i9 < 20)
                        have hw24_1_t26 : t26 (cnt + 1) = some (.inl (20, w24_1)) := by rw [et26, pm_up_ne _ _ (by omega)]; exact hw24_1
                        have ot26 : ∀ j : Nat, j < cnt → t26 j = σ j := fun j hj => by rw [et26, pm_up_ne _ _ (by omega)]; exact ot24L j hj
                        refine pm_aloadi hG dX12_heir_191 rfl ?_
                        refine pm_iloadi hG dX12_heir_193 rfl ?_
                        refine pm_iloadi hG dX12_heir_195 rfl ?_
                        refine pm_iastN hG dX12_heir_197 (pm_mid_hi (by omega) hw24_1_t26) (by decide) (by omega) ?_
                        refine pm_nrw (by omega) ?_
                        refine pm_genB (fun t27 et27 => ?_)
                        obtain ⟨wt27, ewt27⟩ : ∃ f : Nat → Int32, f = upd w24_1 i24 v16 := ⟨_, rfl⟩
                        rw [← ewt27] at et27
                        have hwt27 : t27 (cnt + 1) = some (.inl (20, wt27)) := by rw [et27]; exact pm_up_same _ _ _
                        have hwt26_t27 : t27 cnt = some (.inl (20, wt26)) := by rw [et27, pm_up_ne _ _ (by omega)]; exact hwt26
                        have ot27 : ∀ j : Nat, j < cnt → t27 j = σ j := fun j hj => by rw [et27, pm_up_ne _ _ (by omega)]; exact ot26 j hj
                        refine pm_iincX (v := nI (j9_5 + 1)) (loc' := [some (.ref (B + 54)), some (.int za), some (.int (-1)), some (.ref (B + cnt)), some (.ref (B + (cnt + 1))), some (.int (nI (j9_5 + 1))), some (.int (nI i9)), some (.int v16), some (.int (nI i24))]) hG dX12_heir_198 rfl (nI_1 _) (by decide) (pm_c1b rfl) rfl ?_
                        refine pm_iincX (v := nI (i9 + 1)) (loc' := [some (.ref (B + 54)), some (.int za), some (.int (-1)), some (.ref (B + cnt)), some (.ref (B + (cnt + 1))), some (.int (nI (j9_5 + 1))), some (.int (nI (i9 + 1))), some (.int v16), some (.int (nI i24))]) hG dX12_heir_201 rfl (nI_1 _) (by decide) (pm_c1b rfl) rfl ?_
                        refine pm_goto (tgt := 47) hG dX12_heir_204 rfl ?_
                        refine pm_fg 7 (loc' := [some (.ref (B + 54)), some (.int za), some (.int (-1)), some (.ref (B + cnt)), some (.ref (B + (cnt + 1))), some (.int (nI (j9_5 + 1))), some (.int (nI (i9 + 1))), none, some (.int (nI i24))]) rfl ?_
                        refine pm_fg 8 (loc' := [some (.ref (B + 54)), some (.int za), some (.int (-1)), some (.ref (B + cnt)), some (.ref (B + (cnt + 1))), some (.int (nI (j9_5 + 1))), some (.int (nI (i9 + 1))), none, none]) rfl ?_
                        exact ih9 I24 A24 (j9_5 + 1) (i9 + 1) t27 wt26 wt27 (by omega) (by omega) (by omega) hwt26_t27 vwt26 hwt27 ot27 (by omega) (by omega)
                      · refine pm_aloadi hG dX12_heir_112 rfl ?_
                        refine pm_iloadi hG dX12_heir_114 rfl ?_
                        refine pm_iconst (v := nI 1) hG dX12_heir_116 (by decide) ?_
                        obtain ⟨q28, hq28⟩ : ∃ q28 : Nat, i24 = 1 + q28 := ⟨i24 - (1), by omega⟩
                        refine pm_isubN (c := q28) hG dX12_heir_117 (by omega) ?_
                        refine pm_ialdN hG dX12_heir_118 (pm_mid_hi (by omega) hw24_1) (by decide) (by omega) ?_
                        refine pm_any (fun x29 => ?_)
                        refine pm_iloadi hG dX12_heir_119 rfl ?_
                        refine pm_icmp_gt (tgt := 157) hG dX12_heir_121 rfl (fun c30 => ?_) (fun c30 => ?_)
                        · refine pm_aloadn hG dX12_heir_157 rfl ?_
                          refine pm_iloadi hG dX12_heir_158 rfl ?_
                          refine pm_aloadn hG dX12_heir_160 rfl ?_
                          refine pm_iloadi hG dX12_heir_161 rfl ?_
                          refine pm_iconst (v := nI 1) hG dX12_heir_163 (by decide) ?_
                          obtain ⟨q31, hq31⟩ : ∃ q31 : Nat, i24 = 1 + q31 := ⟨i24 - (1), by omega⟩
                          refine pm_isubN (c := q31) hG dX12_heir_164 (by omega) ?_
                          refine pm_ialdN hG dX12_heir_165 (pm_mid_hi (by omega) hw24_0) (by decide) (by omega) ?_
                          obtain ⟨k32, hk32, ek32⟩ := vw24_0 q31
                          refine pm_top (v := nI k32) ek32 ?_
                          refine pm_iastN hG dX12_heir_166 (pm_mid_hi (by omega) hw24_0) (by decide) (by omega) ?_
                          refine pm_nrw (by omega) ?_
                          refine pm_genB (fun t33 et33 => ?_)
                          obtain ⟨wt33, ewt33⟩ : ∃ f : Nat → Int32, f = upd w24_0 i24 (nI k32) := ⟨_, rfl⟩
                          rw [← ewt33] at et33
                          have hwt33 : t33 cnt = some (.inl (20, wt33)) := by rw [et33]; exact pm_up_same _ _ _
                          have vwt33 : WH wt33 := WH.w ewt33 vw24_0 (by omega : k32 < 20)
                          have hw24_1_t33 : t33 (cnt + 1) = some (.inl (20, w24_1)) := by rw [et33, pm_up_ne _ _ (by omega)]; exact hw24_1
                          have ot33 : ∀ j : Nat, j < cnt → t33 j = σ j := fun j hj => by rw [et33, pm_up_ne _ _ (by omega)]; exact ot24L j hj
                          refine pm_aloadi hG dX12_heir_167 rfl ?_
                          refine pm_iloadi hG dX12_heir_169 rfl ?_
                          refine pm_aloadi hG dX12_heir_171 rfl ?_
                          refine pm_iloadi hG dX12_heir_173 rfl ?_
                          refine pm_iconst (v := nI 1) hG dX12_heir_175 (by decide) ?_
                          obtain ⟨q34, hq34⟩ : ∃ q34 : Nat, i24 = 1 + q34 := ⟨i24 - (1), by omega⟩
                          refine pm_isubN (c := q34) hG dX12_heir_176 (by omega) ?_
                          refine pm_ialdN hG dX12_heir_177 (pm_mid_hi (by omega) hw24_1_t33) (by decide) (by omega) ?_
                          refine pm_any (fun x35 => ?_)
                          refine pm_iastN hG dX12_heir_178 (pm_mid_hi (by omega) hw24_1_t33) (by decide) (by omega) ?_
                          refine pm_nrw (by omega) ?_
                          refine pm_genB (fun t36 et36 => ?_)
                          obtain ⟨wt36, ewt36⟩ : ∃ f : Nat → Int32, f = upd w24_1 i24 x35 := ⟨_, rfl⟩
                          rw [← ewt36] at et36
                          have hwt36 : t36 (cnt + 1) = some (.inl (20, wt36)) := by rw [et36]; exact pm_up_same _ _ _
                          have hwt33_t36 : t36 cnt = some (.inl (20, wt33)) := by rw [et36, pm_up_ne _ _ (by omega)]; exact hwt33
                          have ot36 : ∀ j : Nat, j < cnt → t36 j = σ j := fun j hj => by rw [et36, pm_up_ne _ _ (by omega)]; exact ot33 j hj
                          obtain ⟨q37, hq37⟩ : ∃ q37 : Nat, i24 = q37 + 1 := ⟨i24 - 1, by omega⟩
                          refine pm_iincX (v := nI q37) (loc' := [some (.ref (B + 54)), some (.int za), some (.int (-1)), some (.ref (B + cnt)), some (.ref (B + (cnt + 1))), some (.int (nI j9_5)), some (.int (nI i9)), some (.int v16), some (.int (nI q37))]) hG dX12_heir_179 rfl (by rw [hq37]; exact pk_m1 q37) (by decide) (pm_c1b rfl) rfl ?_
                          refine pm_goto (tgt := 107) hG dX12_heir_182 rfl ?_
                          exact ih24 I24 A24 q37 t36 wt33 wt36 (by omega) hwt33_t36 vwt33 hwt36 ot36 (by omega) (by omega)
                        · refine pm_aloadi hG dX12_heir_124 rfl ?_
                          refine pm_iloadi hG dX12_heir_126 rfl ?_
                          refine pm_iconst (v := nI 1) hG dX12_heir_128 (by decide) ?_
                          obtain ⟨q38, hq38⟩ : ∃ q38 : Nat, i24 = 1 + q38 := ⟨i24 - (1), by omega⟩
                          refine pm_isubN (c := q38) hG dX12_heir_129 (by omega) ?_
                          refine pm_ialdN hG dX12_heir_130 (pm_mid_hi (by omega) hw24_1) (by decide) (by omega) ?_
                          refine pm_any (fun x39 => ?_)
                          refine pm_iloadi hG dX12_heir_131 rfl ?_
                          refine pm_icmp_ne (tgt := 185) hG dX12_heir_133 rfl (fun c40 => ?_) (fun c40 => ?_)
                          · refine pm_aloadn hG dX12_heir_185 rfl ?_
                            refine pm_iloadi hG dX12_heir_186 rfl ?_
                            refine pm_iloadi hG dX12_heir_188 rfl ?_
                            refine pm_iastN hG dX12_heir_190 (pm_mid_hi (by omega) hw24_0) (by decide) (by omega) ?_
                            refine pm_nrw (by omega) ?_
                            refine pm_genB (fun t41 et41 => ?_)
                            obtain ⟨wt41, ewt41⟩ : ∃ f : Nat → Int32, f = upd w24_0 i24 (nI i9) := ⟨_, rfl⟩
                            rw [← ewt41] at et41
                            have hwt41 : t41 cnt = some (.inl (20, wt41)) := by rw [et41]; exact pm_up_same _ _ _
                            have vwt41 : WH wt41 := WH.w ewt41 vw24_0 (by omega : i9 < 20)
                            have hw24_1_t41 : t41 (cnt + 1) = some (.inl (20, w24_1)) := by rw [et41, pm_up_ne _ _ (by omega)]; exact hw24_1
                            have ot41 : ∀ j : Nat, j < cnt → t41 j = σ j := fun j hj => by rw [et41, pm_up_ne _ _ (by omega)]; exact ot24L j hj
                            refine pm_aloadi hG dX12_heir_191 rfl ?_
                            refine pm_iloadi hG dX12_heir_193 rfl ?_
                            refine pm_iloadi hG dX12_heir_195 rfl ?_
                            refine pm_iastN hG dX12_heir_197 (pm_mid_hi (by omega) hw24_1_t41) (by decide) (by omega) ?_
                            refine pm_nrw (by omega) ?_
                            refine pm_genB (fun t42 et42 => ?_)
                            obtain ⟨wt42, ewt42⟩ : ∃ f : Nat → Int32, f = upd w24_1 i24 v16 := ⟨_, rfl⟩
                            rw [← ewt42] at et42
                            have hwt42 : t42 (cnt + 1) = some (.inl (20, wt42)) := by rw [et42]; exact pm_up_same _ _ _
                            have hwt41_t42 : t42 cnt = some (.inl (20, wt41)) := by rw [et42, pm_up_ne _ _ (by omega)]; exact hwt41
                            have ot42 : ∀ j : Nat, j < cnt → t42 j = σ j := fun j hj => by rw [et42, pm_up_ne _ _ (by omega)]; exact ot41 j hj
                            refine pm_iincX (v := nI (j9_5 + 1)) (loc' := [some (.ref (B + 54)), some (.int za), some (.int (-1)), some (.ref (B + cnt)), some (.ref (B + (cnt + 1))), some (.int (nI (j9_5 + 1))), some (.int (nI i9)), some (.int v16), some (.int (nI i24))]) hG dX12_heir_198 rfl (nI_1 _) (by decide) (pm_c1b rfl) rfl ?_
                            refine pm_iincX (v := nI (i9 + 1)) (loc' := [some (.ref (B + 54)), some (.int za), some (.int (-1)), some (.ref (B + cnt)), some (.ref (B + (cnt + 1))), some (.int (nI (j9_5 + 1))), some (.int (nI (i9 + 1))), some (.int v16), some (.int (nI i24))]) hG dX12_heir_201 rfl (nI_1 _) (by decide) (pm_c1b rfl) rfl ?_
                            refine pm_goto (tgt := 47) hG dX12_heir_204 rfl ?_
                            refine pm_fg 7 (loc' := [some (.ref (B + 54)), some (.int za), some (.int (-1)), some (.ref (B + cnt)), some (.ref (B + (cnt + 1))), some (.int (nI (j9_5 + 1))), some (.int (nI (i9 + 1))), none, some (.int (nI i24))]) rfl ?_
                            refine pm_fg 8 (loc' := [some (.ref (B + 54)), some (.int za), some (.int (-1)), some (.ref (B + cnt)), some (.ref (B + (cnt + 1))), some (.int (nI (j9_5 + 1))), some (.int (nI (i9 + 1))), none, none]) rfl ?_
                            exact ih9 I24 A24 (j9_5 + 1) (i9 + 1) t42 wt41 wt42 (by omega) (by omega) (by omega) hwt41_t42 vwt41 hwt42 ot42 (by omega) (by omega)
                          · refine pm_aloadn hG dX12_heir_136 rfl ?_
                            refine pm_aloadn hG dX12_heir_137 rfl ?_
                            refine pm_iloadi hG dX12_heir_138 rfl ?_
                            refine pm_iconst (v := nI 1) hG dX12_heir_140 (by decide) ?_
                            obtain ⟨q43, hq43⟩ : ∃ q43 : Nat, i24 = 1 + q43 := ⟨i24 - (1), by omega⟩
                            refine pm_isubN (c := q43) hG dX12_heir_141 (by omega) ?_
                            refine pm_ialdN hG dX12_heir_142 (pm_mid_hi (by omega) hw24_0) (by decide) (by omega) ?_
                            obtain ⟨k44, hk44, ek44⟩ := vw24_0 q43
                            refine pm_top (v := nI k44) ek44 ?_
                            refine pm_iconst (v := nI 1) hG dX12_heir_143 (by decide) ?_
                            refine pm_callV (As := [.int (nI k44), .int (nI 1)]) (rest := []) hG hR dX12_heir_144 (lkX12_72 _ rfl) okV_X12_man rfl rfl (m_man (d := 3) (e := 14 * k44 + 111) (by omega) (by omega) (by omega)) rfl rfl hdd (by decide) (by decide) (by decide) (pm_ki (fun v45 σ' cnt' hq => ?_))
                            obtain ⟨rfl, rfl, rfl⟩ := hq
                            refine pm_gen (fun x46 ex46 => ?_)
                            refine pm_aloadn hG dX12_heir_147 rfl ?_
                            refine pm_iloadi hG dX12_heir_148 rfl ?_
                            refine pm_iconst (v := nI 1) hG dX12_heir_150 (by decide) ?_
                            refine pm_callV (As := [.int (nI i9), .int (nI 1)]) (rest := [.int x46]) hG hR dX12_heir_151 (lkX12_72 _ rfl) okV_X12_man rfl rfl (m_man (d := 3) (e := 14 * i9 + 111) (by omega) (by omega) (by omega)) rfl rfl hdd (by decide) (by decide) (Nat.le_of_ble_eq_true rfl) (pm_ki (fun v47 σ' cnt' hq => ?_))
                            obtain ⟨rfl, rfl, rfl⟩ := hq
                            refine pm_gen (fun x48 ex48 => ?_)
                            refine pm_icmp_le (tgt := 185) hG dX12_heir_154 rfl (fun c49 => ?_) (fun c49 => ?_)
                            · refine pm_aloadn hG dX12_heir_185 rfl ?_
                              refine pm_iloadi hG dX12_heir_186 rfl ?_
                              refine pm_iloadi hG dX12_heir_188 rfl ?_
                              refine pm_iastN hG dX12_heir_190 (pm_mid_hi (by omega) hw24_0) (by decide) (by omega) ?_
                              refine pm_nrw (by omega) ?_
                              refine pm_genB (fun t50 et50 => ?_)
                              obtain ⟨wt50, ewt50⟩ : ∃ f : Nat → Int32, f = upd w24_0 i24 (nI i9) := ⟨_, rfl⟩
                              rw [← ewt50] at et50
                              have hwt50 : t50 cnt = some (.inl (20, wt50)) := by rw [et50]; exact pm_up_same _ _ _
                              have vwt50 : WH wt50 := WH.w ewt50 vw24_0 (by omega : i9 < 20)
                              have hw24_1_t50 : t50 (cnt + 1) = some (.inl (20, w24_1)) := by rw [et50, pm_up_ne _ _ (by omega)]; exact hw24_1
                              have ot50 : ∀ j : Nat, j < cnt → t50 j = σ j := fun j hj => by rw [et50, pm_up_ne _ _ (by omega)]; exact ot24L j hj
                              refine pm_aloadi hG dX12_heir_191 rfl ?_
                              refine pm_iloadi hG dX12_heir_193 rfl ?_
                              refine pm_iloadi hG dX12_heir_195 rfl ?_
                              refine pm_iastN hG dX12_heir_197 (pm_mid_hi (by omega) hw24_1_t50) (by decide) (by omega) ?_
                              refine pm_nrw (by omega) ?_
                              refine pm_genB (fun t51 et51 => ?_)
                              obtain ⟨wt51, ewt51⟩ : ∃ f : Nat → Int32, f = upd w24_1 i24 v16 := ⟨_, rfl⟩
                              rw [← ewt51] at et51
                              have hwt51 : t51 (cnt + 1) = some (.inl (20, wt51)) := by rw [et51]; exact pm_up_same _ _ _
                              have hwt50_t51 : t51 cnt = some (.inl (20, wt50)) := by rw [et51, pm_up_ne _ _ (by omega)]; exact hwt50
                              have ot51 : ∀ j : Nat, j < cnt → t51 j = σ j := fun j hj => by rw [et51, pm_up_ne _ _ (by omega)]; exact ot50 j hj
                              refine pm_iincX (v := nI (j9_5 + 1)) (loc' := [some (.ref (B + 54)), some (.int za), some (.int (-1)), some (.ref (B + cnt)), some (.ref (B + (cnt + 1))), some (.int (nI (j9_5 + 1))), some (.int (nI i9)), some (.int v16), some (.int (nI i24))]) hG dX12_heir_198 rfl (nI_1 _) (by decide) (pm_c1b rfl) rfl ?_
                              refine pm_iincX (v := nI (i9 + 1)) (loc' := [some (.ref (B + 54)), some (.int za), some (.int (-1)), some (.ref (B + cnt)), some (.ref (B + (cnt + 1))), some (.int (nI (j9_5 + 1))), some (.int (nI (i9 + 1))), some (.int v16), some (.int (nI i24))]) hG dX12_heir_201 rfl (nI_1 _) (by decide) (pm_c1b rfl) rfl ?_
                              refine pm_goto (tgt := 47) hG dX12_heir_204 rfl ?_
                              refine pm_fg 7 (loc' := [some (.ref (B + 54)), some (.int za), some (.int (-1)), some (.ref (B + cnt)), some (.ref (B + (cnt + 1))), some (.int (nI (j9_5 + 1))), some (.int (nI (i9 + 1))), none, some (.int (nI i24))]) rfl ?_
                              refine pm_fg 8 (loc' := [some (.ref (B + 54)), some (.int za), some (.int (-1)), some (.ref (B + cnt)), some (.ref (B + (cnt + 1))), some (.int (nI (j9_5 + 1))), some (.int (nI (i9 + 1))), none, none]) rfl ?_
                              exact ih9 I24 A24 (j9_5 + 1) (i9 + 1) t51 wt50 wt51 (by omega) (by omega) (by omega) hwt50_t51 vwt50 hwt51 ot51 (by omega) (by omega)
                            · refine pm_aloadn hG dX12_heir_157 rfl ?_
                              refine pm_iloadi hG dX12_heir_158 rfl ?_
                              refine pm_aloadn hG dX12_heir_160 rfl ?_
                              refine pm_iloadi hG dX12_heir_161 rfl ?_
                              refine pm_iconst (v := nI 1) hG dX12_heir_163 (by decide) ?_
                              obtain ⟨q52, hq52⟩ : ∃ q52 : Nat, i24 = 1 + q52 := ⟨i24 - (1), by omega⟩
                              refine pm_isubN (c := q52) hG dX12_heir_164 (by omega) ?_
                              refine pm_ialdN hG dX12_heir_165 (pm_mid_hi (by omega) hw24_0) (by decide) (by omega) ?_
                              obtain ⟨k53, hk53, ek53⟩ := vw24_0 q52
                              refine pm_top (v := nI k53) ek53 ?_
                              refine pm_iastN hG dX12_heir_166 (pm_mid_hi (by omega) hw24_0) (by decide) (by omega) ?_
                              refine pm_nrw (by omega) ?_
                              refine pm_genB (fun t54 et54 => ?_)
                              obtain ⟨wt54, ewt54⟩ : ∃ f : Nat → Int32, f = upd w24_0 i24 (nI k53) := ⟨_, rfl⟩
                              rw [← ewt54] at et54
                              have hwt54 : t54 cnt = some (.inl (20, wt54)) := by rw [et54]; exact pm_up_same _ _ _
                              have vwt54 : WH wt54 := WH.w ewt54 vw24_0 (by omega : k53 < 20)
                              have hw24_1_t54 : t54 (cnt + 1) = some (.inl (20, w24_1)) := by rw [et54, pm_up_ne _ _ (by omega)]; exact hw24_1
                              have ot54 : ∀ j : Nat, j < cnt → t54 j = σ j := fun j hj => by rw [et54, pm_up_ne _ _ (by omega)]; exact ot24L j hj
                              refine pm_aloadi hG dX12_heir_167 rfl ?_
                              refine pm_iloadi hG dX12_heir_169 rfl ?_
                              refine pm_aloadi hG dX12_heir_171 rfl ?_
                              refine pm_iloadi hG dX12_heir_173 rfl ?_
                              refine pm_iconst (v := nI 1) hG dX12_heir_175 (by decide) ?_
                              obtain ⟨q55, hq55⟩ : ∃ q55 : Nat, i24 = 1 + q55 := ⟨i24 - (1), by omega⟩
                              refine pm_isubN (c := q55) hG dX12_heir_176 (by omega) ?_
                              refine pm_ialdN hG dX12_heir_177 (pm_mid_hi (by omega) hw24_1_t54) (by decide) (by omega) ?_
                              refine pm_any (fun x56 => ?_)
                              refine pm_iastN hG dX12_heir_178 (pm_mid_hi (by omega) hw24_1_t54) (by decide) (by omega) ?_
                              refine pm_nrw (by omega) ?_
                              refine pm_genB (fun t57 et57 => ?_)
                              obtain ⟨wt57, ewt57⟩ : ∃ f : Nat → Int32, f = upd w24_1 i24 x56 := ⟨_, rfl⟩
                              rw [← ewt57] at et57
                              have hwt57 : t57 (cnt + 1) = some (.inl (20, wt57)) := by rw [et57]; exact pm_up_same _ _ _
                              have hwt54_t57 : t57 cnt = some (.inl (20, wt54)) := by rw [et57, pm_up_ne _ _ (by omega)]; exact hwt54
                              have ot57 : ∀ j : Nat, j < cnt → t57 j = σ j := fun j hj => by rw [et57, pm_up_ne _ _ (by omega)]; exact ot54 j hj
                              obtain ⟨q58, hq58⟩ : ∃ q58 : Nat, i24 = q58 + 1 := ⟨i24 - 1, by omega⟩
                              refine pm_iincX (v := nI q58) (loc' := [some (.ref (B + 54)), some (.int za), some (.int (-1)), some (.ref (B + cnt)), some (.ref (B + (cnt + 1))), some (.int (nI j9_5)), some (.int (nI i9)), some (.int v16), some (.int (nI q58))]) hG dX12_heir_179 rfl (by rw [hq58]; exact pk_m1 q58) (by decide) (pm_c1b rfl) rfl ?_
                              refine pm_goto (tgt := 107) hG dX12_heir_182 rfl ?_
                              exact ih24 I24 A24 q58 t57 wt54 wt57 (by omega) hwt54_t57 vwt54 hwt57 ot57 (by omega) (by omega)
                  exact loop107_24 _ I22 A22 j9_5 t9L w9_0 w9_1 (by omega) hw9_0 vw9_0 hw9_1 ot9L (by omega) (Nat.lt_succ_self _)
                · refine pm_goto (tgt := 201) hG dX12_heir_100 rfl ?_
                  refine pm_iincX (v := nI (i9 + 1)) (loc' := [some (.ref (B + 54)), some (.int za), some (.int (-1)), some (.ref (B + cnt)), some (.ref (B + (cnt + 1))), some (.int (nI j9_5)), some (.int (nI (i9 + 1))), some (.int v16), none]) hG dX12_heir_201 rfl (nI_1 _) (by decide) (pm_c1b rfl) rfl ?_
                  refine pm_goto (tgt := 47) hG dX12_heir_204 rfl ?_
                  refine pm_fg 7 (loc' := [some (.ref (B + 54)), some (.int za), some (.int (-1)), some (.ref (B + cnt)), some (.ref (B + (cnt + 1))), some (.int (nI j9_5)), some (.int (nI (i9 + 1))), none, none]) rfl ?_
                  exact ih9 I22 A22 j9_5 (i9 + 1) t9L w9_0 w9_1 (by omega) (by omega) (by omega) hw9_0 vw9_0 hw9_1 ot9L (by omega) (by omega)
            · refine pm_callV (As := [.int (nI i9)]) (rest := []) hG hR dX12_heir_69 (lkX12_101 _ rfl) okV_X12_lives rfl rfl (m_lives0 (d := 3) (by decide) (by omega) (by omega : 14 * i9 + 119 = 14 * i9 + 119) ek18 (by omega)) rfl rfl hdd (by decide) (by decide) (by decide) (pm_ki (fun v59 σ' cnt' hq => ?_))
              obtain ⟨rfl, rfl, rfl⟩ := hq
              refine pm_ifN_eq (tgt := 201) hG dX12_heir_72 rfl (by omega) (fun _ => ?_) (fun q => absurd q (by omega))
              refine pm_iincX (v := nI (i9 + 1)) (loc' := [some (.ref (B + 54)), some (.int za), some (.int (-1)), some (.ref (B + cnt)), some (.ref (B + (cnt + 1))), some (.int (nI j9_5)), some (.int (nI (i9 + 1))), some (.int v16), none]) hG dX12_heir_201 rfl (nI_1 _) (by decide) (pm_c1b rfl) rfl ?_
              refine pm_goto (tgt := 47) hG dX12_heir_204 rfl ?_
              refine pm_fg 7 (loc' := [some (.ref (B + 54)), some (.int za), some (.int (-1)), some (.ref (B + cnt)), some (.ref (B + (cnt + 1))), some (.int (nI j9_5)), some (.int (nI (i9 + 1))), none, none]) rfl ?_
              exact ih9 I17 A17 j9_5 (i9 + 1) t9L w9_0 w9_1 (by omega) (by omega) (by omega) hw9_0 vw9_0 hw9_1 ot9L (by omega) (by omega)
      exact loop47_9 _ I A 0 1 t8 wt7 wt8 (by omega) (by omega) (by omega) hwt7_t8 vwt7 hwt8 ot8 (by omega) (Nat.lt_succ_self _)
    · refine pm_istoreXn (loc' := [some (.ref (B + 54)), some (.int za), some (.int (nI k6)), none, none, none, none, none, none]) hG dX12_heir_29 (by decide) (pm_c1b rfl) rfl ?_
      refine pm_bipush (v := nI 20) hG dX12_heir_30 (by decide) ?_
      refine pm_newi (N := 20) hG hR dX12_heir_32 (by decide) (by decide) (by decide) (by decide) (by decide) ?_
      refine pm_nrw (by omega) ?_
      refine pm_genB (fun t60 et60 => ?_)
      obtain ⟨wt60, ewt60⟩ : ∃ f : Nat → Int32, f = fun _ => 0 := ⟨_, rfl⟩
      rw [← ewt60] at et60
      have hwt60 : t60 cnt = some (.inl (20, wt60)) := by rw [et60]; exact pm_up_same _ _ _
      have vwt60 : WH wt60 := fun j => ⟨0, by decide, by rw [ewt60]; rfl⟩
      have ot60 : ∀ j : Nat, j < cnt → t60 j = σ j := fun j hj => by rw [et60, pm_up_ne _ _ (by omega)]
      refine pm_nums (cs' := 1) (zs' := 20) (cnt' := (cnt + 1)) rfl rfl rfl ?_
      refine pm_astoreXn (loc' := [some (.ref (B + 54)), some (.int za), some (.int (nI k6)), some (.ref (B + cnt)), none, none, none, none, none]) hG dX12_heir_34 (by decide) (pm_c1b rfl) rfl ?_
      refine pm_bipush (v := nI 20) hG dX12_heir_35 (by decide) ?_
      refine pm_newi (N := 20) hG hR dX12_heir_37 (by decide) (by decide) (by decide) (by decide) (by decide) ?_
      refine pm_nrw (by omega) ?_
      refine pm_genB (fun t61 et61 => ?_)
      obtain ⟨wt61, ewt61⟩ : ∃ f : Nat → Int32, f = fun _ => 0 := ⟨_, rfl⟩
      rw [← ewt61] at et61
      have hwt61 : t61 (cnt + 1) = some (.inl (20, wt61)) := by rw [et61]; exact pm_up_same _ _ _
      have vwt61 : WH wt61 := fun j => ⟨0, by decide, by rw [ewt61]; rfl⟩
      have hwt60_t61 : t61 cnt = some (.inl (20, wt60)) := by rw [et61, pm_up_ne _ _ (by omega)]; exact hwt60
      have ot61 : ∀ j : Nat, j < cnt → t61 j = σ j := fun j hj => by rw [et61, pm_up_ne _ _ (by omega)]; exact ot60 j hj
      refine pm_nums (cs' := 2) (zs' := 40) (cnt' := (cnt + 2)) rfl rfl rfl ?_
      refine pm_astoreXi (loc' := [some (.ref (B + 54)), some (.int za), some (.int (nI k6)), some (.ref (B + cnt)), some (.ref (B + (cnt + 1))), none, none, none, none]) hG dX12_heir_39 (by decide) (pm_c1b rfl) rfl ?_
      refine pm_iconst (v := nI 0) hG dX12_heir_41 (by decide) ?_
      refine pm_istoreXi (loc' := [some (.ref (B + 54)), some (.int za), some (.int (nI k6)), some (.ref (B + cnt)), some (.ref (B + (cnt + 1))), some (.int (nI 0)), none, none, none]) hG dX12_heir_42 (by decide) (pm_c1b rfl) rfl ?_
      refine pm_iconst (v := nI 1) hG dX12_heir_44 (by decide) ?_
      refine pm_istoreXi (loc' := [some (.ref (B + 54)), some (.int za), some (.int (nI k6)), some (.ref (B + cnt)), some (.ref (B + (cnt + 1))), some (.int (nI 0)), some (.int (nI 1)), none, none]) hG dX12_heir_45 (by decide) (pm_c1b rfl) rfl ?_
      have loop47_62 : ∀ (m62 : Nat) (I62 : Nat → Int32) (A62 : Nat → Nat → Int32) (j62_5 : Nat) (i62 : Nat) (t62L : pm_S) (w62_0 : Nat → Int32) (w62_1 : Nat → Int32), j62_5 ≤ 20 → i62 ≤ 20 → 1 ≤ i62 → t62L cnt = some (.inl (20, w62_0)) → WH w62_0 → t62L (cnt + 1) = some (.inl (20, w62_1)) → (∀ j : Nat, j < cnt → t62L j = σ j) → j62_5 + 1 ≤ i62 → 20 - i62 < m62 → pm_wp mX12_heir G B 47 [some (.ref (B + 54)), some (.int za), some (.int (nI k6)), some (.ref (B + cnt)), some (.ref (B + (cnt + 1))), some (.int (nI j62_5)), some (.int (nI i62)), none, none] [] 2 40 (cnt + 2) (pm_mid t62L (md_L B I62 A62 n k z ac wt pl (nI p0) (nI t0) im)) := by
        intro m62
        induction m62 with
        | zero => intro I62 A62 j62_5 i62 t62L w62_0 w62_1 _ _ _ _ _ _ _ _ hm; exact absurd hm (Nat.not_lt_zero _)
        | succ m62 ih62 =>
          intro I62 A62 j62_5 i62 t62L w62_0 w62_1 hj62_5 hi62 hl62 hw62_0 vw62_0 hw62_1 ot62L hv62 hm62
          refine pm_iloadi hG dX12_heir_47 rfl ?_
          refine pm_aloadn hG dX12_heir_49 rfl ?_
          refine pm_getf hG dX12_heir_50 (flX12_7 _ rfl) rfl rfl ?_
          refine pm_iconst (v := nI 2) hG dX12_heir_53 (by decide) ?_
          refine pm_ialdN hG dX12_heir_54 rfl (by decide) (by omega) ?_
          obtain ⟨k63, hk63, ek63⟩ := KI.nat hn (show kd 2 = (1, 21, true) by decide)
          refine pm_top (v := nI k63) ek63 ?_
          refine pm_icmpN_ge (tgt := 207) hG dX12_heir_55 rfl (by omega) (by omega) (fun c64 => ?_) (fun c64 => ?_)
          · refine pm_iloadn hG dX12_heir_207 rfl ?_
            refine pm_top (v := nI k2) ek2 ?_
            refine pm_iloadi hG dX12_heir_208 rfl ?_
            refine pm_icmpN_ge (tgt := 219) hG dX12_heir_210 rfl (by omega) (by omega) (fun c65 => ?_) (fun c65 => ?_)
            · refine pm_aloadn hG dX12_heir_219 rfl ?_
              refine pm_iconst (v := nI 2) hG dX12_heir_220 (by decide) ?_
              refine pm_callV (As := [.int (nI 2)]) (rest := []) hG hR dX12_heir_221 (lkX12_80 _ rfl) okV_X12_finds rfl rfl (m_finds (d := 3) (by decide) hn hz (by omega)) rfl rfl hdd (by decide) (by decide) (by decide) (pm_ki (fun v66 σ' cnt' hq => ?_))
              obtain ⟨⟨I67, A67, rfl⟩, rfl, fv66⟩ := hq
              exact pm_iret hG hF dX12_heir_224 rfl (by decide) (by decide) ⟨_, rfl, ⟨_, _, _, rfl, ot62L⟩, by omega⟩
            · refine pm_aloadn hG dX12_heir_213 rfl ?_
              refine pm_iloadn hG dX12_heir_214 rfl ?_
              refine pm_top (v := nI k2) ek2 ?_
              refine pm_ialdN hG dX12_heir_215 (pm_mid_hi (by omega) hw62_0) (by decide) (by omega) ?_
              obtain ⟨k68, hk68, ek68⟩ := vw62_0 k2
              refine pm_top (v := nI k68) ek68 ?_
              refine pm_goto (tgt := 224) hG dX12_heir_216 rfl ?_
              exact pm_iret hG hF dX12_heir_224 rfl (by decide) (by decide) ⟨_, rfl, ⟨_, _, _, rfl, ot62L⟩, by omega⟩
          · refine pm_aloadn hG dX12_heir_58 rfl ?_
            refine pm_iloadi hG dX12_heir_59 rfl ?_
            refine pm_callV (As := [.int (nI i62)]) (rest := []) hG hR dX12_heir_61 (lkX12_125 _ rfl) okV_X12_stepsOf rfl rfl (m_stepsOf (d := 3) (by decide) hn hz (by omega)) rfl rfl hdd (by decide) (by decide) (by decide) (pm_ki (fun v69 σ' cnt' hq => ?_))
            obtain ⟨⟨I70, A70, rfl⟩, rfl⟩ := hq
            refine pm_istoreXi (loc' := [some (.ref (B + 54)), some (.int za), some (.int (nI k6)), some (.ref (B + cnt)), some (.ref (B + (cnt + 1))), some (.int (nI j62_5)), some (.int (nI i62)), some (.int v69), none]) hG dX12_heir_64 (by decide) (pm_c1b rfl) rfl ?_
            refine pm_aloadn hG dX12_heir_66 rfl ?_
            refine pm_iloadi hG dX12_heir_67 rfl ?_
            rcases KI.opt hn (show kd (14 * i62 + 119) = (2, 2001, false) from (kd_P (k := i62) (c := 9) (by omega) (by omega) (by decide))) with ek71 | ⟨k71, hk71, ek71⟩
            · refine pm_callV (As := [.int (nI i62)]) (rest := []) hG hR dX12_heir_69 (lkX12_101 _ rfl) okV_X12_lives rfl rfl (m_lives1 (d := 3) (by decide) (by omega) (by omega : 14 * i62 + 119 = 14 * i62 + 119) ek71) rfl rfl hdd (by decide) (by decide) (by decide) (pm_ki (fun v72 σ' cnt' hq => ?_))
              obtain ⟨rfl, rfl, rfl⟩ := hq
              refine pm_ifN_eq (tgt := 201) hG dX12_heir_72 rfl (by omega) (fun q => absurd q (by omega)) (fun _ => ?_)
              refine pm_iloadi hG dX12_heir_75 rfl ?_
              refine pm_bipush (v := nI 99) hG dX12_heir_77 (by decide) ?_
              refine pm_icmp_eq (tgt := 201) hG dX12_heir_79 rfl (fun c73 => ?_) (fun c73 => ?_)
              · refine pm_iincX (v := nI (i62 + 1)) (loc' := [some (.ref (B + 54)), some (.int za), some (.int (nI k6)), some (.ref (B + cnt)), some (.ref (B + (cnt + 1))), some (.int (nI j62_5)), some (.int (nI (i62 + 1))), some (.int v69), none]) hG dX12_heir_201 rfl (nI_1 _) (by decide) (pm_c1b rfl) rfl ?_
                refine pm_goto (tgt := 47) hG dX12_heir_204 rfl ?_
                refine pm_fg 7 (loc' := [some (.ref (B + 54)), some (.int za), some (.int (nI k6)), some (.ref (B + cnt)), some (.ref (B + (cnt + 1))), some (.int (nI j62_5)), some (.int (nI (i62 + 1))), none, none]) rfl ?_
                exact ih62 I70 A70 j62_5 (i62 + 1) t62L w62_0 w62_1 (by omega) (by omega) (by omega) hw62_0 vw62_0 hw62_1 ot62L (by omega) (by omega)
              · refine pm_aloadn hG dX12_heir_82 rfl ?_
                refine pm_iloadn hG dX12_heir_83 rfl ?_
                refine pm_iloadi hG dX12_heir_84 rfl ?_
                refine pm_iconst (v := (-1)) hG dX12_heir_86 (by decide) ?_
                refine pm_aloadn hG dX12_heir_87 rfl ?_
                refine pm_getf hG dX12_heir_88 (flX12_7 _ rfl) rfl rfl ?_
                refine pm_bipush (v := nI 8) hG dX12_heir_91 (by decide) ?_
                refine pm_ialdN hG dX12_heir_93 rfl (by decide) (by omega) ?_
                refine pm_top (v := nI k3) ek3 ?_
                refine pm_callV (As := [.int (nI k6), .int (nI i62), .int (-1), .int (nI k3)]) (rest := []) hG hR dX12_heir_94 (lkX12_214 _ rfl) okV_X12_comesTo rfl rfl (m_comesTo_n12_n20_m (d := 3) (by decide) hn hr hz (by omega) (by omega)) rfl rfl hdd (by decide) (by decide) (by decide) (pm_ki (fun v74 σ' cnt' hq => ?_))
                obtain ⟨⟨I75, A75, rfl⟩, rfl⟩ := hq
                refine pm_if_ne (tgt := 103) hG dX12_heir_97 rfl (fun c76 => ?_) (fun c76 => ?_)
                · refine pm_iloadi hG dX12_heir_103 rfl ?_
                  refine pm_istoreXi (loc' := [some (.ref (B + 54)), some (.int za), some (.int (nI k6)), some (.ref (B + cnt)), some (.ref (B + (cnt + 1))), some (.int (nI j62_5)), some (.int (nI i62)), some (.int v69), some (.int (nI j62_5))]) hG dX12_heir_105 (by decide) (pm_c1b rfl) rfl ?_
                  have loop107_77 : ∀ (m77 : Nat) (I77 : Nat → Int32) (A77 : Nat → Nat → Int32) (i77 : Nat) (t77L : pm_S) (w77_0 : Nat → Int32) (w77_1 : Nat → Int32), i77 ≤ 20 → t77L cnt = some (.inl (20, w77_0)) → WH w77_0 → t77L (cnt + 1) = some (.inl (20, w77_1)) → (∀ j : Nat, j < cnt → t77L j = σ j) → i77 ≤ j62_5 → i77 < m77 → pm_wp mX12_heir G B 107 [some (.ref (B + 54)), some (.int za), some (.int (nI k6)), some (.ref (B + cnt)), some (.ref (B + (cnt + 1))), some (.int (nI j62_5)), some (.int (nI i62)), some (.int v69), some (.int (nI i77))] [] 2 40 (cnt + 2) (pm_mid t77L (md_L B I77 A77 n k z ac wt pl (nI p0) (nI t0) im)) := by
                    intro m77
                    induction m77 with
                    | zero => intro I77 A77 i77 t77L w77_0 w77_1 _ _ _ _ _ _ hm; exact absurd hm (Nat.not_lt_zero _)
                    | succ m77 ih77 =>
                      intro I77 A77 i77 t77L w77_0 w77_1 hi77 hw77_0 vw77_0 hw77_1 ot77L hw77 hm77
                      refine pm_iloadi hG dX12_heir_107 rfl ?_
                      refine pm_ifN_le (tgt := 185) hG dX12_heir_109 rfl (by omega) (fun c78 => ?_) (fun c78 => ?_)
                      · refine pm_aloadn hG dX12_heir_185 rfl ?_
                        refine pm_iloadi hG dX12_heir_186 rfl ?_
                        refine pm_iloadi hG dX12_heir_188 rfl ?_
                        refine pm_iastN hG dX12_heir_190 (pm_mid_hi (by omega) hw77_0) (by decide) (by omega) ?_
                        refine pm_nrw (by omega) ?_
                        refine pm_genB (fun t79 et79 => ?_)
                        obtain ⟨wt79, ewt79⟩ : ∃ f : Nat → Int32, f = upd w77_0 i77 (nI i62) := ⟨_, rfl⟩
                        rw [← ewt79] at et79
                        have hwt79 : t79 cnt = some (.inl (20, wt79)) := by rw [et79]; exact pm_up_same _ _ _
                        have vwt79 : WH wt79 := WH.w ewt79 vw77_0 (by omega : i62 < 20)
                        have hw77_1_t79 : t79 (cnt + 1) = some (.inl (20, w77_1)) := by rw [et79, pm_up_ne _ _ (by omega)]; exact hw77_1
                        have ot79 : ∀ j : Nat, j < cnt → t79 j = σ j := fun j hj => by rw [et79, pm_up_ne _ _ (by omega)]; exact ot77L j hj
                        refine pm_aloadi hG dX12_heir_191 rfl ?_
                        refine pm_iloadi hG dX12_heir_193 rfl ?_
                        refine pm_iloadi hG dX12_heir_195 rfl ?_
                        refine pm_iastN hG dX12_heir_197 (pm_mid_hi (by omega) hw77_1_t79) (by decide) (by omega) ?_
                        refine pm_nrw (by omega) ?_
                        refine pm_genB (fun t80 et80 => ?_)
                        obtain ⟨wt80, ewt80⟩ : ∃ f : Nat → Int32, f = upd w77_1 i77 v69 := ⟨_, rfl⟩
                        rw [← ewt80] at et80
                        have hwt80 : t80 (cnt + 1) = some (.inl (20, wt80)) := by rw [et80]; exact pm_up_same _ _ _
                        have hwt79_t80 : t80 cnt = some (.inl (20, wt79)) := by rw [et80, pm_up_ne _ _ (by omega)]; exact hwt79
                        have ot80 : ∀ j : Nat, j < cnt → t80 j = σ j := fun j hj => by rw [et80, pm_up_ne _ _ (by omega)]; exact ot79 j hj
                        refine pm_iincX (v := nI (j62_5 + 1)) (loc' := [some (.ref (B + 54)), some (.int za), some (.int (nI k6)), some (.ref (B + cnt)), some (.ref (B + (cnt + 1))), some (.int (nI (j62_5 + 1))), some (.int (nI i62)), some (.int v69), some (.int (nI i77))]) hG dX12_heir_198 rfl (nI_1 _) (by decide) (pm_c1b rfl) rfl ?_
                        refine pm_iincX (v := nI (i62 + 1)) (loc' := [some (.ref (B + 54)), some (.int za), some (.int (nI k6)), some (.ref (B + cnt)), some (.ref (B + (cnt + 1))), some (.int (nI (j62_5 + 1))), some (.int (nI (i62 + 1))), some (.int v69), some (.int (nI i77))]) hG dX12_heir_201 rfl (nI_1 _) (by decide) (pm_c1b rfl) rfl ?_
                        refine pm_goto (tgt := 47) hG dX12_heir_204 rfl ?_
                        refine pm_fg 7 (loc' := [some (.ref (B + 54)), some (.int za), some (.int (nI k6)), some (.ref (B + cnt)), some (.ref (B + (cnt + 1))), some (.int (nI (j62_5 + 1))), some (.int (nI (i62 + 1))), none, some (.int (nI i77))]) rfl ?_
                        refine pm_fg 8 (loc' := [some (.ref (B + 54)), some (.int za), some (.int (nI k6)), some (.ref (B + cnt)), some (.ref (B + (cnt + 1))), some (.int (nI (j62_5 + 1))), some (.int (nI (i62 + 1))), none, none]) rfl ?_
                        exact ih62 I77 A77 (j62_5 + 1) (i62 + 1) t80 wt79 wt80 (by omega) (by omega) (by omega) hwt79_t80 vwt79 hwt80 ot80 (by omega) (by omega)
                      · refine pm_aloadi hG dX12_heir_112 rfl ?_
                        refine pm_iloadi hG dX12_heir_114 rfl ?_
                        refine pm_iconst (v := nI 1) hG dX12_heir_116 (by decide) ?_
                        obtain ⟨q81, hq81⟩ : ∃ q81 : Nat, i77 = 1 + q81 := ⟨i77 - (1), by omega⟩
                        refine pm_isubN (c := q81) hG dX12_heir_117 (by omega) ?_
                        refine pm_ialdN hG dX12_heir_118 (pm_mid_hi (by omega) hw77_1) (by decide) (by omega) ?_
                        refine pm_any (fun x82 => ?_)
                        refine pm_iloadi hG dX12_heir_119 rfl ?_
                        refine pm_icmp_gt (tgt := 157) hG dX12_heir_121 rfl (fun c83 => ?_) (fun c83 => ?_)
                        · refine pm_aloadn hG dX12_heir_157 rfl ?_
                          refine pm_iloadi hG dX12_heir_158 rfl ?_
                          refine pm_aloadn hG dX12_heir_160 rfl ?_
                          refine pm_iloadi hG dX12_heir_161 rfl ?_
                          refine pm_iconst (v := nI 1) hG dX12_heir_163 (by decide) ?_
                          obtain ⟨q84, hq84⟩ : ∃ q84 : Nat, i77 = 1 + q84 := ⟨i77 - (1), by omega⟩
                          refine pm_isubN (c := q84) hG dX12_heir_164 (by omega) ?_
                          refine pm_ialdN hG dX12_heir_165 (pm_mid_hi (by omega) hw77_0) (by decide) (by omega) ?_
                          obtain ⟨k85, hk85, ek85⟩ := vw77_0 q84
                          refine pm_top (v := nI k85) ek85 ?_
                          refine pm_iastN hG dX12_heir_166 (pm_mid_hi (by omega) hw77_0) (by decide) (by omega) ?_
                          refine pm_nrw (by omega) ?_
                          refine pm_genB (fun t86 et86 => ?_)
                          obtain ⟨wt86, ewt86⟩ : ∃ f : Nat → Int32, f = upd w77_0 i77 (nI k85) := ⟨_, rfl⟩
                          rw [← ewt86] at et86
                          have hwt86 : t86 cnt = some (.inl (20, wt86)) := by rw [et86]; exact pm_up_same _ _ _
                          have vwt86 : WH wt86 := WH.w ewt86 vw77_0 (by omega : k85 < 20)
                          have hw77_1_t86 : t86 (cnt + 1) = some (.inl (20, w77_1)) := by rw [et86, pm_up_ne _ _ (by omega)]; exact hw77_1
                          have ot86 : ∀ j : Nat, j < cnt → t86 j = σ j := fun j hj => by rw [et86, pm_up_ne _ _ (by omega)]; exact ot77L j hj
                          refine pm_aloadi hG dX12_heir_167 rfl ?_
                          refine pm_iloadi hG dX12_heir_169 rfl ?_
                          refine pm_aloadi hG dX12_heir_171 rfl ?_
                          refine pm_iloadi hG dX12_heir_173 rfl ?_
                          refine pm_iconst (v := nI 1) hG dX12_heir_175 (by decide) ?_
                          obtain ⟨q87, hq87⟩ : ∃ q87 : Nat, i77 = 1 + q87 := ⟨i77 - (1), by omega⟩
                          refine pm_isubN (c := q87) hG dX12_heir_176 (by omega) ?_
                          refine pm_ialdN hG dX12_heir_177 (pm_mid_hi (by omega) hw77_1_t86) (by decide) (by omega) ?_
                          refine pm_any (fun x88 => ?_)
                          refine pm_iastN hG dX12_heir_178 (pm_mid_hi (by omega) hw77_1_t86) (by decide) (by omega) ?_
                          refine pm_nrw (by omega) ?_
                          refine pm_genB (fun t89 et89 => ?_)
                          obtain ⟨wt89, ewt89⟩ : ∃ f : Nat → Int32, f = upd w77_1 i77 x88 := ⟨_, rfl⟩
                          rw [← ewt89] at et89
                          have hwt89 : t89 (cnt + 1) = some (.inl (20, wt89)) := by rw [et89]; exact pm_up_same _ _ _
                          have hwt86_t89 : t89 cnt = some (.inl (20, wt86)) := by rw [et89, pm_up_ne _ _ (by omega)]; exact hwt86
                          have ot89 : ∀ j : Nat, j < cnt → t89 j = σ j := fun j hj => by rw [et89, pm_up_ne _ _ (by omega)]; exact ot86 j hj
                          obtain ⟨q90, hq90⟩ : ∃ q90 : Nat, i77 = q90 + 1 := ⟨i77 - 1, by omega⟩
                          refine pm_iincX (v := nI q90) (loc' := [some (.ref (B + 54)), some (.int za), some (.int (nI k6)), some (.ref (B + cnt)), some (.ref (B + (cnt + 1))), some (.int (nI j62_5)), some (.int (nI i62)), some (.int v69), some (.int (nI q90))]) hG dX12_heir_179 rfl (by rw [hq90]; exact pk_m1 q90) (by decide) (pm_c1b rfl) rfl ?_
                          refine pm_goto (tgt := 107) hG dX12_heir_182 rfl ?_
                          exact ih77 I77 A77 q90 t89 wt86 wt89 (by omega) hwt86_t89 vwt86 hwt89 ot89 (by omega) (by omega)
                        · refine pm_aloadi hG dX12_heir_124 rfl ?_
                          refine pm_iloadi hG dX12_heir_126 rfl ?_
                          refine pm_iconst (v := nI 1) hG dX12_heir_128 (by decide) ?_
                          obtain ⟨q91, hq91⟩ : ∃ q91 : Nat, i77 = 1 + q91 := ⟨i77 - (1), by omega⟩
                          refine pm_isubN (c := q91) hG dX12_heir_129 (by omega) ?_
                          refine pm_ialdN hG dX12_heir_130 (pm_mid_hi (by omega) hw77_1) (by decide) (by omega) ?_
                          refine pm_any (fun x92 => ?_)
                          refine pm_iloadi hG dX12_heir_131 rfl ?_
                          refine pm_icmp_ne (tgt := 185) hG dX12_heir_133 rfl (fun c93 => ?_) (fun c93 => ?_)
                          · refine pm_aloadn hG dX12_heir_185 rfl ?_
                            refine pm_iloadi hG dX12_heir_186 rfl ?_
                            refine pm_iloadi hG dX12_heir_188 rfl ?_
                            refine pm_iastN hG dX12_heir_190 (pm_mid_hi (by omega) hw77_0) (by decide) (by omega) ?_
                            refine pm_nrw (by omega) ?_
                            refine pm_genB (fun t94 et94 => ?_)
                            obtain ⟨wt94, ewt94⟩ : ∃ f : Nat → Int32, f = upd w77_0 i77 (nI i62) := ⟨_, rfl⟩
                            rw [← ewt94] at et94
                            have hwt94 : t94 cnt = some (.inl (20, wt94)) := by rw [et94]; exact pm_up_same _ _ _
                            have vwt94 : WH wt94 := WH.w ewt94 vw77_0 (by omega : i62 < 20)
                            have hw77_1_t94 : t94 (cnt + 1) = some (.inl (20, w77_1)) := by rw [et94, pm_up_ne _ _ (by omega)]; exact hw77_1
                            have ot94 : ∀ j : Nat, j < cnt → t94 j = σ j := fun j hj => by rw [et94, pm_up_ne _ _ (by omega)]; exact ot77L j hj
                            refine pm_aloadi hG dX12_heir_191 rfl ?_
                            refine pm_iloadi hG dX12_heir_193 rfl ?_
                            refine pm_iloadi hG dX12_heir_195 rfl ?_
                            refine pm_iastN hG dX12_heir_197 (pm_mid_hi (by omega) hw77_1_t94) (by decide) (by omega) ?_
                            refine pm_nrw (by omega) ?_
                            refine pm_genB (fun t95 et95 => ?_)
                            obtain ⟨wt95, ewt95⟩ : ∃ f : Nat → Int32, f = upd w77_1 i77 v69 := ⟨_, rfl⟩
                            rw [← ewt95] at et95
                            have hwt95 : t95 (cnt + 1) = some (.inl (20, wt95)) := by rw [et95]; exact pm_up_same _ _ _
                            have hwt94_t95 : t95 cnt = some (.inl (20, wt94)) := by rw [et95, pm_up_ne _ _ (by omega)]; exact hwt94
                            have ot95 : ∀ j : Nat, j < cnt → t95 j = σ j := fun j hj => by rw [et95, pm_up_ne _ _ (by omega)]; exact ot94 j hj
                            refine pm_iincX (v := nI (j62_5 + 1)) (loc' := [some (.ref (B + 54)), some (.int za), some (.int (nI k6)), some (.ref (B + cnt)), some (.ref (B + (cnt + 1))), some (.int (nI (j62_5 + 1))), some (.int (nI i62)), some (.int v69), some (.int (nI i77))]) hG dX12_heir_198 rfl (nI_1 _) (by decide) (pm_c1b rfl) rfl ?_
                            refine pm_iincX (v := nI (i62 + 1)) (loc' := [some (.ref (B + 54)), some (.int za), some (.int (nI k6)), some (.ref (B + cnt)), some (.ref (B + (cnt + 1))), some (.int (nI (j62_5 + 1))), some (.int (nI (i62 + 1))), some (.int v69), some (.int (nI i77))]) hG dX12_heir_201 rfl (nI_1 _) (by decide) (pm_c1b rfl) rfl ?_
                            refine pm_goto (tgt := 47) hG dX12_heir_204 rfl ?_
                            refine pm_fg 7 (loc' := [some (.ref (B + 54)), some (.int za), some (.int (nI k6)), some (.ref (B + cnt)), some (.ref (B + (cnt + 1))), some (.int (nI (j62_5 + 1))), some (.int (nI (i62 + 1))), none, some (.int (nI i77))]) rfl ?_
                            refine pm_fg 8 (loc' := [some (.ref (B + 54)), some (.int za), some (.int (nI k6)), some (.ref (B + cnt)), some (.ref (B + (cnt + 1))), some (.int (nI (j62_5 + 1))), some (.int (nI (i62 + 1))), none, none]) rfl ?_
                            exact ih62 I77 A77 (j62_5 + 1) (i62 + 1) t95 wt94 wt95 (by omega) (by omega) (by omega) hwt94_t95 vwt94 hwt95 ot95 (by omega) (by omega)
                          · refine pm_aloadn hG dX12_heir_136 rfl ?_
                            refine pm_aloadn hG dX12_heir_137 rfl ?_
                            refine pm_iloadi hG dX12_heir_138 rfl ?_
                            refine pm_iconst (v := nI 1) hG dX12_heir_140 (by decide) ?_
                            obtain ⟨q96, hq96⟩ : ∃ q96 : Nat, i77 = 1 + q96 := ⟨i77 - (1), by omega⟩
                            refine pm_isubN (c := q96) hG dX12_heir_141 (by omega) ?_
                            refine pm_ialdN hG dX12_heir_142 (pm_mid_hi (by omega) hw77_0) (by decide) (by omega) ?_
                            obtain ⟨k97, hk97, ek97⟩ := vw77_0 q96
                            refine pm_top (v := nI k97) ek97 ?_
                            refine pm_iconst (v := nI 1) hG dX12_heir_143 (by decide) ?_
                            refine pm_callV (As := [.int (nI k97), .int (nI 1)]) (rest := []) hG hR dX12_heir_144 (lkX12_72 _ rfl) okV_X12_man rfl rfl (m_man (d := 3) (e := 14 * k97 + 111) (by omega) (by omega) (by omega)) rfl rfl hdd (by decide) (by decide) (by decide) (pm_ki (fun v98 σ' cnt' hq => ?_))
                            obtain ⟨rfl, rfl, rfl⟩ := hq
                            refine pm_gen (fun x99 ex99 => ?_)
                            refine pm_aloadn hG dX12_heir_147 rfl ?_
                            refine pm_iloadi hG dX12_heir_148 rfl ?_
                            refine pm_iconst (v := nI 1) hG dX12_heir_150 (by decide) ?_
                            refine pm_callV (As := [.int (nI i62), .int (nI 1)]) (rest := [.int x99]) hG hR dX12_heir_151 (lkX12_72 _ rfl) okV_X12_man rfl rfl (m_man (d := 3) (e := 14 * i62 + 111) (by omega) (by omega) (by omega)) rfl rfl hdd (by decide) (by decide) (Nat.le_of_ble_eq_true rfl) (pm_ki (fun v100 σ' cnt' hq => ?_))
                            obtain ⟨rfl, rfl, rfl⟩ := hq
                            refine pm_gen (fun x101 ex101 => ?_)
                            refine pm_icmp_le (tgt := 185) hG dX12_heir_154 rfl (fun c102 => ?_) (fun c102 => ?_)
                            · refine pm_aloadn hG dX12_heir_185 rfl ?_
                              refine pm_iloadi hG dX12_heir_186 rfl ?_
                              refine pm_iloadi hG dX12_heir_188 rfl ?_
                              refine pm_iastN hG dX12_heir_190 (pm_mid_hi (by omega) hw77_0) (by decide) (by omega) ?_
                              refine pm_nrw (by omega) ?_
                              refine pm_genB (fun t103 et103 => ?_)
                              obtain ⟨wt103, ewt103⟩ : ∃ f : Nat → Int32, f = upd w77_0 i77 (nI i62) := ⟨_, rfl⟩
                              rw [← ewt103] at et103
                              have hwt103 : t103 cnt = some (.inl (20, wt103)) := by rw [et103]; exact pm_up_same _ _ _
                              have vwt103 : WH wt103 := WH.w ewt103 vw77_0 (by omega : i62 < 20)
                              have hw77_1_t103 : t103 (cnt + 1) = some (.inl (20, w77_1)) := by rw [et103, pm_up_ne _ _ (by omega)]; exact hw77_1
                              have ot103 : ∀ j : Nat, j < cnt → t103 j = σ j := fun j hj => by rw [et103, pm_up_ne _ _ (by omega)]; exact ot77L j hj
                              refine pm_aloadi hG dX12_heir_191 rfl ?_
                              refine pm_iloadi hG dX12_heir_193 rfl ?_
                              refine pm_iloadi hG dX12_heir_195 rfl ?_
                              refine pm_iastN hG dX12_heir_197 (pm_mid_hi (by omega) hw77_1_t103) (by decide) (by omega) ?_
                              refine pm_nrw (by omega) ?_
                              refine pm_genB (fun t104 et104 => ?_)
                              obtain ⟨wt104, ewt104⟩ : ∃ f : Nat → Int32, f = upd w77_1 i77 v69 := ⟨_, rfl⟩
                              rw [← ewt104] at et104
                              have hwt104 : t104 (cnt + 1) = some (.inl (20, wt104)) := by rw [et104]; exact pm_up_same _ _ _
                              have hwt103_t104 : t104 cnt = some (.inl (20, wt103)) := by rw [et104, pm_up_ne _ _ (by omega)]; exact hwt103
                              have ot104 : ∀ j : Nat, j < cnt → t104 j = σ j := fun j hj => by rw [et104, pm_up_ne _ _ (by omega)]; exact ot103 j hj
                              refine pm_iincX (v := nI (j62_5 + 1)) (loc' := [some (.ref (B + 54)), some (.int za), some (.int (nI k6)), some (.ref (B + cnt)), some (.ref (B + (cnt + 1))), some (.int (nI (j62_5 + 1))), some (.int (nI i62)), some (.int v69), some (.int (nI i77))]) hG dX12_heir_198 rfl (nI_1 _) (by decide) (pm_c1b rfl) rfl ?_
                              refine pm_iincX (v := nI (i62 + 1)) (loc' := [some (.ref (B + 54)), some (.int za), some (.int (nI k6)), some (.ref (B + cnt)), some (.ref (B + (cnt + 1))), some (.int (nI (j62_5 + 1))), some (.int (nI (i62 + 1))), some (.int v69), some (.int (nI i77))]) hG dX12_heir_201 rfl (nI_1 _) (by decide) (pm_c1b rfl) rfl ?_
                              refine pm_goto (tgt := 47) hG dX12_heir_204 rfl ?_
                              refine pm_fg 7 (loc' := [some (.ref (B + 54)), some (.int za), some (.int (nI k6)), some (.ref (B + cnt)), some (.ref (B + (cnt + 1))), some (.int (nI (j62_5 + 1))), some (.int (nI (i62 + 1))), none, some (.int (nI i77))]) rfl ?_
                              refine pm_fg 8 (loc' := [some (.ref (B + 54)), some (.int za), some (.int (nI k6)), some (.ref (B + cnt)), some (.ref (B + (cnt + 1))), some (.int (nI (j62_5 + 1))), some (.int (nI (i62 + 1))), none, none]) rfl ?_
                              exact ih62 I77 A77 (j62_5 + 1) (i62 + 1) t104 wt103 wt104 (by omega) (by omega) (by omega) hwt103_t104 vwt103 hwt104 ot104 (by omega) (by omega)
                            · refine pm_aloadn hG dX12_heir_157 rfl ?_
                              refine pm_iloadi hG dX12_heir_158 rfl ?_
                              refine pm_aloadn hG dX12_heir_160 rfl ?_
                              refine pm_iloadi hG dX12_heir_161 rfl ?_
                              refine pm_iconst (v := nI 1) hG dX12_heir_163 (by decide) ?_
                              obtain ⟨q105, hq105⟩ : ∃ q105 : Nat, i77 = 1 + q105 := ⟨i77 - (1), by omega⟩
                              refine pm_isubN (c := q105) hG dX12_heir_164 (by omega) ?_
                              refine pm_ialdN hG dX12_heir_165 (pm_mid_hi (by omega) hw77_0) (by decide) (by omega) ?_
                              obtain ⟨k106, hk106, ek106⟩ := vw77_0 q105
                              refine pm_top (v := nI k106) ek106 ?_
                              refine pm_iastN hG dX12_heir_166 (pm_mid_hi (by omega) hw77_0) (by decide) (by omega) ?_
                              refine pm_nrw (by omega) ?_
                              refine pm_genB (fun t107 et107 => ?_)
                              obtain ⟨wt107, ewt107⟩ : ∃ f : Nat → Int32, f = upd w77_0 i77 (nI k106) := ⟨_, rfl⟩
                              rw [← ewt107] at et107
                              have hwt107 : t107 cnt = some (.inl (20, wt107)) := by rw [et107]; exact pm_up_same _ _ _
                              have vwt107 : WH wt107 := WH.w ewt107 vw77_0 (by omega : k106 < 20)
                              have hw77_1_t107 : t107 (cnt + 1) = some (.inl (20, w77_1)) := by rw [et107, pm_up_ne _ _ (by omega)]; exact hw77_1
                              have ot107 : ∀ j : Nat, j < cnt → t107 j = σ j := fun j hj => by rw [et107, pm_up_ne _ _ (by omega)]; exact ot77L j hj
                              refine pm_aloadi hG dX12_heir_167 rfl ?_
                              refine pm_iloadi hG dX12_heir_169 rfl ?_
                              refine pm_aloadi hG dX12_heir_171 rfl ?_
                              refine pm_iloadi hG dX12_heir_173 rfl ?_
                              refine pm_iconst (v := nI 1) hG dX12_heir_175 (by decide) ?_
                              obtain ⟨q108, hq108⟩ : ∃ q108 : Nat, i77 = 1 + q108 := ⟨i77 - (1), by omega⟩
                              refine pm_isubN (c := q108) hG dX12_heir_176 (by omega) ?_
                              refine pm_ialdN hG dX12_heir_177 (pm_mid_hi (by omega) hw77_1_t107) (by decide) (by omega) ?_
                              refine pm_any (fun x109 => ?_)
                              refine pm_iastN hG dX12_heir_178 (pm_mid_hi (by omega) hw77_1_t107) (by decide) (by omega) ?_
                              refine pm_nrw (by omega) ?_
                              refine pm_genB (fun t110 et110 => ?_)
                              obtain ⟨wt110, ewt110⟩ : ∃ f : Nat → Int32, f = upd w77_1 i77 x109 := ⟨_, rfl⟩
                              rw [← ewt110] at et110
                              have hwt110 : t110 (cnt + 1) = some (.inl (20, wt110)) := by rw [et110]; exact pm_up_same _ _ _
                              have hwt107_t110 : t110 cnt = some (.inl (20, wt107)) := by rw [et110, pm_up_ne _ _ (by omega)]; exact hwt107
                              have ot110 : ∀ j : Nat, j < cnt → t110 j = σ j := fun j hj => by rw [et110, pm_up_ne _ _ (by omega)]; exact ot107 j hj
                              obtain ⟨q111, hq111⟩ : ∃ q111 : Nat, i77 = q111 + 1 := ⟨i77 - 1, by omega⟩
                              refine pm_iincX (v := nI q111) (loc' := [some (.ref (B + 54)), some (.int za), some (.int (nI k6)), some (.ref (B + cnt)), some (.ref (B + (cnt + 1))), some (.int (nI j62_5)), some (.int (nI i62)), some (.int v69), some (.int (nI q111))]) hG dX12_heir_179 rfl (by rw [hq111]; exact pk_m1 q111) (by decide) (pm_c1b rfl) rfl ?_
                              refine pm_goto (tgt := 107) hG dX12_heir_182 rfl ?_
                              exact ih77 I77 A77 q111 t110 wt107 wt110 (by omega) hwt107_t110 vwt107 hwt110 ot110 (by omega) (by omega)
                  exact loop107_77 _ I75 A75 j62_5 t62L w62_0 w62_1 (by omega) hw62_0 vw62_0 hw62_1 ot62L (by omega) (Nat.lt_succ_self _)
                · refine pm_goto (tgt := 201) hG dX12_heir_100 rfl ?_
                  refine pm_iincX (v := nI (i62 + 1)) (loc' := [some (.ref (B + 54)), some (.int za), some (.int (nI k6)), some (.ref (B + cnt)), some (.ref (B + (cnt + 1))), some (.int (nI j62_5)), some (.int (nI (i62 + 1))), some (.int v69), none]) hG dX12_heir_201 rfl (nI_1 _) (by decide) (pm_c1b rfl) rfl ?_
                  refine pm_goto (tgt := 47) hG dX12_heir_204 rfl ?_
                  refine pm_fg 7 (loc' := [some (.ref (B + 54)), some (.int za), some (.int (nI k6)), some (.ref (B + cnt)), some (.ref (B + (cnt + 1))), some (.int (nI j62_5)), some (.int (nI (i62 + 1))), none, none]) rfl ?_
                  exact ih62 I75 A75 j62_5 (i62 + 1) t62L w62_0 w62_1 (by omega) (by omega) (by omega) hw62_0 vw62_0 hw62_1 ot62L (by omega) (by omega)
            · refine pm_callV (As := [.int (nI i62)]) (rest := []) hG hR dX12_heir_69 (lkX12_101 _ rfl) okV_X12_lives rfl rfl (m_lives0 (d := 3) (by decide) (by omega) (by omega : 14 * i62 + 119 = 14 * i62 + 119) ek71 (by omega)) rfl rfl hdd (by decide) (by decide) (by decide) (pm_ki (fun v112 σ' cnt' hq => ?_))
              obtain ⟨rfl, rfl, rfl⟩ := hq
              refine pm_ifN_eq (tgt := 201) hG dX12_heir_72 rfl (by omega) (fun _ => ?_) (fun q => absurd q (by omega))
              refine pm_iincX (v := nI (i62 + 1)) (loc' := [some (.ref (B + 54)), some (.int za), some (.int (nI k6)), some (.ref (B + cnt)), some (.ref (B + (cnt + 1))), some (.int (nI j62_5)), some (.int (nI (i62 + 1))), some (.int v69), none]) hG dX12_heir_201 rfl (nI_1 _) (by decide) (pm_c1b rfl) rfl ?_
              refine pm_goto (tgt := 47) hG dX12_heir_204 rfl ?_
              refine pm_fg 7 (loc' := [some (.ref (B + 54)), some (.int za), some (.int (nI k6)), some (.ref (B + cnt)), some (.ref (B + (cnt + 1))), some (.int (nI j62_5)), some (.int (nI (i62 + 1))), none, none]) rfl ?_
              exact ih62 I70 A70 j62_5 (i62 + 1) t62L w62_0 w62_1 (by omega) (by omega) (by omega) hw62_0 vw62_0 hw62_1 ot62L (by omega) (by omega)
      exact loop47_62 _ I A 0 1 t61 wt60 wt61 (by omega) (by omega) (by omega) hwt60_t61 vwt60 hwt61 ot61 (by omega) (Nat.lt_succ_self _)
  · refine pm_aloadn hG dX12_heir_4 rfl ?_
    refine pm_iconst (v := nI 1) hG dX12_heir_5 (by decide) ?_
    refine pm_callV (As := [.int (nI 1)]) (rest := []) hG hR dX12_heir_6 (lkX12_80 _ rfl) okV_X12_finds rfl rfl (m_finds (d := 3) (by decide) hn hz (by omega)) rfl rfl hdd (by decide) (by decide) (by decide) (pm_ki (fun v113 σ' cnt' hq => ?_))
    obtain ⟨⟨I114, A114, rfl⟩, rfl, fv113⟩ := hq
    exact pm_iret hG hF dX12_heir_9 rfl (by decide) (by decide) ⟨_, rfl, ⟨_, _, _, rfl, fun _ _ => rfl⟩, by omega⟩
