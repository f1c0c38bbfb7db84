set_option maxRecDepth 100000 in
set_option maxHeartbeats 4000000 in
theorem m_road {d B cnt p0 t0 : Nat} {σ : pm_S} {I : Nat → Int32} {A : Nat → Nat → Int32} {n k z : Nat → Int32} {ac wt pl im : Int32} {y : Nat → Int32} {za zb zc : Int32} (hdd : 2 ≤ d) (hn : KI n) (hr : NR n) (hz : SZ z)  : pm_met mX12_road d 0 0 B [.ref (B + 54), .int za, .int zb, .int zc] cnt (pm_mid σ (md_L B I A n k z ac wt pl (nI p0) (nI t0) im y)) (pm_Qi (fun v σ' cnt' => (∃ (I' : Nat → Int32) (A' : Nat → Nat → Int32) (n' : Nat → Int32), σ' = pm_mid σ (md_L B I' A' n' k z ac wt pl (nI p0) (nI t0) im y) ∧ KI n' ∧ NR n') ∧ cnt = cnt')) := by
  refine pm_enter 1 (by decide) (Nat.le_of_ble_eq_true rfl) rfl (fun G hG hR hF => ?_)
  refine pm_aloadn hG dX12_road_0 rfl ?_
  refine pm_iloadn hG dX12_road_1 rfl ?_
  obtain ⟨k1, hk1, ek1⟩ := KI.nat hn (show kd 0 = (1, 11, true) by decide)
  refine pm_callV (As := [.int za]) (rest := []) hG hR dX12_road_2 (lkX12_84 _ rfl) okV_X12_isTown rfl rfl (m_isTown (d := 1) (by decide) ek1 (by omega)) rfl rfl hdd (Nat.le_refl _) (Nat.le_refl _) (by decide) (pm_ki (fun v2 σ' cnt' hq => ?_))
  obtain ⟨hq, rfl, rfl⟩ := hq
  rcases hq with ⟨rfl, k4, hk4, ek4⟩ | rfl
  · refine pm_ifN_eq (tgt := 31) hG dX12_road_5 rfl (by omega) (fun q => absurd q (by omega)) (fun _ => ?_)
    refine pm_aloadn hG dX12_road_8 rfl ?_
    refine pm_iloadn hG dX12_road_9 rfl ?_
    refine pm_callV (As := [.int zb]) (rest := []) hG hR dX12_road_10 (lkX12_84 _ rfl) okV_X12_isTown rfl rfl (m_isTown (d := 1) (by decide) ek1 (by omega)) rfl rfl hdd (Nat.le_refl _) (Nat.le_refl _) (by decide) (pm_ki (fun v5 σ' cnt' hq => ?_))
    obtain ⟨hq, rfl, rfl⟩ := hq
    rcases hq with ⟨rfl, k7, hk7, ek7⟩ | rfl
    · refine pm_ifN_eq (tgt := 31) hG dX12_road_13 rfl (by omega) (fun q => absurd q (by omega)) (fun _ => ?_)
      refine pm_iloadn hG dX12_road_16 rfl ?_
      refine pm_top (v := nI k4) ek4 ?_
      refine pm_iloadn hG dX12_road_17 rfl ?_
      refine pm_top (v := nI k7) ek7 ?_
      refine pm_icmpN_eq (tgt := 31) hG dX12_road_18 rfl (by omega) (by omega) (fun c8 => ?_) (fun c8 => ?_)
      · refine pm_aloadn hG dX12_road_31 rfl ?_
        refine pm_iconst (v := nI 1) hG dX12_road_32 (by decide) ?_
        refine pm_callV (As := [.int (nI 1)]) (rest := []) hG hR dX12_road_33 (lkX12_80 _ rfl) okV_X12_finds rfl rfl (m_finds (d := 1) (by decide) hn hz (by omega)) rfl rfl hdd (Nat.le_refl _) (Nat.le_refl _) (by decide) (pm_ki (fun v9 σ' cnt' hq => ?_))
        obtain ⟨⟨I10, A10, rfl⟩, rfl, fv9⟩ := hq
        exact pm_iret hG hF dX12_road_36 rfl (Nat.le_refl _) (Nat.le_refl _) ⟨_, rfl, ⟨_, _, _, rfl, hn, hr⟩, rfl⟩
      · refine pm_iloadn hG dX12_road_21 rfl ?_
        refine pm_iconst (v := nI 1) hG dX12_road_22 (by decide) ?_
        refine pm_bipush (v := nI 9) hG dX12_road_23 (by decide) ?_
        refine pm_callS (As := [.int zc, .int (nI 1), .int (nI 9)]) (rest := []) hG hR dX12_road_25 (lkX12_68 _ rfl) okS_X12_in (m_in (d := 1)) rfl rfl hdd (Nat.le_refl _) (Nat.le_refl _) (by decide) (pm_ki (fun v11 σ' cnt' hq => ?_))
        obtain ⟨hq, rfl, rfl⟩ := hq
        rcases hq with ⟨rfl, ac12, bc12⟩ | ⟨rfl, c12⟩
        · obtain ⟨k13, hk13, ek13⟩ := in_nat (by omega) (by omega) ac12 bc12
          refine pm_ifN_ne (tgt := 37) hG dX12_road_28 rfl (by omega) (fun _ => ?_) (fun q => absurd q (by omega))
          refine pm_aloadn hG dX12_road_37 rfl ?_
          refine pm_getf hG dX12_road_38 (flX12_7 _ rfl) rfl rfl ?_
          refine pm_iconst (v := nI 1) hG dX12_road_41 (by decide) ?_
          refine pm_ialdN hG dX12_road_42 rfl (by decide) (by omega) ?_
          obtain ⟨k14, hk14, ek14⟩ := KI.nat hn (show kd 1 = (1, 21, false) by decide)
          refine pm_top (v := nI k14) ek14 ?_
          refine pm_istoreXi (loc' := [some (.ref (B + 54)), some (.int za), some (.int zb), some (.int zc), some (.int (nI k14))]) hG dX12_road_43 (by decide) (pm_c1b rfl) rfl ?_
          refine pm_iloadi hG dX12_road_45 rfl ?_
          refine pm_bipush (v := nI 20) hG dX12_road_47 (by decide) ?_
          refine pm_icmpN_ne (tgt := 58) hG dX12_road_49 rfl (by omega) (by omega) (fun c15 => ?_) (fun c15 => ?_)
          · refine pm_aloadn hG dX12_road_58 rfl ?_
            refine pm_getf hG dX12_road_59 (flX12_7 _ rfl) rfl rfl ?_
            refine pm_iconst (v := nI 1) hG dX12_road_62 (by decide) ?_
            refine pm_dup2 hG dX12_road_63 rfl rfl ?_
            refine pm_ialdN hG dX12_road_64 rfl (by decide) (by omega) ?_
            refine pm_top (v := nI k14) ek14 ?_
            refine pm_iconst (v := nI 1) hG dX12_road_65 (by decide) ?_
            refine pm_iaddN (c := k14 + 1) hG dX12_road_66 (by omega) ?_
            refine pm_iastN hG dX12_road_67 rfl (by decide) (by omega) ?_
            refine mdn_now (fun n_16 en_16 => ?_)
            have hnn_16 := KI.w en_16 hn (okv_n (show kd 1 = (1, 21, false) by decide) (by omega))
            have hrn_16 := NRx.w en_16 hr (by rw [(show kd 1 = (1, 21, false) by decide)])
            have e17 : n_16 0 = nI k1 := by rw [en_16, pk_un (by omega)]; exact ek1
            have e18 : n_16 1 = nI (k14 + 1) := by rw [en_16, pk_us]
            refine pm_aloadn hG dX12_road_68 rfl ?_
            refine pm_getf hG dX12_road_69 (flX12_7 _ rfl) rfl rfl ?_
            refine pm_bipush (v := nI 50) hG dX12_road_72 (by decide) ?_
            refine pm_iconst (v := nI 3) hG dX12_road_74 (by decide) ?_
            refine pm_iloadi hG dX12_road_75 rfl ?_
            refine pm_imulN (c := 3 * k14) hG dX12_road_77 (by omega) ?_
            refine pm_iaddN (c := 3 * k14 + 50) hG dX12_road_78 (by omega) ?_
            refine pm_iloadn hG dX12_road_79 rfl ?_
            refine pm_top (v := nI k4) ek4 ?_
            refine pm_iastN hG dX12_road_80 rfl (by decide) (by omega) ?_
            refine mdn_now (fun n_19 en_19 => ?_)
            have hnn_19 := KI.w en_19 hnn_16 (okv_n (show kd (3 * k14 + 50) = (1, 10, false) from (kd_R (k := k14) (c := 0) (by omega) (by omega) (by decide))) (by omega))
            have hrn_19 := NRx.w en_19 hrn_16 (by rw [(show kd (3 * k14 + 50) = (1, 10, false) from (kd_R (k := k14) (c := 0) (by omega) (by omega) (by decide)))])
            have e20 : n_19 0 = nI k1 := by rw [en_19, pk_un (by omega)]; exact e17
            have e21 : n_19 1 = nI (k14 + 1) := by rw [en_19, pk_un (by omega)]; exact e18
            have e22 : n_19 (3 * k14 + 50) = nI k4 := by rw [en_19, pk_us]
            refine pm_aloadn hG dX12_road_81 rfl ?_
            refine pm_getf hG dX12_road_82 (flX12_7 _ rfl) rfl rfl ?_
            refine pm_bipush (v := nI 50) hG dX12_road_85 (by decide) ?_
            refine pm_iconst (v := nI 3) hG dX12_road_87 (by decide) ?_
            refine pm_iloadi hG dX12_road_88 rfl ?_
            refine pm_imulN (c := 3 * k14) hG dX12_road_90 (by omega) ?_
            refine pm_iaddN (c := 3 * k14 + 50) hG dX12_road_91 (by omega) ?_
            refine pm_iconst (v := nI 1) hG dX12_road_92 (by decide) ?_
            refine pm_iaddN (c := 3 * k14 + 51) hG dX12_road_93 (by omega) ?_
            refine pm_iloadn hG dX12_road_94 rfl ?_
            refine pm_top (v := nI k7) ek7 ?_
            refine pm_iastN hG dX12_road_95 rfl (by decide) (by omega) ?_
            refine mdn_now (fun n_23 en_23 => ?_)
            have hnn_23 := KI.w en_23 hnn_19 (okv_n (show kd (3 * k14 + 51) = (1, 10, false) from (kd_R (k := k14) (c := 1) (by omega) (by omega) (by decide))) (by omega))
            have hrn_23 := NRx.w en_23 hrn_19 (by rw [(show kd (3 * k14 + 51) = (1, 10, false) from (kd_R (k := k14) (c := 1) (by omega) (by omega) (by decide)))])
            have e24 : n_23 0 = nI k1 := by rw [en_23, pk_un (by omega)]; exact e20
            have e25 : n_23 1 = nI (k14 + 1) := by rw [en_23, pk_un (by omega)]; exact e21
            have e26 : n_23 (3 * k14 + 50) = nI k4 := by rw [en_23, pk_un (by omega)]; exact e22
            have e27 : n_23 (3 * k14 + 51) = nI k7 := by rw [en_23, pk_us]
            refine pm_aloadn hG dX12_road_96 rfl ?_
            refine pm_getf hG dX12_road_97 (flX12_7 _ rfl) rfl rfl ?_
            refine pm_bipush (v := nI 50) hG dX12_road_100 (by decide) ?_
            refine pm_iconst (v := nI 3) hG dX12_road_102 (by decide) ?_
            refine pm_iloadi hG dX12_road_103 rfl ?_
            refine pm_imulN (c := 3 * k14) hG dX12_road_105 (by omega) ?_
            refine pm_iaddN (c := 3 * k14 + 50) hG dX12_road_106 (by omega) ?_
            refine pm_iconst (v := nI 2) hG dX12_road_107 (by decide) ?_
            refine pm_iaddN (c := 3 * k14 + 52) hG dX12_road_108 (by omega) ?_
            refine pm_iloadn hG dX12_road_109 rfl ?_
            refine pm_top (v := nI k13) ek13 ?_
            refine pm_iastN hG dX12_road_110 rfl (by decide) (by omega) ?_
            refine mdn_now (fun n_28 en_28 => ?_)
            have hnn_28 := KI.w en_28 hnn_23 (okv_n (show kd (3 * k14 + 52) = (1, 10, false) from (kd_R (k := k14) (c := 2) (by omega) (by omega) (by decide))) (by omega))
            have hrn_28 := NRx.w en_28 hrn_23 (by rw [(show kd (3 * k14 + 52) = (1, 10, false) from (kd_R (k := k14) (c := 2) (by omega) (by omega) (by decide)))])
            have e29 : n_28 0 = nI k1 := by rw [en_28, pk_un (by omega)]; exact e24
            have e30 : n_28 1 = nI (k14 + 1) := by rw [en_28, pk_un (by omega)]; exact e25
            have e31 : n_28 (3 * k14 + 50) = nI k4 := by rw [en_28, pk_un (by omega)]; exact e26
            have e32 : n_28 (3 * k14 + 51) = nI k7 := by rw [en_28, pk_un (by omega)]; exact e27
            have e33 : n_28 (3 * k14 + 52) = nI k13 := by rw [en_28, pk_us]
            refine pm_iloadi hG dX12_road_111 rfl ?_
            refine pm_iconst (v := nI 1) hG dX12_road_113 (by decide) ?_
            refine pm_iaddN (c := k14 + 1) hG dX12_road_114 (by omega) ?_
            exact pm_iret hG hF dX12_road_115 rfl (Nat.le_refl _) (Nat.le_refl _) ⟨_, rfl, ⟨_, _, _, rfl, hnn_28, hrn_28⟩, rfl⟩
          · refine pm_aloadn hG dX12_road_52 rfl ?_
            refine pm_iconst (v := nI 4) hG dX12_road_53 (by decide) ?_
            refine pm_callV (As := [.int (nI 4)]) (rest := []) hG hR dX12_road_54 (lkX12_80 _ rfl) okV_X12_finds rfl rfl (m_finds (d := 1) (by decide) hn hz (by omega)) rfl rfl hdd (Nat.le_refl _) (Nat.le_refl _) (by decide) (pm_ki (fun v34 σ' cnt' hq => ?_))
            obtain ⟨⟨I35, A35, rfl⟩, rfl, fv34⟩ := hq
            exact pm_iret hG hF dX12_road_57 rfl (Nat.le_refl _) (Nat.le_refl _) ⟨_, rfl, ⟨_, _, _, rfl, hn, hr⟩, rfl⟩
        · refine pm_ifN_ne (tgt := 37) hG dX12_road_28 rfl (by omega) (fun q => absurd q (by omega)) (fun _ => ?_)
          refine pm_aloadn hG dX12_road_31 rfl ?_
          refine pm_iconst (v := nI 1) hG dX12_road_32 (by decide) ?_
          refine pm_callV (As := [.int (nI 1)]) (rest := []) hG hR dX12_road_33 (lkX12_80 _ rfl) okV_X12_finds rfl rfl (m_finds (d := 1) (by decide) hn hz (by omega)) rfl rfl hdd (Nat.le_refl _) (Nat.le_refl _) (by decide) (pm_ki (fun v36 σ' cnt' hq => ?_))
          obtain ⟨⟨I37, A37, rfl⟩, rfl, fv36⟩ := hq
          exact pm_iret hG hF dX12_road_36 rfl (Nat.le_refl _) (Nat.le_refl _) ⟨_, rfl, ⟨_, _, _, rfl, hn, hr⟩, rfl⟩
    · refine pm_ifN_eq (tgt := 31) hG dX12_road_13 rfl (by omega) (fun _ => ?_) (fun q => absurd q (by omega))
      refine pm_aloadn hG dX12_road_31 rfl ?_
      refine pm_iconst (v := nI 1) hG dX12_road_32 (by decide) ?_
      refine pm_callV (As := [.int (nI 1)]) (rest := []) hG hR dX12_road_33 (lkX12_80 _ rfl) okV_X12_finds rfl rfl (m_finds (d := 1) (by decide) hn hz (by omega)) rfl rfl hdd (Nat.le_refl _) (Nat.le_refl _) (by decide) (pm_ki (fun v38 σ' cnt' hq => ?_))
      obtain ⟨⟨I39, A39, rfl⟩, rfl, fv38⟩ := hq
      exact pm_iret hG hF dX12_road_36 rfl (Nat.le_refl _) (Nat.le_refl _) ⟨_, rfl, ⟨_, _, _, rfl, hn, hr⟩, rfl⟩
  · refine pm_ifN_eq (tgt := 31) hG dX12_road_5 rfl (by omega) (fun _ => ?_) (fun q => absurd q (by omega))
    refine pm_aloadn hG dX12_road_31 rfl ?_
    refine pm_iconst (v := nI 1) hG dX12_road_32 (by decide) ?_
    refine pm_callV (As := [.int (nI 1)]) (rest := []) hG hR dX12_road_33 (lkX12_80 _ rfl) okV_X12_finds rfl rfl (m_finds (d := 1) (by decide) hn hz (by omega)) rfl rfl hdd (Nat.le_refl _) (Nat.le_refl _) (by decide) (pm_ki (fun v40 σ' cnt' hq => ?_))
    obtain ⟨⟨I41, A41, rfl⟩, rfl, fv40⟩ := hq
    exact pm_iret hG hF dX12_road_36 rfl (Nat.le_refl _) (Nat.le_refl _) ⟨_, rfl, ⟨_, _, _, rfl, hn, hr⟩, rfl⟩
