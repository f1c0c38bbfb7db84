set_option maxRecDepth 100000 in
set_option maxHeartbeats 4000000 in
theorem m_far {d B cnt p0 t0 : Nat} {σ : pm_S} {I : Nat → Int32} {A : Nat → Nat → Int32} {n k z : Nat → Int32} {ac wt pl im : Int32} {za zb : Int32} (hdd : 3 ≤ d) (hn : KI n) (hz : SZ z)  : pm_met mX12_far d 0 0 B [.ref (B + 54), .int za, .int zb] cnt (pm_mid σ (md_L B I A n k z ac wt pl (nI p0) (nI t0) im)) (pm_Qi (fun v σ' cnt' => (∃ (I' : Nat → Int32) (A' : Nat → Nat → Int32), σ' = pm_mid σ (md_L B I' A' n k z ac wt pl (nI p0) (nI t0) im)) ∧ cnt = cnt')) := by
  refine pm_enter 1 (by decide) (Nat.le_of_ble_eq_true rfl) rfl (fun G hG hR hF => ?_)
  refine pm_aloadn hG dX12_far_0 rfl ?_
  refine pm_iloadn hG dX12_far_1 rfl ?_
  obtain ⟨k1, hk1, ek1⟩ := KI.nat hn (show kd 0 = (1, 11, true) by decide)
  refine pm_callV (As := [.int za]) (rest := []) hG hR dX12_far_2 (lkX12_84 _ rfl) okV_X12_isTown rfl rfl (m_isTown (d := 2) (by decide) ek1 (by omega)) rfl rfl hdd (Nat.le_refl _) (Nat.le_refl _) (by decide) (pm_ki (fun v2 σ' cnt' hq => ?_))
  obtain ⟨hq, rfl, rfl⟩ := hq
  rcases hq with ⟨rfl, k4, hk4, ek4⟩ | rfl
  · refine pm_ifN_eq (tgt := 16) hG dX12_far_5 rfl (by omega) (fun q => absurd q (by omega)) (fun _ => ?_)
    refine pm_aloadn hG dX12_far_8 rfl ?_
    refine pm_iloadn hG dX12_far_9 rfl ?_
    refine pm_callV (As := [.int zb]) (rest := []) hG hR dX12_far_10 (lkX12_84 _ rfl) okV_X12_isTown rfl rfl (m_isTown (d := 2) (by decide) ek1 (by omega)) rfl rfl hdd (Nat.le_refl _) (Nat.le_refl _) (by decide) (pm_ki (fun v5 σ' cnt' hq => ?_))
    obtain ⟨hq, rfl, rfl⟩ := hq
    rcases hq with ⟨rfl, k7, hk7, ek7⟩ | rfl
    · refine pm_ifN_ne (tgt := 22) hG dX12_far_13 rfl (by omega) (fun _ => ?_) (fun q => absurd q (by omega))
      refine pm_aloadn hG dX12_far_22 rfl ?_
      refine pm_iloadn hG dX12_far_23 rfl ?_
      refine pm_top (v := nI k4) ek4 ?_
      refine pm_iloadn hG dX12_far_24 rfl ?_
      refine pm_top (v := nI k7) ek7 ?_
      refine pm_callV (As := [.int (nI k4), .int (nI k7)]) (rest := []) hG hR dX12_far_25 (lkX12_88 _ rfl) okV_X12_farOf rfl rfl (m_farOf (d := 2) (by decide) hn hz (by omega)) rfl rfl hdd (Nat.le_refl _) (Nat.le_refl _) (by decide) (pm_ki (fun v8 σ' cnt' hq => ?_))
      obtain ⟨⟨I9, A9, rfl⟩, rfl⟩ := hq
      refine pm_istoreXn (loc' := [some (.ref (B + 54)), some (.int za), some (.int zb), some (.int v8)]) hG dX12_far_28 (by decide) (pm_c1b rfl) rfl ?_
      refine pm_iloadn hG dX12_far_29 rfl ?_
      refine pm_if_ge (tgt := 41) hG dX12_far_30 rfl (fun c10 => ?_) (fun c10 => ?_)
      · obtain ⟨k11, hk11, ek11⟩ := nI_of (Int32.not_lt.mpr c10)
        refine pm_iloadn hG dX12_far_41 rfl ?_
        refine pm_top (v := nI k11) ek11 ?_
        exact pm_iret hG hF dX12_far_42 rfl (Nat.le_refl _) (Nat.le_refl _) ⟨_, rfl, ⟨_, _, rfl⟩, rfl⟩
      · refine pm_aloadn hG dX12_far_33 rfl ?_
        refine pm_iconst (v := nI 2) hG dX12_far_34 (by decide) ?_
        refine pm_callV (As := [.int (nI 2)]) (rest := []) hG hR dX12_far_35 (lkX12_80 _ rfl) okV_X12_finds rfl rfl (m_finds (d := 2) (by decide) hn hz (by omega)) rfl rfl hdd (Nat.le_refl _) (Nat.le_refl _) (by decide) (pm_ki (fun v12 σ' cnt' hq => ?_))
        obtain ⟨⟨I13, A13, rfl⟩, rfl, fv12⟩ := hq
        refine pm_goto (tgt := 42) hG dX12_far_38 rfl ?_
        exact pm_iret hG hF dX12_far_42 rfl (Nat.le_refl _) (Nat.le_refl _) ⟨_, rfl, ⟨_, _, rfl⟩, rfl⟩
    · refine pm_ifN_ne (tgt := 22) hG dX12_far_13 rfl (by omega) (fun q => absurd q (by omega)) (fun _ => ?_)
      refine pm_aloadn hG dX12_far_16 rfl ?_
      refine pm_iconst (v := nI 1) hG dX12_far_17 (by decide) ?_
      refine pm_callV (As := [.int (nI 1)]) (rest := []) hG hR dX12_far_18 (lkX12_80 _ rfl) okV_X12_finds rfl rfl (m_finds (d := 2) (by decide) hn hz (by omega)) rfl rfl hdd (Nat.le_refl _) (Nat.le_refl _) (by decide) (pm_ki (fun v14 σ' cnt' hq => ?_))
      obtain ⟨⟨I15, A15, rfl⟩, rfl, fv14⟩ := hq
      exact pm_iret hG hF dX12_far_21 rfl (Nat.le_refl _) (Nat.le_refl _) ⟨_, rfl, ⟨_, _, rfl⟩, rfl⟩
  · refine pm_ifN_eq (tgt := 16) hG dX12_far_5 rfl (by omega) (fun _ => ?_) (fun q => absurd q (by omega))
    refine pm_aloadn hG dX12_far_16 rfl ?_
    refine pm_iconst (v := nI 1) hG dX12_far_17 (by decide) ?_
    refine pm_callV (As := [.int (nI 1)]) (rest := []) hG hR dX12_far_18 (lkX12_80 _ rfl) okV_X12_finds rfl rfl (m_finds (d := 2) (by decide) hn hz (by omega)) rfl rfl hdd (Nat.le_refl _) (Nat.le_refl _) (by decide) (pm_ki (fun v16 σ' cnt' hq => ?_))
    obtain ⟨⟨I17, A17, rfl⟩, rfl, fv16⟩ := hq
    exact pm_iret hG hF dX12_far_21 rfl (Nat.le_refl _) (Nat.le_refl _) ⟨_, rfl, ⟨_, _, rfl⟩, rfl⟩

set_option maxRecDepth 100000 in
set_option maxHeartbeats 4000000 in
theorem m_feed {d B cnt p0 t0 : Nat} {σ : pm_S} {I : Nat → Int32} {A : Nat → Nat → Int32} {n k z : Nat → Int32} {ac wt pl im : Int32} {zb : Int32} {za : Int64} (hdd : 2 ≤ d) (hn : KI n) (hr : NR n) (hz : SZ z)  : pm_met mX12_feed d 0 0 B [.ref (B + 54), .long za, .int zb] cnt (pm_mid σ (md_L B I A n k z ac wt pl (nI p0) (nI t0) im)) (pm_Qi (fun v σ' cnt' => (∃ (I' : Nat → Int32) (A' : Nat → Nat → Int32) (n' : Nat → Int32), σ' = pm_mid σ (md_L B I' A' n' k z ac wt pl (nI p0) (nI t0) im) ∧ KI n' ∧ NR n' ∧ KS n' n) ∧ cnt = cnt')) := by
  refine pm_enter 1 (by decide) (Nat.le_of_ble_eq_true rfl) rfl (fun G hG hR hF => ?_)
  refine pm_iloadn hG dX12_feed_0 rfl ?_
  refine pm_iconst (v := nI 1) hG dX12_feed_1 (by decide) ?_
  refine pm_bipush (v := nI 8) hG dX12_feed_2 (by decide) ?_
  refine pm_callS (As := [.int zb, .int (nI 1), .int (nI 8)]) (rest := []) hG hR dX12_feed_4 (lkX12_68 _ rfl) okS_X12_in (m_in (d := 1)) rfl rfl hdd (Nat.le_refl _) (Nat.le_refl _) (by decide) (pm_ki (fun v1 σ' cnt' hq => ?_))
  obtain ⟨hq, rfl, rfl⟩ := hq
  rcases hq with ⟨rfl, ac2, bc2⟩ | ⟨rfl, c2⟩
  · obtain ⟨k3, hk3, ek3⟩ := in_nat (by omega) (by omega) ac2 bc2
    refine pm_ifN_ne (tgt := 16) hG dX12_feed_7 rfl (by omega) (fun _ => ?_) (fun q => absurd q (by omega))
    refine pm_aloadn hG dX12_feed_16 rfl ?_
    refine pm_getf hG dX12_feed_17 (flX12_7 _ rfl) rfl rfl ?_
    refine pm_bipush (v := nI 10) hG dX12_feed_20 (by decide) ?_
    refine pm_ialdN hG dX12_feed_22 rfl (by decide) (by omega) ?_
    obtain ⟨k4, hk4, ek4⟩ := KI.nat hn (show kd 10 = (1, 61, false) by decide)
    refine pm_top (v := nI k4) ek4 ?_
    refine pm_iloadn hG dX12_feed_23 rfl ?_
    refine pm_top (v := nI k3) ek3 ?_
    refine pm_iaddN (c := k3 + k4) hG dX12_feed_24 (by omega) ?_
    refine pm_bipush (v := nI 60) hG dX12_feed_25 (by decide) ?_
    refine pm_icmpN_le (tgt := 36) hG dX12_feed_27 rfl (by omega) (by omega) (fun c5 => ?_) (fun c5 => ?_)
    · refine pm_iconst (v := nI 0) hG dX12_feed_36 (by decide) ?_
      refine pm_istoreXi (loc' := [some (.ref (B + 54)), some (.long za), none, some (.int zb), some (.int (nI 0))]) hG dX12_feed_37 (by decide) (pm_c1b rfl) rfl ?_
      have loop39_6 : ∀ (m6 : Nat) (I6 : Nat → Int32) (A6 : Nat → Nat → Int32) (n_6 : Nat → Int32) (i6 : Nat), KI n_6 → KS n_6 n → NRx 40 n_6 → n_6 10 = nI (i6 + k4) → i6 ≤ 8 → 8 - i6 < m6 → pm_wp mX12_feed G B 39 [some (.ref (B + 54)), some (.long za), none, some (.int zb), some (.int (nI i6))] [] 0 0 cnt (pm_mid σ (md_L B I6 A6 n_6 k z ac wt pl (nI p0) (nI t0) im)) := by
        intro m6
        induction m6 with
        | zero => intro I6 A6 n_6 i6 _ _ _ _ _ hm; exact absurd hm (Nat.not_lt_zero _)
        | succ m6 ih6 =>
          intro I6 A6 n_6 i6 hnn_6 ksn_6 hrn_6 kc6_10 hi6 hm6
          refine pm_iloadi hG dX12_feed_39 rfl ?_
          refine pm_iloadn hG dX12_feed_41 rfl ?_
          refine pm_top (v := nI k3) ek3 ?_
          refine pm_icmpN_ge (tgt := 90) hG dX12_feed_42 rfl (by omega) (by omega) (fun c7 => ?_) (fun c7 => ?_)
          · refine pm_aloadn hG dX12_feed_90 rfl ?_
            refine pm_getf hG dX12_feed_91 (flX12_7 _ rfl) rfl rfl ?_
            refine pm_bipush (v := nI 10) hG dX12_feed_94 (by decide) ?_
            refine pm_ialdN hG dX12_feed_96 rfl (by decide) (by omega) ?_
            refine pm_top (v := nI (i6 + k4)) kc6_10 ?_
            exact pm_iret hG hF dX12_feed_97 rfl (Nat.le_refl _) (Nat.le_refl _) ⟨_, rfl, ⟨_, _, _, rfl, hnn_6, hrn_6, ksn_6⟩, rfl⟩
          · refine pm_aloadn hG dX12_feed_45 rfl ?_
            refine pm_getf hG dX12_feed_46 (flX12_7 _ rfl) rfl rfl ?_
            refine pm_sipush (v := nI 1991) hG dX12_feed_49 (by decide) ?_
            refine pm_aloadn hG dX12_feed_52 rfl ?_
            refine pm_getf hG dX12_feed_53 (flX12_7 _ rfl) rfl rfl ?_
            refine pm_bipush (v := nI 10) hG dX12_feed_56 (by decide) ?_
            refine pm_ialdN hG dX12_feed_58 rfl (by decide) (by omega) ?_
            refine pm_top (v := nI (i6 + k4)) kc6_10 ?_
            refine pm_iaddN (c := i6 + k4 + 1991) hG dX12_feed_59 (by omega) ?_
            refine pm_lloadn hG dX12_feed_60 rfl ?_
            refine pm_bipush (v := nI 8) hG dX12_feed_61 (by decide) ?_
            refine pm_iloadi hG dX12_feed_63 rfl ?_
            refine pm_imulN (c := 8 * i6) hG dX12_feed_65 (by omega) ?_
            refine pm_lshr hG dX12_feed_66 rfl ?_
            refine pm_ldc2 hG dX12_feed_67 (ctX12_142 _ rfl) ?_
            refine pm_land hG dX12_feed_70 ?_
            refine pm_l2i hG dX12_feed_71 rfl ?_
            refine pm_any (fun x8 => ?_)
            refine pm_iastN hG dX12_feed_72 rfl (by decide) (by omega) ?_
            refine mdn_now (fun n_9 en_9 => ?_)
            have hnn_9 := KI.w en_9 hnn_6 (okv_f (show kd (i6 + k4 + 1991) = (0, 0, false) from (kd_O (by omega))))
            have hrn_9 := NRx.w en_9 hrn_6 (by rw [(show kd (i6 + k4 + 1991) = (0, 0, false) from (kd_O (by omega)))])
            have ksn_9 := KS.w en_9 ksn_6 (by unfold tS; omega)
            have e10 : n_9 10 = nI (i6 + k4) := by rw [en_9, pk_un (by omega)]; exact kc6_10
            have e11 : n_9 (i6 + k4 + 1991) = x8 := by rw [en_9, pk_us]
            refine pm_aloadn hG dX12_feed_73 rfl ?_
            refine pm_getf hG dX12_feed_74 (flX12_7 _ rfl) rfl rfl ?_
            refine pm_bipush (v := nI 10) hG dX12_feed_77 (by decide) ?_
            refine pm_dup2 hG dX12_feed_79 rfl rfl ?_
            refine pm_ialdN hG dX12_feed_80 rfl (by decide) (by omega) ?_
            refine pm_top (v := nI (i6 + k4)) e10 ?_
            refine pm_iconst (v := nI 1) hG dX12_feed_81 (by decide) ?_
            refine pm_iaddN (c := i6 + k4 + 1) hG dX12_feed_82 (by omega) ?_
            refine pm_iastN hG dX12_feed_83 rfl (by decide) (by omega) ?_
            refine mdn_now (fun n_12 en_12 => ?_)
            have hnn_12 := KI.w en_12 hnn_9 (okv_n (show kd 10 = (1, 61, false) by decide) (by omega))
            have hrn_12 := NRx.w en_12 hrn_9 (by rw [(show kd 10 = (1, 61, false) by decide)])
            have ksn_12 := KS.w en_12 ksn_9 (by unfold tS; omega)
            have e13 : n_12 (i6 + k4 + 1991) = x8 := by rw [en_12, pk_un (by omega)]; exact e11
            have e14 : n_12 10 = nI (i6 + k4 + 1) := by rw [en_12, pk_us]
            refine pm_iincX (v := nI (i6 + 1)) (loc' := [some (.ref (B + 54)), some (.long za), none, some (.int zb), some (.int (nI (i6 + 1)))]) hG dX12_feed_84 rfl (nI_1 _) (by decide) (pm_c1b rfl) rfl ?_
            refine pm_goto (tgt := 39) hG dX12_feed_87 rfl ?_
            exact ih6 I6 A6 n_12 (i6 + 1) hnn_12 ksn_12 hrn_12 (e14.trans (congrArg nI (by omega))) (by omega) (by omega)
      exact loop39_6 _ I A n 0 hn KS.rf hr (ek4.trans (congrArg nI (by omega))) (by omega) (Nat.lt_succ_self _)
    · refine pm_aloadn hG dX12_feed_30 rfl ?_
      refine pm_iconst (v := nI 4) hG dX12_feed_31 (by decide) ?_
      refine pm_callV (As := [.int (nI 4)]) (rest := []) hG hR dX12_feed_32 (lkX12_80 _ rfl) okV_X12_finds rfl rfl (m_finds (d := 1) (by decide) hn hz (by omega)) rfl rfl hdd (Nat.le_refl _) (Nat.le_refl _) (by decide) (pm_ki (fun v15 σ' cnt' hq => ?_))
      obtain ⟨⟨I16, A16, rfl⟩, rfl, fv15⟩ := hq
      exact pm_iret hG hF dX12_feed_35 rfl (Nat.le_refl _) (Nat.le_refl _) ⟨_, rfl, ⟨_, _, _, rfl, hn, hr, KS.rf⟩, rfl⟩
  · refine pm_ifN_ne (tgt := 16) hG dX12_feed_7 rfl (by omega) (fun q => absurd q (by omega)) (fun _ => ?_)
    refine pm_aloadn hG dX12_feed_10 rfl ?_
    refine pm_iconst (v := nI 1) hG dX12_feed_11 (by decide) ?_
    refine pm_callV (As := [.int (nI 1)]) (rest := []) hG hR dX12_feed_12 (lkX12_80 _ rfl) okV_X12_finds rfl rfl (m_finds (d := 1) (by decide) hn hz (by omega)) rfl rfl hdd (Nat.le_refl _) (Nat.le_refl _) (by decide) (pm_ki (fun v17 σ' cnt' hq => ?_))
    obtain ⟨⟨I18, A18, rfl⟩, rfl, fv17⟩ := hq
    exact pm_iret hG hF dX12_feed_15 rfl (Nat.le_refl _) (Nat.le_refl _) ⟨_, rfl, ⟨_, _, _, rfl, hn, hr, KS.rf⟩, rfl⟩

set_option maxRecDepth 100000 in
set_option maxHeartbeats 4000000 in
theorem m_force {d B cnt p0 t0 : Nat} {σ : pm_S} {I : Nat → Int32} {A : Nat → Nat → Int32} {n k z : Nat → Int32} {ac wt pl im : Int32} {za zb zc : Int32} (hdd : 2 ≤ d) (hn : KI n) (hz : SZ z)  : pm_met mX12_force d 0 0 B [.ref (B + 54), .int za, .int zb, .int zc] cnt (pm_mid σ (md_L B I A n k z ac wt pl (nI p0) (nI t0) im)) (pm_Qi (fun v σ' cnt' => (∃ (I' : Nat → Int32) (A' : Nat → Nat → Int32), σ' = pm_mid σ (md_L B I' A' n k z ac wt pl (nI p0) (nI t0) im)) ∧ cnt = cnt')) := by
  refine pm_enter 1 (by decide) (Nat.le_of_ble_eq_true rfl) rfl (fun G hG hR hF => ?_)
  refine pm_iloadn hG dX12_force_0 rfl ?_
  refine pm_iconst (v := nI 0) hG dX12_force_1 (by decide) ?_
  refine pm_iconst (v := nI 4) hG dX12_force_2 (by decide) ?_
  refine pm_callS (As := [.int za, .int (nI 0), .int (nI 4)]) (rest := []) hG hR dX12_force_3 (lkX12_68 _ rfl) okS_X12_in (m_in (d := 1)) rfl rfl hdd (Nat.le_refl _) (Nat.le_refl _) (by decide) (pm_ki (fun v1 σ' cnt' hq => ?_))
  obtain ⟨hq, rfl, rfl⟩ := hq
  rcases hq with ⟨rfl, ac2, bc2⟩ | ⟨rfl, c2⟩
  · obtain ⟨k3, hk3, ek3⟩ := in_nat (by omega) (by omega) ac2 bc2
    refine pm_ifN_eq (tgt := 27) hG dX12_force_6 rfl (by omega) (fun q => absurd q (by omega)) (fun _ => ?_)
    refine pm_iloadn hG dX12_force_9 rfl ?_
    refine pm_callS (As := [.int zb]) (rest := []) hG hR dX12_force_10 (lkX12_186 _ rfl) okS_X12_isDay (m_isDay (d := 1) (by decide)) rfl rfl hdd (Nat.le_refl _) (Nat.le_refl _) (by decide) (pm_ki (fun v4 σ' cnt' hq => ?_))
    obtain ⟨hq, rfl, rfl⟩ := hq
    rcases hq with ⟨rfl, ac5, bc5⟩ | ⟨rfl, c5⟩
    · obtain ⟨k6, hk6, ek6⟩ := in_nat (by omega) (by omega) ac5 bc5
      refine pm_ifN_eq (tgt := 27) hG dX12_force_13 rfl (by omega) (fun q => absurd q (by omega)) (fun _ => ?_)
      refine pm_iloadn hG dX12_force_16 rfl ?_
      refine pm_iconst (v := (-1)) hG dX12_force_17 (by decide) ?_
      refine pm_sipush (v := nI 2000) hG dX12_force_18 (by decide) ?_
      refine pm_callS (As := [.int zc, .int (-1), .int (nI 2000)]) (rest := []) hG hR dX12_force_21 (lkX12_68 _ rfl) okS_X12_in (m_in (d := 1)) rfl rfl hdd (Nat.le_refl _) (Nat.le_refl _) (by decide) (pm_ki (fun v7 σ' cnt' hq => ?_))
      obtain ⟨hq, rfl, rfl⟩ := hq
      rcases hq with ⟨rfl, ac8, bc8⟩ | ⟨rfl, c8⟩
      · refine pm_ifN_ne (tgt := 33) hG dX12_force_24 rfl (by omega) (fun _ => ?_) (fun q => absurd q (by omega))
        refine pm_aloadn hG dX12_force_33 rfl ?_
        refine pm_iloadn hG dX12_force_34 rfl ?_
        refine pm_top (v := nI k3) ek3 ?_
        refine pm_iloadn hG dX12_force_35 rfl ?_
        refine pm_top (v := nI k6) ek6 ?_
        refine pm_iloadn hG dX12_force_36 rfl ?_
        refine pm_callV (As := [.int (nI k3), .int (nI k6), .int zc]) (rest := []) hG hR dX12_force_37 (lkX12_195 _ rfl) okV_X12_inForce rfl rfl (m_inForce (d := 1) (by decide) hn hz) rfl rfl hdd (Nat.le_refl _) (Nat.le_refl _) (by decide) (pm_ki (fun v9 σ' cnt' hq => ?_))
        obtain ⟨rfl, rfl, rv9⟩ := hq
        rcases rv9 with rfl | ⟨k11, hk11, rfl⟩
        · refine pm_istoreXi (loc' := [some (.ref (B + 54)), some (.int za), some (.int zb), some (.int zc), some (.int (-1))]) hG dX12_force_40 (by decide) (pm_c1b rfl) rfl ?_
          refine pm_iloadi hG dX12_force_42 rfl ?_
          refine pm_if_ge (tgt := 55) hG dX12_force_44 rfl (fun q => absurd q (by decide)) (fun _ => ?_)
          refine pm_aloadn hG dX12_force_47 rfl ?_
          refine pm_iconst (v := nI 2) hG dX12_force_48 (by decide) ?_
          refine pm_callV (As := [.int (nI 2)]) (rest := []) hG hR dX12_force_49 (lkX12_80 _ rfl) okV_X12_finds rfl rfl (m_finds (d := 1) (by decide) hn hz (by omega)) rfl rfl hdd (Nat.le_refl _) (Nat.le_refl _) (by decide) (pm_ki (fun v12 σ' cnt' hq => ?_))
          obtain ⟨⟨I13, A13, rfl⟩, rfl, fv12⟩ := hq
          refine pm_goto (tgt := 57) hG dX12_force_52 rfl ?_
          exact pm_iret hG hF dX12_force_57 rfl (Nat.le_refl _) (Nat.le_refl _) ⟨_, rfl, ⟨_, _, rfl⟩, rfl⟩
        · refine pm_istoreXi (loc' := [some (.ref (B + 54)), some (.int za), some (.int zb), some (.int zc), some (.int (nI k11))]) hG dX12_force_40 (by decide) (pm_c1b rfl) rfl ?_
          refine pm_iloadi hG dX12_force_42 rfl ?_
          refine pm_ifN_ge (tgt := 55) hG dX12_force_44 rfl (by omega) ?_
          refine pm_iloadi hG dX12_force_55 rfl ?_
          exact pm_iret hG hF dX12_force_57 rfl (Nat.le_refl _) (Nat.le_refl _) ⟨_, rfl, ⟨_, _, rfl⟩, rfl⟩
      · refine pm_ifN_ne (tgt := 33) hG dX12_force_24 rfl (by omega) (fun q => absurd q (by omega)) (fun _ => ?_)
        refine pm_aloadn hG dX12_force_27 rfl ?_
        refine pm_iconst (v := nI 1) hG dX12_force_28 (by decide) ?_
        refine pm_callV (As := [.int (nI 1)]) (rest := []) hG hR dX12_force_29 (lkX12_80 _ rfl) okV_X12_finds rfl rfl (m_finds (d := 1) (by decide) hn hz (by omega)) rfl rfl hdd (Nat.le_refl _) (Nat.le_refl _) (by decide) (pm_ki (fun v14 σ' cnt' hq => ?_))
        obtain ⟨⟨I15, A15, rfl⟩, rfl, fv14⟩ := hq
        exact pm_iret hG hF dX12_force_32 rfl (Nat.le_refl _) (Nat.le_refl _) ⟨_, rfl, ⟨_, _, rfl⟩, rfl⟩
    · refine pm_ifN_eq (tgt := 27) hG dX12_force_13 rfl (by omega) (fun _ => ?_) (fun q => absurd q (by omega))
      refine pm_aloadn hG dX12_force_27 rfl ?_
      refine pm_iconst (v := nI 1) hG dX12_force_28 (by decide) ?_
      refine pm_callV (As := [.int (nI 1)]) (rest := []) hG hR dX12_force_29 (lkX12_80 _ rfl) okV_X12_finds rfl rfl (m_finds (d := 1) (by decide) hn hz (by omega)) rfl rfl hdd (Nat.le_refl _) (Nat.le_refl _) (by decide) (pm_ki (fun v16 σ' cnt' hq => ?_))
      obtain ⟨⟨I17, A17, rfl⟩, rfl, fv16⟩ := hq
      exact pm_iret hG hF dX12_force_32 rfl (Nat.le_refl _) (Nat.le_refl _) ⟨_, rfl, ⟨_, _, rfl⟩, rfl⟩
  · refine pm_ifN_eq (tgt := 27) hG dX12_force_6 rfl (by omega) (fun _ => ?_) (fun q => absurd q (by omega))
    refine pm_aloadn hG dX12_force_27 rfl ?_
    refine pm_iconst (v := nI 1) hG dX12_force_28 (by decide) ?_
    refine pm_callV (As := [.int (nI 1)]) (rest := []) hG hR dX12_force_29 (lkX12_80 _ rfl) okV_X12_finds rfl rfl (m_finds (d := 1) (by decide) hn hz (by omega)) rfl rfl hdd (Nat.le_refl _) (Nat.le_refl _) (by decide) (pm_ki (fun v18 σ' cnt' hq => ?_))
    obtain ⟨⟨I19, A19, rfl⟩, rfl, fv18⟩ := hq
    exact pm_iret hG hF dX12_force_32 rfl (Nat.le_refl _) (Nat.le_refl _) ⟨_, rfl, ⟨_, _, rfl⟩, rfl⟩

set_option maxRecDepth 100000 in
set_option maxHeartbeats 4000000 in
theorem m_found {d B cnt p0 t0 : Nat} {σ : pm_S} {I : Nat → Int32} {A : Nat → Nat → Int32} {n k z : Nat → Int32} {ac wt pl im : Int32} {za : Int32} (hdd : 2 ≤ d) (hn : KI n) (hz : SZ z)  : pm_met mX12_found d 0 0 B [.ref (B + 54), .int za] cnt (pm_mid σ (md_L B I A n k z ac wt pl (nI p0) (nI t0) im)) (pm_Qi (fun v σ' cnt' => (∃ (I' : Nat → Int32) (A' : Nat → Nat → Int32), σ' = pm_mid σ (md_L B I' A' n k z ac wt pl (nI p0) (nI t0) im)) ∧ cnt = cnt')) := by
  refine pm_enter 0 (by decide) (Nat.le_of_ble_eq_true rfl) rfl (fun G hG hR hF => ?_)
  refine pm_iloadn hG dX12_found_0 rfl ?_
  refine pm_iconst (v := nI 1) hG dX12_found_1 (by decide) ?_
  refine pm_iconst (v := nI 5) hG dX12_found_2 (by decide) ?_
  refine pm_callS (As := [.int za, .int (nI 1), .int (nI 5)]) (rest := []) hG hR dX12_found_3 (lkX12_68 _ rfl) okS_X12_in (m_in (d := 1)) rfl rfl hdd (Nat.le_refl _) (Nat.le_refl _) (by decide) (pm_ki (fun v1 σ' cnt' hq => ?_))
  obtain ⟨hq, rfl, rfl⟩ := hq
  rcases hq with ⟨rfl, ac2, bc2⟩ | ⟨rfl, c2⟩
  · obtain ⟨k3, hk3, ek3⟩ := in_nat (by omega) (by omega) ac2 bc2
    refine pm_ifN_eq (tgt := 18) hG dX12_found_6 rfl (by omega) (fun q => absurd q (by omega)) (fun _ => ?_)
    refine pm_aloadn hG dX12_found_9 rfl ?_
    refine pm_getf hG dX12_found_10 (flX12_16 _ rfl) rfl rfl ?_
    refine pm_iloadn hG dX12_found_13 rfl ?_
    refine pm_top (v := nI k3) ek3 ?_
    refine pm_ialdN hG dX12_found_14 rfl (by decide) (by omega) ?_
    refine pm_any (fun x4 => ?_)
    refine pm_goto (tgt := 23) hG dX12_found_15 rfl ?_
    exact pm_iret hG hF dX12_found_23 rfl (Nat.le_refl _) (Nat.le_refl _) ⟨_, rfl, ⟨_, _, rfl⟩, rfl⟩
  · refine pm_ifN_eq (tgt := 18) hG dX12_found_6 rfl (by omega) (fun _ => ?_) (fun q => absurd q (by omega))
    refine pm_aloadn hG dX12_found_18 rfl ?_
    refine pm_iconst (v := nI 1) hG dX12_found_19 (by decide) ?_
    refine pm_callV (As := [.int (nI 1)]) (rest := []) hG hR dX12_found_20 (lkX12_80 _ rfl) okV_X12_finds rfl rfl (m_finds (d := 1) (by decide) hn hz (by omega)) rfl rfl hdd (Nat.le_refl _) (Nat.le_refl _) (by decide) (pm_ki (fun v5 σ' cnt' hq => ?_))
    obtain ⟨⟨I6, A6, rfl⟩, rfl, fv5⟩ := hq
    exact pm_iret hG hF dX12_found_23 rfl (Nat.le_refl _) (Nat.le_refl _) ⟨_, rfl, ⟨_, _, rfl⟩, rfl⟩

set_option maxRecDepth 100000 in
set_option maxHeartbeats 4000000 in
theorem m_give {d B cnt p0 t0 : Nat} {σ : pm_S} {I : Nat → Int32} {A : Nat → Nat → Int32} {n k z : Nat → Int32} {ac wt pl im : Int32} {za zb : Int32} (hdd : 2 ≤ d) (hn : KI n) (hr : NR n) (hz : SZ z)  : pm_met mX12_give d 0 0 B [.ref (B + 54), .int za, .int zb] cnt (pm_mid σ (md_L B I A n k z ac wt pl (nI p0) (nI t0) im)) (pm_Qi (fun v σ' cnt' => (∃ (I' : Nat → Int32) (A' : Nat → Nat → Int32) (n' : Nat → Int32), σ' = pm_mid σ (md_L B I' A' n' k z ac wt pl (nI p0) (nI t0) im) ∧ KI n' ∧ NR n' ∧ KS n' n) ∧ cnt = cnt')) := by
  refine pm_enter 1 (by decide) (Nat.le_of_ble_eq_true rfl) rfl (fun G hG hR hF => ?_)
  refine pm_aloadn hG dX12_give_0 rfl ?_
  refine pm_iloadn hG dX12_give_1 rfl ?_
  obtain ⟨k1, hk1, ek1⟩ := KI.nat hn (show kd 3 = (1, 21, false) by decide)
  refine pm_callV (As := [.int za]) (rest := []) hG hR dX12_give_2 (lkX12_132 _ rfl) okV_X12_isPower rfl rfl (m_isPower (d := 1) (by decide) ek1 (by omega)) rfl rfl hdd (Nat.le_refl _) (Nat.le_refl _) (by decide) (pm_ki (fun v2 σ' cnt' hq => ?_))
  obtain ⟨hq, rfl, rfl⟩ := hq
  rcases hq with ⟨rfl, k4, hk4, ek4⟩ | rfl
  · refine pm_ifN_eq (tgt := 29) hG dX12_give_5 rfl (by omega) (fun q => absurd q (by omega)) (fun _ => ?_)
    refine pm_iloadn hG dX12_give_8 rfl ?_
    refine pm_iconst (v := (-1)) hG dX12_give_9 (by decide) ?_
    refine pm_icmp_eq (tgt := 35) hG dX12_give_10 rfl (fun c5 => ?_) (fun c5 => ?_)
    · refine pm_aloadn hG dX12_give_35 rfl ?_
      refine pm_iloadn hG dX12_give_36 rfl ?_
      refine pm_top (v := nI k4) ek4 ?_
      refine pm_iconst (v := nI 2) hG dX12_give_37 (by decide) ?_
      refine pm_callV (As := [.int (nI k4), .int (nI 2)]) (rest := []) hG hR dX12_give_38 (lkX12_110 _ rfl) okV_X12_its rfl rfl (m_its (d := 1) (e := 6 * k4 + 392) (by omega) (by omega) (by omega)) rfl rfl hdd (Nat.le_refl _) (Nat.le_refl _) (by decide) (pm_ki (fun v6 σ' cnt' hq => ?_))
      obtain ⟨rfl, rfl, rfl⟩ := hq
      rcases KI.opt hn (show kd (6 * k4 + 392) = (2, 20, false) from (kd_W (k := k4) (c := 2) (by omega) (by omega) (by decide))) with ek7 | ⟨k7, hk7, ek7⟩
      · refine pm_top (v := (-1)) ek7 ?_
        refine pm_if_lt (tgt := 50) hG dX12_give_41 rfl (fun _ => ?_) (fun q => absurd q (by decide))
        refine pm_aloadn hG dX12_give_50 rfl ?_
        refine pm_iloadn hG dX12_give_51 rfl ?_
        refine pm_top (v := nI k4) ek4 ?_
        refine pm_iconst (v := nI 1) hG dX12_give_52 (by decide) ?_
        refine pm_callV (As := [.int (nI k4), .int (nI 1)]) (rest := []) hG hR dX12_give_53 (lkX12_110 _ rfl) okV_X12_its rfl rfl (m_its (d := 1) (e := 6 * k4 + 391) (by omega) (by omega) (by omega)) rfl rfl hdd (Nat.le_refl _) (Nat.le_refl _) (by decide) (pm_ki (fun v8 σ' cnt' hq => ?_))
        obtain ⟨rfl, rfl, rfl⟩ := hq
        rcases KI.opt hn (show kd (6 * k4 + 391) = (2, 20, false) from (kd_W (k := k4) (c := 1) (by omega) (by omega) (by decide))) with ek9 | ⟨k9, hk9, ek9⟩
        · refine pm_top (v := (-1)) ek9 ?_
          refine pm_istoreXn (loc' := [some (.ref (B + 54)), some (.int za), some (.int zb), some (.int (-1))]) hG dX12_give_56 (by decide) (pm_c1b rfl) rfl ?_
          refine pm_aloadn hG dX12_give_57 rfl ?_
          refine pm_iloadn hG dX12_give_58 rfl ?_
          refine pm_top (v := nI k4) ek4 ?_
          refine pm_iconst (v := nI 1) hG dX12_give_59 (by decide) ?_
          refine pm_iloadn hG dX12_give_60 rfl ?_
          refine pm_top (v := (-1)) c5 ?_
          refine pm_callV (As := [.int (nI k4), .int (nI 1), .int (-1)]) (rest := []) hG hR dX12_give_61 (lkX12_113 _ rfl) okV_X12_makes rfl rfl (m_makes (d := 1) (e := 6 * k4 + 391) (by omega) (by omega) (by omega)) rfl rfl hdd (Nat.le_refl _) (Nat.le_refl _) (by decide) (pm_kv (fun σ' cnt' hq => ?_))
          obtain ⟨rfl, rfl⟩ := hq
          obtain ⟨n_10, en_10⟩ : ∃ f : Nat → Int32, f = upd n (6 * k4 + 391) (-1) := ⟨_, rfl⟩
          rw [← en_10]
          have hnn_10 := KI.w en_10 hn (okv_m (show kd (6 * k4 + 391) = (2, 20, false) from (kd_W (k := k4) (c := 1) (by omega) (by omega) (by decide))))
          have hrn_10 := NRx.w en_10 hr (by rw [(show kd (6 * k4 + 391) = (2, 20, false) from (kd_W (k := k4) (c := 1) (by omega) (by omega) (by decide)))])
          have ksn_10 := KS.w en_10 KS.rf (by unfold tS; omega)
          have e11 : n_10 3 = nI k1 := by rw [en_10, pk_un (by omega)]; exact ek1
          have e12 : n_10 (6 * k4 + 392) = (-1) := by rw [en_10, pk_un (by omega)]; exact ek7
          have e13 : n_10 (6 * k4 + 391) = (-1) := by rw [en_10, pk_us]
          refine pm_iloadn hG dX12_give_64 rfl ?_
          exact pm_iret hG hF dX12_give_65 rfl (Nat.le_refl _) (Nat.le_refl _) ⟨_, rfl, ⟨_, _, _, rfl, hnn_10, hrn_10, ksn_10⟩, rfl⟩
        · refine pm_top (v := nI k9) ek9 ?_
          refine pm_istoreXn (loc' := [some (.ref (B + 54)), some (.int za), some (.int zb), some (.int (nI k9))]) hG dX12_give_56 (by decide) (pm_c1b rfl) rfl ?_
          refine pm_aloadn hG dX12_give_57 rfl ?_
          refine pm_iloadn hG dX12_give_58 rfl ?_
          refine pm_top (v := nI k4) ek4 ?_
          refine pm_iconst (v := nI 1) hG dX12_give_59 (by decide) ?_
          refine pm_iloadn hG dX12_give_60 rfl ?_
          refine pm_top (v := (-1)) c5 ?_
          refine pm_callV (As := [.int (nI k4), .int (nI 1), .int (-1)]) (rest := []) hG hR dX12_give_61 (lkX12_113 _ rfl) okV_X12_makes rfl rfl (m_makes (d := 1) (e := 6 * k4 + 391) (by omega) (by omega) (by omega)) rfl rfl hdd (Nat.le_refl _) (Nat.le_refl _) (by decide) (pm_kv (fun σ' cnt' hq => ?_))
          obtain ⟨rfl, rfl⟩ := hq
          obtain ⟨n_14, en_14⟩ : ∃ f : Nat → Int32, f = upd n (6 * k4 + 391) (-1) := ⟨_, rfl⟩
          rw [← en_14]
          have hnn_14 := KI.w en_14 hn (okv_m (show kd (6 * k4 + 391) = (2, 20, false) from (kd_W (k := k4) (c := 1) (by omega) (by omega) (by decide))))
          have hrn_14 := NRx.w en_14 hr (by rw [(show kd (6 * k4 + 391) = (2, 20, false) from (kd_W (k := k4) (c := 1) (by omega) (by omega) (by decide)))])
          have ksn_14 := KS.w en_14 KS.rf (by unfold tS; omega)
          have e15 : n_14 3 = nI k1 := by rw [en_14, pk_un (by omega)]; exact ek1
          have e16 : n_14 (6 * k4 + 392) = (-1) := by rw [en_14, pk_un (by omega)]; exact ek7
          have e17 : n_14 (6 * k4 + 391) = (-1) := by rw [en_14, pk_us]
          refine pm_iloadn hG dX12_give_64 rfl ?_
          exact pm_iret hG hF dX12_give_65 rfl (Nat.le_refl _) (Nat.le_refl _) ⟨_, rfl, ⟨_, _, _, rfl, hnn_14, hrn_14, ksn_14⟩, rfl⟩
      · refine pm_top (v := nI k7) ek7 ?_
        refine pm_ifN_lt hG dX12_give_41 rfl (by omega) ?_
        refine pm_aloadn hG dX12_give_44 rfl ?_
        refine pm_iconst (v := nI 3) hG dX12_give_45 (by decide) ?_
        refine pm_callV (As := [.int (nI 3)]) (rest := []) hG hR dX12_give_46 (lkX12_80 _ rfl) okV_X12_finds rfl rfl (m_finds (d := 1) (by decide) hn hz (by omega)) rfl rfl hdd (Nat.le_refl _) (Nat.le_refl _) (by decide) (pm_ki (fun v18 σ' cnt' hq => ?_))
        obtain ⟨⟨I19, A19, rfl⟩, rfl, fv18⟩ := hq
        exact pm_iret hG hF dX12_give_49 rfl (Nat.le_refl _) (Nat.le_refl _) ⟨_, rfl, ⟨_, _, _, rfl, hn, hr, KS.rf⟩, rfl⟩
    · refine pm_aloadn hG dX12_give_13 rfl ?_
      refine pm_iloadn hG dX12_give_14 rfl ?_
      obtain ⟨k20, hk20, ek20⟩ := KI.nat hn (show kd 2 = (1, 21, true) by decide)
      refine pm_callV (As := [.int zb]) (rest := []) hG hR dX12_give_15 (lkX12_91 _ rfl) okV_X12_isPerson rfl rfl (m_isPerson (d := 1) (by decide) ek20 (by omega)) rfl rfl hdd (Nat.le_refl _) (Nat.le_refl _) (by decide) (pm_ki (fun v21 σ' cnt' hq => ?_))
      obtain ⟨hq, rfl, rfl⟩ := hq
      rcases hq with ⟨rfl, k23, hk23, ek23⟩ | rfl
      · refine pm_ifN_eq (tgt := 29) hG dX12_give_18 rfl (by omega) (fun q => absurd q (by omega)) (fun _ => ?_)
        refine pm_aloadn hG dX12_give_21 rfl ?_
        refine pm_iloadn hG dX12_give_22 rfl ?_
        refine pm_top (v := nI k23) ek23 ?_
        rcases KI.opt hn (show kd (14 * k23 + 119) = (2, 2001, false) from (kd_P (k := k23) (c := 9) (by omega) (by omega) (by decide))) with ek24 | ⟨k24, hk24, ek24⟩
        · refine pm_callV (As := [.int (nI k23)]) (rest := []) hG hR dX12_give_23 (lkX12_101 _ rfl) okV_X12_lives rfl rfl (m_lives1 (d := 1) (by decide) (by omega) (by omega : 14 * k23 + 119 = 14 * k23 + 119) ek24) rfl rfl hdd (Nat.le_refl _) (Nat.le_refl _) (by decide) (pm_ki (fun v25 σ' cnt' hq => ?_))
          obtain ⟨rfl, rfl, rfl⟩ := hq
          refine pm_ifN_ne (tgt := 35) hG dX12_give_26 rfl (by omega) (fun _ => ?_) (fun q => absurd q (by omega))
          refine pm_aloadn hG dX12_give_35 rfl ?_
          refine pm_iloadn hG dX12_give_36 rfl ?_
          refine pm_top (v := nI k4) ek4 ?_
          refine pm_iconst (v := nI 2) hG dX12_give_37 (by decide) ?_
          refine pm_callV (As := [.int (nI k4), .int (nI 2)]) (rest := []) hG hR dX12_give_38 (lkX12_110 _ rfl) okV_X12_its rfl rfl (m_its (d := 1) (e := 6 * k4 + 392) (by omega) (by omega) (by omega)) rfl rfl hdd (Nat.le_refl _) (Nat.le_refl _) (by decide) (pm_ki (fun v26 σ' cnt' hq => ?_))
          obtain ⟨rfl, rfl, rfl⟩ := hq
          rcases KI.opt hn (show kd (6 * k4 + 392) = (2, 20, false) from (kd_W (k := k4) (c := 2) (by omega) (by omega) (by decide))) with ek27 | ⟨k27, hk27, ek27⟩
          · refine pm_top (v := (-1)) ek27 ?_
            refine pm_if_lt (tgt := 50) hG dX12_give_41 rfl (fun _ => ?_) (fun q => absurd q (by decide))
            refine pm_aloadn hG dX12_give_50 rfl ?_
            refine pm_iloadn hG dX12_give_51 rfl ?_
            refine pm_top (v := nI k4) ek4 ?_
            refine pm_iconst (v := nI 1) hG dX12_give_52 (by decide) ?_
            refine pm_callV (As := [.int (nI k4), .int (nI 1)]) (rest := []) hG hR dX12_give_53 (lkX12_110 _ rfl) okV_X12_its rfl rfl (m_its (d := 1) (e := 6 * k4 + 391) (by omega) (by omega) (by omega)) rfl rfl hdd (Nat.le_refl _) (Nat.le_refl _) (by decide) (pm_ki (fun v28 σ' cnt' hq => ?_))
            obtain ⟨rfl, rfl, rfl⟩ := hq
            rcases KI.opt hn (show kd (6 * k4 + 391) = (2, 20, false) from (kd_W (k := k4) (c := 1) (by omega) (by omega) (by decide))) with ek29 | ⟨k29, hk29, ek29⟩
            · refine pm_top (v := (-1)) ek29 ?_
              refine pm_istoreXn (loc' := [some (.ref (B + 54)), some (.int za), some (.int zb), some (.int (-1))]) hG dX12_give_56 (by decide) (pm_c1b rfl) rfl ?_
              refine pm_aloadn hG dX12_give_57 rfl ?_
              refine pm_iloadn hG dX12_give_58 rfl ?_
              refine pm_top (v := nI k4) ek4 ?_
              refine pm_iconst (v := nI 1) hG dX12_give_59 (by decide) ?_
              refine pm_iloadn hG dX12_give_60 rfl ?_
              refine pm_top (v := nI k23) ek23 ?_
              refine pm_callV (As := [.int (nI k4), .int (nI 1), .int (nI k23)]) (rest := []) hG hR dX12_give_61 (lkX12_113 _ rfl) okV_X12_makes rfl rfl (m_makes (d := 1) (e := 6 * k4 + 391) (by omega) (by omega) (by omega)) rfl rfl hdd (Nat.le_refl _) (Nat.le_refl _) (by decide) (pm_kv (fun σ' cnt' hq => ?_))
              obtain ⟨rfl, rfl⟩ := hq
              obtain ⟨n_30, en_30⟩ : ∃ f : Nat → Int32, f = upd n (6 * k4 + 391) (nI k23) := ⟨_, rfl⟩
              rw [← en_30]
              have hnn_30 := KI.w en_30 hn (okv_o (show kd (6 * k4 + 391) = (2, 20, false) from (kd_W (k := k4) (c := 1) (by omega) (by omega) (by decide))) (by omega))
              have hrn_30 := NRx.w en_30 hr (by rw [(show kd (6 * k4 + 391) = (2, 20, false) from (kd_W (k := k4) (c := 1) (by omega) (by omega) (by decide)))])
              have ksn_30 := KS.w en_30 KS.rf (by unfold tS; omega)
              have e31 : n_30 3 = nI k1 := by rw [en_30, pk_un (by omega)]; exact ek1
              have e32 : n_30 2 = nI k20 := by rw [en_30, pk_un (by omega)]; exact ek20
              have e33 : n_30 (14 * k23 + 119) = (-1) := by rw [en_30, pk_un (by omega)]; exact ek24
              have e34 : n_30 (6 * k4 + 392) = (-1) := by rw [en_30, pk_un (by omega)]; exact ek27
              have e35 : n_30 (6 * k4 + 391) = nI k23 := by rw [en_30, pk_us]
              refine pm_iloadn hG dX12_give_64 rfl ?_
              exact pm_iret hG hF dX12_give_65 rfl (Nat.le_refl _) (Nat.le_refl _) ⟨_, rfl, ⟨_, _, _, rfl, hnn_30, hrn_30, ksn_30⟩, rfl⟩
            · refine pm_top (v := nI k29) ek29 ?_
              refine pm_istoreXn (loc' := [some (.ref (B + 54)), some (.int za), some (.int zb), some (.int (nI k29))]) hG dX12_give_56 (by decide) (pm_c1b rfl) rfl ?_
              refine pm_aloadn hG dX12_give_57 rfl ?_
              refine pm_iloadn hG dX12_give_58 rfl ?_
              refine pm_top (v := nI k4) ek4 ?_
              refine pm_iconst (v := nI 1) hG dX12_give_59 (by decide) ?_
              refine pm_iloadn hG dX12_give_60 rfl ?_
              refine pm_top (v := nI k23) ek23 ?_
              refine pm_callV (As := [.int (nI k4), .int (nI 1), .int (nI k23)]) (rest := []) hG hR dX12_give_61 (lkX12_113 _ rfl) okV_X12_makes rfl rfl (m_makes (d := 1) (e := 6 * k4 + 391) (by omega) (by omega) (by omega)) rfl rfl hdd (Nat.le_refl _) (Nat.le_refl _) (by decide) (pm_kv (fun σ' cnt' hq => ?_))
              obtain ⟨rfl, rfl⟩ := hq
              obtain ⟨n_36, en_36⟩ : ∃ f : Nat → Int32, f = upd n (6 * k4 + 391) (nI k23) := ⟨_, rfl⟩
              rw [← en_36]
              have hnn_36 := KI.w en_36 hn (okv_o (show kd (6 * k4 + 391) = (2, 20, false) from (kd_W (k := k4) (c := 1) (by omega) (by omega) (by decide))) (by omega))
              have hrn_36 := NRx.w en_36 hr (by rw [(show kd (6 * k4 + 391) = (2, 20, false) from (kd_W (k := k4) (c := 1) (by omega) (by omega) (by decide)))])
              have ksn_36 := KS.w en_36 KS.rf (by unfold tS; omega)
              have e37 : n_36 3 = nI k1 := by rw [en_36, pk_un (by omega)]; exact ek1
              have e38 : n_36 2 = nI k20 := by rw [en_36, pk_un (by omega)]; exact ek20
              have e39 : n_36 (14 * k23 + 119) = (-1) := by rw [en_36, pk_un (by omega)]; exact ek24
              have e40 : n_36 (6 * k4 + 392) = (-1) := by rw [en_36, pk_un (by omega)]; exact ek27
              have e41 : n_36 (6 * k4 + 391) = nI k23 := by rw [en_36, pk_us]
              refine pm_iloadn hG dX12_give_64 rfl ?_
              exact pm_iret hG hF dX12_give_65 rfl (Nat.le_refl _) (Nat.le_refl _) ⟨_, rfl, ⟨_, _, _, rfl, hnn_36, hrn_36, ksn_36⟩, rfl⟩
          · refine pm_top (v := nI k27) ek27 ?_
            refine pm_ifN_lt hG dX12_give_41 rfl (by omega) ?_
            refine pm_aloadn hG dX12_give_44 rfl ?_
            refine pm_iconst (v := nI 3) hG dX12_give_45 (by decide) ?_
            refine pm_callV (As := [.int (nI 3)]) (rest := []) hG hR dX12_give_46 (lkX12_80 _ rfl) okV_X12_finds rfl rfl (m_finds (d := 1) (by decide) hn hz (by omega)) rfl rfl hdd (Nat.le_refl _) (Nat.le_refl _) (by decide) (pm_ki (fun v42 σ' cnt' hq => ?_))
            obtain ⟨⟨I43, A43, rfl⟩, rfl, fv42⟩ := hq
            exact pm_iret hG hF dX12_give_49 rfl (Nat.le_refl _) (Nat.le_refl _) ⟨_, rfl, ⟨_, _, _, rfl, hn, hr, KS.rf⟩, rfl⟩
        · refine pm_callV (As := [.int (nI k23)]) (rest := []) hG hR dX12_give_23 (lkX12_101 _ rfl) okV_X12_lives rfl rfl (m_lives0 (d := 1) (by decide) (by omega) (by omega : 14 * k23 + 119 = 14 * k23 + 119) ek24 (by omega)) rfl rfl hdd (Nat.le_refl _) (Nat.le_refl _) (by decide) (pm_ki (fun v44 σ' cnt' hq => ?_))
          obtain ⟨rfl, rfl, rfl⟩ := hq
          refine pm_ifN_ne (tgt := 35) hG dX12_give_26 rfl (by omega) (fun q => absurd q (by omega)) (fun _ => ?_)
          refine pm_aloadn hG dX12_give_29 rfl ?_
          refine pm_iconst (v := nI 1) hG dX12_give_30 (by decide) ?_
          refine pm_callV (As := [.int (nI 1)]) (rest := []) hG hR dX12_give_31 (lkX12_80 _ rfl) okV_X12_finds rfl rfl (m_finds (d := 1) (by decide) hn hz (by omega)) rfl rfl hdd (Nat.le_refl _) (Nat.le_refl _) (by decide) (pm_ki (fun v45 σ' cnt' hq => ?_))
          obtain ⟨⟨I46, A46, rfl⟩, rfl, fv45⟩ := hq
          exact pm_iret hG hF dX12_give_34 rfl (Nat.le_refl _) (Nat.le_refl _) ⟨_, rfl, ⟨_, _, _, rfl, hn, hr, KS.rf⟩, rfl⟩
      · refine pm_ifN_eq (tgt := 29) hG dX12_give_18 rfl (by omega) (fun _ => ?_) (fun q => absurd q (by omega))
        refine pm_aloadn hG dX12_give_29 rfl ?_
        refine pm_iconst (v := nI 1) hG dX12_give_30 (by decide) ?_
        refine pm_callV (As := [.int (nI 1)]) (rest := []) hG hR dX12_give_31 (lkX12_80 _ rfl) okV_X12_finds rfl rfl (m_finds (d := 1) (by decide) hn hz (by omega)) rfl rfl hdd (Nat.le_refl _) (Nat.le_refl _) (by decide) (pm_ki (fun v47 σ' cnt' hq => ?_))
        obtain ⟨⟨I48, A48, rfl⟩, rfl, fv47⟩ := hq
        exact pm_iret hG hF dX12_give_34 rfl (Nat.le_refl _) (Nat.le_refl _) ⟨_, rfl, ⟨_, _, _, rfl, hn, hr, KS.rf⟩, rfl⟩
  · refine pm_ifN_eq (tgt := 29) hG dX12_give_5 rfl (by omega) (fun _ => ?_) (fun q => absurd q (by omega))
    refine pm_aloadn hG dX12_give_29 rfl ?_
    refine pm_iconst (v := nI 1) hG dX12_give_30 (by decide) ?_
    refine pm_callV (As := [.int (nI 1)]) (rest := []) hG hR dX12_give_31 (lkX12_80 _ rfl) okV_X12_finds rfl rfl (m_finds (d := 1) (by decide) hn hz (by omega)) rfl rfl hdd (Nat.le_refl _) (Nat.le_refl _) (by decide) (pm_ki (fun v49 σ' cnt' hq => ?_))
    obtain ⟨⟨I50, A50, rfl⟩, rfl, fv49⟩ := hq
    exact pm_iret hG hF dX12_give_34 rfl (Nat.le_refl _) (Nat.le_refl _) ⟨_, rfl, ⟨_, _, _, rfl, hn, hr, KS.rf⟩, rfl⟩

set_option maxRecDepth 100000 in
set_option maxHeartbeats 4000000 in
theorem m_goes {d B cnt p0 t0 : Nat} {σ : pm_S} {I : Nat → Int32} {A : Nat → Nat → Int32} {n k z : Nat → Int32} {ac wt pl im : Int32} {ba bb : Nat} (hdd : 4 ≤ d) (hn : KI n) (hr : NR n) (hz : SZ z) (hba : ba < 20) (hbb : bb < 10) : pm_met mX12_goes d 0 0 B [.ref (B + 54), .int (nI ba), .int (nI bb)] cnt (pm_mid σ (md_L B I A n k z ac wt pl (nI p0) (nI t0) im)) (pm_Qi (fun v σ' cnt' => (∃ (I' : Nat → Int32) (A' : Nat → Nat → Int32) (n' : Nat → Int32), σ' = pm_mid σ (md_L B I' A' n' k z ac wt pl (nI p0) (nI t0) im) ∧ KI n' ∧ NR n' ∧ KS n' n) ∧ cnt = cnt')) := by
  refine pm_enter 1 (by decide) (Nat.le_of_ble_eq_true rfl) rfl (fun G hG hR hF => ?_)
  refine pm_aloadn hG dX12_goes_0 rfl ?_
  refine pm_aloadn hG dX12_goes_1 rfl ?_
  refine pm_iloadn hG dX12_goes_2 rfl ?_
  refine pm_iconst (v := nI 4) hG dX12_goes_3 (by decide) ?_
  refine pm_callV (As := [.int (nI ba), .int (nI 4)]) (rest := [.ref (B + 54)]) hG hR dX12_goes_4 (lkX12_72 _ rfl) okV_X12_man rfl rfl (m_man (d := 3) (e := 14 * ba + 114) (by omega) (by omega) (by omega)) rfl rfl hdd (Nat.le_refl _) (Nat.le_refl _) (Nat.le_of_ble_eq_true rfl) (pm_ki (fun v1 σ' cnt' hq => ?_))
  obtain ⟨rfl, rfl, rfl⟩ := hq
  rcases KI.opt hn (show kd (14 * ba + 114) = (2, 10, false) from (kd_P (k := ba) (c := 4) (by omega) (by omega) (by decide))) with ek2 | ⟨k2, hk2, ek2⟩
  · refine pm_top (v := (-1)) ek2 ?_
    refine pm_iloadn hG dX12_goes_7 rfl ?_
    refine pm_callV (As := [.int (-1), .int (nI bb)]) (rest := []) hG hR dX12_goes_8 (lkX12_88 _ rfl) okV_X12_farOf rfl rfl (m_farOf (d := 3) (by decide) hn hz (by omega)) rfl rfl hdd (Nat.le_refl _) (Nat.le_refl _) (by decide) (pm_ki (fun v3 σ' cnt' hq => ?_))
    obtain ⟨⟨I4, A4, rfl⟩, rfl⟩ := hq
    refine pm_istoreXn (loc' := [some (.ref (B + 54)), some (.int (nI ba)), some (.int (nI bb)), some (.int v3)]) hG dX12_goes_11 (by decide) (pm_c1b rfl) rfl ?_
    refine pm_iloadn hG dX12_goes_12 rfl ?_
    refine pm_if_ge (tgt := 18) hG dX12_goes_13 rfl (fun c5 => ?_) (fun c5 => ?_)
    · obtain ⟨k6, hk6, ek6⟩ := nI_of (Int32.not_lt.mpr c5)
      refine pm_iloadn hG dX12_goes_18 rfl ?_
      refine pm_top (v := nI k6) ek6 ?_
      refine pm_ifN_le (tgt := 64) hG dX12_goes_19 rfl (by omega) (fun c7 => ?_) (fun c7 => ?_)
      · refine pm_aloadn hG dX12_goes_64 rfl ?_
        refine pm_getf hG dX12_goes_65 (flX12_7 _ rfl) rfl rfl ?_
        refine pm_bipush (v := nI 8) hG dX12_goes_68 (by decide) ?_
        refine pm_ialdN hG dX12_goes_70 rfl (by decide) (by omega) ?_
        obtain ⟨k8, hk8, ek8⟩ := KI.nat hn (show kd 8 = (1, 2001, false) by decide)
        refine pm_top (v := nI k8) ek8 ?_
        refine pm_iloadn hG dX12_goes_71 rfl ?_
        refine pm_top (v := nI k6) ek6 ?_
        refine pm_iaddN (c := k6 + k8) hG dX12_goes_72 (by omega) ?_
        exact pm_iret hG hF dX12_goes_73 rfl (Nat.le_refl _) (Nat.le_refl _) ⟨_, rfl, ⟨_, _, _, rfl, hn, hr, KS.rf⟩, rfl⟩
      · refine pm_aloadn hG dX12_goes_22 rfl ?_
        refine pm_iloadn hG dX12_goes_23 rfl ?_
        refine pm_bipush (v := nI 10) hG dX12_goes_24 (by decide) ?_
        refine pm_aloadn hG dX12_goes_26 rfl ?_
        refine pm_iloadn hG dX12_goes_27 rfl ?_
        refine pm_callV (As := [.int (nI ba)]) (rest := [.int (nI 10), .int (nI ba), .ref (B + 54)]) hG hR dX12_goes_28 (lkX12_104 _ rfl) okV_X12_knownTo rfl rfl (m_knownTo (d := 3) (by decide) hn hz (by omega)) rfl rfl hdd (Nat.le_refl _) (Nat.le_refl _) (Nat.le_of_ble_eq_true rfl) (pm_ki (fun v9 σ' cnt' hq => ?_))
        obtain ⟨⟨I10, A10, rfl⟩, rfl⟩ := hq
        refine pm_callV (As := [.int (nI ba), .int (nI 10), .int v9]) (rest := []) hG hR dX12_goes_31 (lkX12_97 _ rfl) okV_X12_sets rfl rfl (m_sets (d := 3) (e := 14 * ba + 120) (by omega) (by omega) (by omega)) rfl rfl hdd (Nat.le_refl _) (Nat.le_refl _) (by decide) (pm_kv (fun σ' cnt' hq => ?_))
        obtain ⟨rfl, rfl⟩ := hq
        obtain ⟨n_11, en_11⟩ : ∃ f : Nat → Int32, f = upd n (14 * ba + 120) v9 := ⟨_, rfl⟩
        rw [← en_11]
        have hnn_11 := KI.w en_11 hn (okv_f (show kd (14 * ba + 120) = (0, 0, false) from (kd_P (k := ba) (c := 10) (by omega) (by omega) (by decide))))
        have hrn_11 := NRx.w en_11 hr (by rw [(show kd (14 * ba + 120) = (0, 0, false) from (kd_P (k := ba) (c := 10) (by omega) (by omega) (by decide)))])
        have ksn_11 := KS.w en_11 KS.rf (by unfold tS; omega)
        have e12 : n_11 (14 * ba + 114) = (-1) := by rw [en_11, pk_un (by omega)]; exact ek2
        have e13 : n_11 (14 * ba + 120) = v9 := by rw [en_11, pk_us]
        refine pm_aloadn hG dX12_goes_34 rfl ?_
        refine pm_iloadn hG dX12_goes_35 rfl ?_
        refine pm_iconst (v := nI 4) hG dX12_goes_36 (by decide) ?_
        refine pm_iconst (v := (-1)) hG dX12_goes_37 (by decide) ?_
        refine pm_callV (As := [.int (nI ba), .int (nI 4), .int (-1)]) (rest := []) hG hR dX12_goes_38 (lkX12_97 _ rfl) okV_X12_sets rfl rfl (m_sets (d := 3) (e := 14 * ba + 114) (by omega) (by omega) (by omega)) rfl rfl hdd (Nat.le_refl _) (Nat.le_refl _) (by decide) (pm_kv (fun σ' cnt' hq => ?_))
        obtain ⟨rfl, rfl⟩ := hq
        obtain ⟨n_14, en_14⟩ : ∃ f : Nat → Int32, f = upd n_11 (14 * ba + 114) (-1) := ⟨_, rfl⟩
        rw [← en_14]
        have hnn_14 := KI.w en_14 hnn_11 (okv_m (show kd (14 * ba + 114) = (2, 10, false) from (kd_P (k := ba) (c := 4) (by omega) (by omega) (by decide))))
        have hrn_14 := NRx.w en_14 hrn_11 (by rw [(show kd (14 * ba + 114) = (2, 10, false) from (kd_P (k := ba) (c := 4) (by omega) (by omega) (by decide)))])
        have ksn_14 := KS.w en_14 ksn_11 (by unfold tS; omega)
        have e15 : n_14 (14 * ba + 120) = v9 := by rw [en_14, pk_un (by omega)]; exact e13
        have e16 : n_14 (14 * ba + 114) = (-1) := by rw [en_14, pk_us]
        refine pm_aloadn hG dX12_goes_41 rfl ?_
        refine pm_iloadn hG dX12_goes_42 rfl ?_
        refine pm_iconst (v := nI 5) hG dX12_goes_43 (by decide) ?_
        refine pm_iloadn hG dX12_goes_44 rfl ?_
        refine pm_callV (As := [.int (nI ba), .int (nI 5), .int (nI bb)]) (rest := []) hG hR dX12_goes_45 (lkX12_97 _ rfl) okV_X12_sets rfl rfl (m_sets (d := 3) (e := 14 * ba + 115) (by omega) (by omega) (by omega)) rfl rfl hdd (Nat.le_refl _) (Nat.le_refl _) (by decide) (pm_kv (fun σ' cnt' hq => ?_))
        obtain ⟨rfl, rfl⟩ := hq
        obtain ⟨n_17, en_17⟩ : ∃ f : Nat → Int32, f = upd n_14 (14 * ba + 115) (nI bb) := ⟨_, rfl⟩
        rw [← en_17]
        have hnn_17 := KI.w en_17 hnn_14 (okv_n (show kd (14 * ba + 115) = (1, 10, false) from (kd_P (k := ba) (c := 5) (by omega) (by omega) (by decide))) (by omega))
        have hrn_17 := NRx.w en_17 hrn_14 (by rw [(show kd (14 * ba + 115) = (1, 10, false) from (kd_P (k := ba) (c := 5) (by omega) (by omega) (by decide)))])
        have ksn_17 := KS.w en_17 ksn_14 (by unfold tS; omega)
        have e18 : n_17 (14 * ba + 120) = v9 := by rw [en_17, pk_un (by omega)]; exact e15
        have e19 : n_17 (14 * ba + 114) = (-1) := by rw [en_17, pk_un (by omega)]; exact e16
        have e20 : n_17 (14 * ba + 115) = nI bb := by rw [en_17, pk_us]
        refine pm_aloadn hG dX12_goes_48 rfl ?_
        refine pm_iloadn hG dX12_goes_49 rfl ?_
        refine pm_bipush (v := nI 6) hG dX12_goes_50 (by decide) ?_
        refine pm_aloadn hG dX12_goes_52 rfl ?_
        refine pm_getf hG dX12_goes_53 (flX12_7 _ rfl) rfl rfl ?_
        refine pm_bipush (v := nI 8) hG dX12_goes_56 (by decide) ?_
        refine pm_ialdN hG dX12_goes_58 rfl (by decide) (by omega) ?_
        obtain ⟨k21, hk21, ek21⟩ := KI.nat hnn_17 (show kd 8 = (1, 2001, false) by decide)
        refine pm_top (v := nI k21) ek21 ?_
        refine pm_iloadn hG dX12_goes_59 rfl ?_
        refine pm_top (v := nI k6) ek6 ?_
        refine pm_iaddN (c := k21 + k6) hG dX12_goes_60 (by omega) ?_
        refine pm_callV (As := [.int (nI ba), .int (nI 6), .int (nI (k21 + k6))]) (rest := []) hG hR dX12_goes_61 (lkX12_97 _ rfl) okV_X12_sets rfl rfl (m_sets (d := 3) (e := 14 * ba + 116) (by omega) (by omega) (by omega)) rfl rfl hdd (Nat.le_refl _) (Nat.le_refl _) (by decide) (pm_kv (fun σ' cnt' hq => ?_))
        obtain ⟨rfl, rfl⟩ := hq
        obtain ⟨n_22, en_22⟩ : ∃ f : Nat → Int32, f = upd n_17 (14 * ba + 116) (nI (k21 + k6)) := ⟨_, rfl⟩
        rw [← en_22]
        have hnn_22 := KI.w en_22 hnn_17 (okv_f (show kd (14 * ba + 116) = (0, 0, false) from (kd_P (k := ba) (c := 6) (by omega) (by omega) (by decide))))
        have hrn_22 := NRx.w en_22 hrn_17 (by rw [(show kd (14 * ba + 116) = (0, 0, false) from (kd_P (k := ba) (c := 6) (by omega) (by omega) (by decide)))])
        have ksn_22 := KS.w en_22 ksn_17 (by unfold tS; omega)
        have e23 : n_22 (14 * ba + 120) = v9 := by rw [en_22, pk_un (by omega)]; exact e18
        have e24 : n_22 (14 * ba + 114) = (-1) := by rw [en_22, pk_un (by omega)]; exact e19
        have e25 : n_22 (14 * ba + 115) = nI bb := by rw [en_22, pk_un (by omega)]; exact e20
        have e26 : n_22 8 = nI k21 := by rw [en_22, pk_un (by omega)]; exact ek21
        have e27 : n_22 (14 * ba + 116) = nI (k21 + k6) := by rw [en_22, pk_us]
        refine pm_aloadn hG dX12_goes_64 rfl ?_
        refine pm_getf hG dX12_goes_65 (flX12_7 _ rfl) rfl rfl ?_
        refine pm_bipush (v := nI 8) hG dX12_goes_68 (by decide) ?_
        refine pm_ialdN hG dX12_goes_70 rfl (by decide) (by omega) ?_
        refine pm_top (v := nI k21) e26 ?_
        refine pm_iloadn hG dX12_goes_71 rfl ?_
        refine pm_top (v := nI k6) ek6 ?_
        refine pm_iaddN (c := k21 + k6) hG dX12_goes_72 (by omega) ?_
        exact pm_iret hG hF dX12_goes_73 rfl (Nat.le_refl _) (Nat.le_refl _) ⟨_, rfl, ⟨_, _, _, rfl, hnn_22, hrn_22, ksn_22⟩, rfl⟩
    · refine pm_iconst (v := (-1)) hG dX12_goes_16 (by decide) ?_
      exact pm_iret hG hF dX12_goes_17 rfl (Nat.le_refl _) (Nat.le_refl _) ⟨_, rfl, ⟨_, _, _, rfl, hn, hr, KS.rf⟩, rfl⟩
  · refine pm_top (v := nI k2) ek2 ?_
    refine pm_iloadn hG dX12_goes_7 rfl ?_
    refine pm_callV (As := [.int (nI k2), .int (nI bb)]) (rest := []) hG hR dX12_goes_8 (lkX12_88 _ rfl) okV_X12_farOf rfl rfl (m_farOf (d := 3) (by decide) hn hz (by omega)) rfl rfl hdd (Nat.le_refl _) (Nat.le_refl _) (by decide) (pm_ki (fun v28 σ' cnt' hq => ?_))
    obtain ⟨⟨I29, A29, rfl⟩, rfl⟩ := hq
    refine pm_istoreXn (loc' := [some (.ref (B + 54)), some (.int (nI ba)), some (.int (nI bb)), some (.int v28)]) hG dX12_goes_11 (by decide) (pm_c1b rfl) rfl ?_
    refine pm_iloadn hG dX12_goes_12 rfl ?_
    refine pm_if_ge (tgt := 18) hG dX12_goes_13 rfl (fun c30 => ?_) (fun c30 => ?_)
    · obtain ⟨k31, hk31, ek31⟩ := nI_of (Int32.not_lt.mpr c30)
      refine pm_iloadn hG dX12_goes_18 rfl ?_
      refine pm_top (v := nI k31) ek31 ?_
      refine pm_ifN_le (tgt := 64) hG dX12_goes_19 rfl (by omega) (fun c32 => ?_) (fun c32 => ?_)
      · refine pm_aloadn hG dX12_goes_64 rfl ?_
        refine pm_getf hG dX12_goes_65 (flX12_7 _ rfl) rfl rfl ?_
        refine pm_bipush (v := nI 8) hG dX12_goes_68 (by decide) ?_
        refine pm_ialdN hG dX12_goes_70 rfl (by decide) (by omega) ?_
        obtain ⟨k33, hk33, ek33⟩ := KI.nat hn (show kd 8 = (1, 2001, false) by decide)
        refine pm_top (v := nI k33) ek33 ?_
        refine pm_iloadn hG dX12_goes_71 rfl ?_
        refine pm_top (v := nI k31) ek31 ?_
        refine pm_iaddN (c := k31 + k33) hG dX12_goes_72 (by omega) ?_
        exact pm_iret hG hF dX12_goes_73 rfl (Nat.le_refl _) (Nat.le_refl _) ⟨_, rfl, ⟨_, _, _, rfl, hn, hr, KS.rf⟩, rfl⟩
      · refine pm_aloadn hG dX12_goes_22 rfl ?_
        refine pm_iloadn hG dX12_goes_23 rfl ?_
        refine pm_bipush (v := nI 10) hG dX12_goes_24 (by decide) ?_
        refine pm_aloadn hG dX12_goes_26 rfl ?_
        refine pm_iloadn hG dX12_goes_27 rfl ?_
        refine pm_callV (As := [.int (nI ba)]) (rest := [.int (nI 10), .int (nI ba), .ref (B + 54)]) hG hR dX12_goes_28 (lkX12_104 _ rfl) okV_X12_knownTo rfl rfl (m_knownTo (d := 3) (by decide) hn hz (by omega)) rfl rfl hdd (Nat.le_refl _) (Nat.le_refl _) (Nat.le_of_ble_eq_true rfl) (pm_ki (fun v34 σ' cnt' hq => ?_))
        obtain ⟨⟨I35, A35, rfl⟩, rfl⟩ := hq
        refine pm_callV (As := [.int (nI ba), .int (nI 10), .int v34]) (rest := []) hG hR dX12_goes_31 (lkX12_97 _ rfl) okV_X12_sets rfl rfl (m_sets (d := 3) (e := 14 * ba + 120) (by omega) (by omega) (by omega)) rfl rfl hdd (Nat.le_refl _) (Nat.le_refl _) (by decide) (pm_kv (fun σ' cnt' hq => ?_))
        obtain ⟨rfl, rfl⟩ := hq
        obtain ⟨n_36, en_36⟩ : ∃ f : Nat → Int32, f = upd n (14 * ba + 120) v34 := ⟨_, rfl⟩
        rw [← en_36]
        have hnn_36 := KI.w en_36 hn (okv_f (show kd (14 * ba + 120) = (0, 0, false) from (kd_P (k := ba) (c := 10) (by omega) (by omega) (by decide))))
        have hrn_36 := NRx.w en_36 hr (by rw [(show kd (14 * ba + 120) = (0, 0, false) from (kd_P (k := ba) (c := 10) (by omega) (by omega) (by decide)))])
        have ksn_36 := KS.w en_36 KS.rf (by unfold tS; omega)
        have e37 : n_36 (14 * ba + 114) = nI k2 := by rw [en_36, pk_un (by omega)]; exact ek2
        have e38 : n_36 (14 * ba + 120) = v34 := by rw [en_36, pk_us]
        refine pm_aloadn hG dX12_goes_34 rfl ?_
        refine pm_iloadn hG dX12_goes_35 rfl ?_
        refine pm_iconst (v := nI 4) hG dX12_goes_36 (by decide) ?_
        refine pm_iconst (v := (-1)) hG dX12_goes_37 (by decide) ?_
        refine pm_callV (As := [.int (nI ba), .int (nI 4), .int (-1)]) (rest := []) hG hR dX12_goes_38 (lkX12_97 _ rfl) okV_X12_sets rfl rfl (m_sets (d := 3) (e := 14 * ba + 114) (by omega) (by omega) (by omega)) rfl rfl hdd (Nat.le_refl _) (Nat.le_refl _) (by decide) (pm_kv (fun σ' cnt' hq => ?_))
        obtain ⟨rfl, rfl⟩ := hq
        obtain ⟨n_39, en_39⟩ : ∃ f : Nat → Int32, f = upd n_36 (14 * ba + 114) (-1) := ⟨_, rfl⟩
        rw [← en_39]
        have hnn_39 := KI.w en_39 hnn_36 (okv_m (show kd (14 * ba + 114) = (2, 10, false) from (kd_P (k := ba) (c := 4) (by omega) (by omega) (by decide))))
        have hrn_39 := NRx.w en_39 hrn_36 (by rw [(show kd (14 * ba + 114) = (2, 10, false) from (kd_P (k := ba) (c := 4) (by omega) (by omega) (by decide)))])
        have ksn_39 := KS.w en_39 ksn_36 (by unfold tS; omega)
        have e40 : n_39 (14 * ba + 120) = v34 := by rw [en_39, pk_un (by omega)]; exact e38
        have e41 : n_39 (14 * ba + 114) = (-1) := by rw [en_39, pk_us]
        refine pm_aloadn hG dX12_goes_41 rfl ?_
        refine pm_iloadn hG dX12_goes_42 rfl ?_
        refine pm_iconst (v := nI 5) hG dX12_goes_43 (by decide) ?_
        refine pm_iloadn hG dX12_goes_44 rfl ?_
        refine pm_callV (As := [.int (nI ba), .int (nI 5), .int (nI bb)]) (rest := []) hG hR dX12_goes_45 (lkX12_97 _ rfl) okV_X12_sets rfl rfl (m_sets (d := 3) (e := 14 * ba + 115) (by omega) (by omega) (by omega)) rfl rfl hdd (Nat.le_refl _) (Nat.le_refl _) (by decide) (pm_kv (fun σ' cnt' hq => ?_))
        obtain ⟨rfl, rfl⟩ := hq
        obtain ⟨n_42, en_42⟩ : ∃ f : Nat → Int32, f = upd n_39 (14 * ba + 115) (nI bb) := ⟨_, rfl⟩
        rw [← en_42]
        have hnn_42 := KI.w en_42 hnn_39 (okv_n (show kd (14 * ba + 115) = (1, 10, false) from (kd_P (k := ba) (c := 5) (by omega) (by omega) (by decide))) (by omega))
        have hrn_42 := NRx.w en_42 hrn_39 (by rw [(show kd (14 * ba + 115) = (1, 10, false) from (kd_P (k := ba) (c := 5) (by omega) (by omega) (by decide)))])
        have ksn_42 := KS.w en_42 ksn_39 (by unfold tS; omega)
        have e43 : n_42 (14 * ba + 120) = v34 := by rw [en_42, pk_un (by omega)]; exact e40
        have e44 : n_42 (14 * ba + 114) = (-1) := by rw [en_42, pk_un (by omega)]; exact e41
        have e45 : n_42 (14 * ba + 115) = nI bb := by rw [en_42, pk_us]
        refine pm_aloadn hG dX12_goes_48 rfl ?_
        refine pm_iloadn hG dX12_goes_49 rfl ?_
        refine pm_bipush (v := nI 6) hG dX12_goes_50 (by decide) ?_
        refine pm_aloadn hG dX12_goes_52 rfl ?_
        refine pm_getf hG dX12_goes_53 (flX12_7 _ rfl) rfl rfl ?_
        refine pm_bipush (v := nI 8) hG dX12_goes_56 (by decide) ?_
        refine pm_ialdN hG dX12_goes_58 rfl (by decide) (by omega) ?_
        obtain ⟨k46, hk46, ek46⟩ := KI.nat hnn_42 (show kd 8 = (1, 2001, false) by decide)
        refine pm_top (v := nI k46) ek46 ?_
        refine pm_iloadn hG dX12_goes_59 rfl ?_
        refine pm_top (v := nI k31) ek31 ?_
        refine pm_iaddN (c := k31 + k46) hG dX12_goes_60 (by omega) ?_
        refine pm_callV (As := [.int (nI ba), .int (nI 6), .int (nI (k31 + k46))]) (rest := []) hG hR dX12_goes_61 (lkX12_97 _ rfl) okV_X12_sets rfl rfl (m_sets (d := 3) (e := 14 * ba + 116) (by omega) (by omega) (by omega)) rfl rfl hdd (Nat.le_refl _) (Nat.le_refl _) (by decide) (pm_kv (fun σ' cnt' hq => ?_))
        obtain ⟨rfl, rfl⟩ := hq
        obtain ⟨n_47, en_47⟩ : ∃ f : Nat → Int32, f = upd n_42 (14 * ba + 116) (nI (k31 + k46)) := ⟨_, rfl⟩
        rw [← en_47]
        have hnn_47 := KI.w en_47 hnn_42 (okv_f (show kd (14 * ba + 116) = (0, 0, false) from (kd_P (k := ba) (c := 6) (by omega) (by omega) (by decide))))
        have hrn_47 := NRx.w en_47 hrn_42 (by rw [(show kd (14 * ba + 116) = (0, 0, false) from (kd_P (k := ba) (c := 6) (by omega) (by omega) (by decide)))])
        have ksn_47 := KS.w en_47 ksn_42 (by unfold tS; omega)
        have e48 : n_47 (14 * ba + 120) = v34 := by rw [en_47, pk_un (by omega)]; exact e43
        have e49 : n_47 (14 * ba + 114) = (-1) := by rw [en_47, pk_un (by omega)]; exact e44
        have e50 : n_47 (14 * ba + 115) = nI bb := by rw [en_47, pk_un (by omega)]; exact e45
        have e51 : n_47 8 = nI k46 := by rw [en_47, pk_un (by omega)]; exact ek46
        have e52 : n_47 (14 * ba + 116) = nI (k31 + k46) := by rw [en_47, pk_us]
        refine pm_aloadn hG dX12_goes_64 rfl ?_
        refine pm_getf hG dX12_goes_65 (flX12_7 _ rfl) rfl rfl ?_
        refine pm_bipush (v := nI 8) hG dX12_goes_68 (by decide) ?_
        refine pm_ialdN hG dX12_goes_70 rfl (by decide) (by omega) ?_
        refine pm_top (v := nI k46) e51 ?_
        refine pm_iloadn hG dX12_goes_71 rfl ?_
        refine pm_top (v := nI k31) ek31 ?_
        refine pm_iaddN (c := k31 + k46) hG dX12_goes_72 (by omega) ?_
        exact pm_iret hG hF dX12_goes_73 rfl (Nat.le_refl _) (Nat.le_refl _) ⟨_, rfl, ⟨_, _, _, rfl, hnn_47, hrn_47, ksn_47⟩, rfl⟩
    · refine pm_iconst (v := (-1)) hG dX12_goes_16 (by decide) ?_
      exact pm_iret hG hF dX12_goes_17 rfl (Nat.le_refl _) (Nat.le_refl _) ⟨_, rfl, ⟨_, _, _, rfl, hn, hr, KS.rf⟩, rfl⟩
