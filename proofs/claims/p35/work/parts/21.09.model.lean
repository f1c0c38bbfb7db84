set_option maxRecDepth 100000 in
set_option maxHeartbeats 4000000 in
theorem m_far {d B cnt p0 t0 : Nat} {σ : pm_S} {I : Nat → Int32} {A : Nat → Nat → Int32} {n k z : Nat → Int32} {ac wt pl im : Int32} {za zb : Int32} (hdd : 3 ≤ d) (hn : KI n) (hz : SZ z)  : pm_met mX12_far d 0 0 B [.ref (B + 54), .int za, .int zb] cnt (pm_mid σ (md_L B I A n k z ac wt pl (nI p0) (nI t0) im)) (pm_Qi (fun v σ' cnt' => (∃ (I' : Nat → Int32) (A' : Nat → Nat → Int32), σ' = pm_mid σ (md_L B I' A' n k z ac wt pl (nI p0) (nI t0) im)) ∧ cnt = cnt')) := by
  refine pm_enter 1 (by decide) (Nat.le_of_ble_eq_true rfl) rfl (fun G hG hR hF => ?_)
  refine pm_aloadn hG dX12_far_0 rfl ?_
  refine pm_iloadn hG dX12_far_1 rfl ?_
  obtain ⟨k1, hk1, ek1⟩ := KI.nat hn (show kd 0 = (1, 11, true) by decide)
  refine pm_callV (As := [.int za]) (rest := []) hG hR dX12_far_2 (lkX12_84 _ rfl) okV_X12_isTown rfl rfl (m_isTown (d := 2) (by decide) ek1 (by omega)) rfl rfl hdd (Nat.le_refl _) (Nat.le_refl _) (by decide) (pm_ki (fun v2 σ' cnt' hq => ?_))
  obtain ⟨hq, rfl, rfl⟩ := hq
  rcases hq with ⟨rfl, k4, hk4, ek4⟩ | ⟨rfl, ntk4⟩
  · refine pm_ifN_eq (tgt := 16) hG dX12_far_5 rfl (by omega) (fun q => absurd q (by omega)) (fun _ => ?_)
    refine pm_aloadn hG dX12_far_8 rfl ?_
    refine pm_iloadn hG dX12_far_9 rfl ?_
    refine pm_callV (As := [.int zb]) (rest := []) hG hR dX12_far_10 (lkX12_84 _ rfl) okV_X12_isTown rfl rfl (m_isTown (d := 2) (by decide) ek1 (by omega)) rfl rfl hdd (Nat.le_refl _) (Nat.le_refl _) (by decide) (pm_ki (fun v5 σ' cnt' hq => ?_))
    obtain ⟨hq, rfl, rfl⟩ := hq
    rcases hq with ⟨rfl, k7, hk7, ek7⟩ | ⟨rfl, ntk7⟩
    · refine pm_ifN_ne (tgt := 22) hG dX12_far_13 rfl (by omega) (fun _ => ?_) (fun q => absurd q (by omega))
      refine pm_aloadn hG dX12_far_22 rfl ?_
      refine pm_iloadn hG dX12_far_23 rfl ?_
      refine pm_top (v := nI k4) ek4 ?_
      refine pm_iloadn hG dX12_far_24 rfl ?_
      refine pm_top (v := nI k7) ek7 ?_
      refine pm_callV (As := [.int (nI k4), .int (nI k7)]) (rest := []) hG hR dX12_far_25 (lkX12_88 _ rfl) okV_X12_farOf rfl rfl (m_farOf (d := 2) (by decide) hn hz (by omega)) rfl rfl hdd (Nat.le_refl _) (Nat.le_refl _) (by decide) (pm_ki (fun v8 σ' cnt' hq => ?_))
      obtain ⟨⟨I9, A9, rfl⟩, rfl⟩ := hq
      refine pm_istoreXn (loc' := [some (.ref (B + 54)), some (.int za), some (.int zb), some (.int v8)]) hG dX12_far_28 (by decide) (pm_c1b rfl) rfl ?_
      refine pm_iloadn hG dX12_far_29 rfl ?_
      refine pm_if_ge (tgt := 41) hG dX12_far_30 rfl (fun c10 => ?_) (fun c10 => ?_)
      · obtain ⟨k11, hk11, ek11⟩ := nI_of (Int32.not_lt.mpr c10)
        refine pm_iloadn hG dX12_far_41 rfl ?_
        refine pm_top (v := nI k11) ek11 ?_
        exact pm_iret hG hF dX12_far_42 rfl (Nat.le_refl _) (Nat.le_refl _) ⟨_, rfl, ⟨_, _, rfl⟩, rfl⟩
      · refine pm_aloadn hG dX12_far_33 rfl ?_
        refine pm_iconst (v := nI 2) hG dX12_far_34 (by decide) ?_
        refine pm_callV (As := [.int (nI 2)]) (rest := []) hG hR dX12_far_35 (lkX12_80 _ rfl) okV_X12_finds rfl rfl (m_finds (d := 2) (by decide) hn hz (by omega)) rfl rfl hdd (Nat.le_refl _) (Nat.le_refl _) (by decide) (pm_ki (fun v12 σ' cnt' hq => ?_))
        obtain ⟨⟨I13, A13, rfl⟩, rfl, fv12⟩ := hq
        refine pm_goto (tgt := 42) hG dX12_far_38 rfl ?_
        exact pm_iret hG hF dX12_far_42 rfl (Nat.le_refl _) (Nat.le_refl _) ⟨_, rfl, ⟨_, _, rfl⟩, rfl⟩
    · refine pm_ifN_ne (tgt := 22) hG dX12_far_13 rfl (by omega) (fun q => absurd q (by omega)) (fun _ => ?_)
      refine pm_aloadn hG dX12_far_16 rfl ?_
      refine pm_iconst (v := nI 1) hG dX12_far_17 (by decide) ?_
      refine pm_callV (As := [.int (nI 1)]) (rest := []) hG hR dX12_far_18 (lkX12_80 _ rfl) okV_X12_finds rfl rfl (m_finds (d := 2) (by decide) hn hz (by omega)) rfl rfl hdd (Nat.le_refl _) (Nat.le_refl _) (by decide) (pm_ki (fun v14 σ' cnt' hq => ?_))
      obtain ⟨⟨I15, A15, rfl⟩, rfl, fv14⟩ := hq
      exact pm_iret hG hF dX12_far_21 rfl (Nat.le_refl _) (Nat.le_refl _) ⟨_, rfl, ⟨_, _, rfl⟩, rfl⟩
  · refine pm_ifN_eq (tgt := 16) hG dX12_far_5 rfl (by omega) (fun _ => ?_) (fun q => absurd q (by omega))
    refine pm_aloadn hG dX12_far_16 rfl ?_
    refine pm_iconst (v := nI 1) hG dX12_far_17 (by decide) ?_
    refine pm_callV (As := [.int (nI 1)]) (rest := []) hG hR dX12_far_18 (lkX12_80 _ rfl) okV_X12_finds rfl rfl (m_finds (d := 2) (by decide) hn hz (by omega)) rfl rfl hdd (Nat.le_refl _) (Nat.le_refl _) (by decide) (pm_ki (fun v16 σ' cnt' hq => ?_))
    obtain ⟨⟨I17, A17, rfl⟩, rfl, fv16⟩ := hq
    exact pm_iret hG hF dX12_far_21 rfl (Nat.le_refl _) (Nat.le_refl _) ⟨_, rfl, ⟨_, _, rfl⟩, rfl⟩

set_option maxRecDepth 100000 in
set_option maxHeartbeats 4000000 in
theorem m_feed {d B cnt p0 t0 : Nat} {σ : pm_S} {I : Nat → Int32} {A : Nat → Nat → Int32} {n k z : Nat → Int32} {ac wt pl im : Int32} {zb : Int32} {za : Int64} (hdd : 2 ≤ d) (hn : KI n) (hr : NR n) (hz : SZ z)  : pm_met mX12_feed d 0 0 B [.ref (B + 54), .long za, .int zb] cnt (pm_mid σ (md_L B I A n k z ac wt pl (nI p0) (nI t0) im)) (pm_Qi (fun v σ' cnt' => (∃ (I' : Nat → Int32) (A' : Nat → Nat → Int32) (n' : Nat → Int32), σ' = pm_mid σ (md_L B I' A' n' k z ac wt pl (nI p0) (nI t0) im) ∧ KI n' ∧ NR n' ∧ n' 0 = n 0 ∧ n' 2 = n 2 ∧ n' 7 = n 7 ∧ n' 8 = n 8 ∧ KS n' n) ∧ cnt = cnt')) := by
  obtain ⟨kc0, hkc0, ekc0⟩ := KI.nat hn (show kd 0 = (1, 11, true) by decide)
  obtain ⟨kc2, hkc2, ekc2⟩ := KI.nat hn (show kd 2 = (1, 21, true) by decide)
  obtain ⟨kc7, hkc7, ekc7⟩ := KI.nat hn (show kd 7 = (1, 31, false) by decide)
  obtain ⟨kc8, hkc8, ekc8⟩ := KI.nat hn (show kd 8 = (1, 2001, false) by decide)
  refine pm_enter 1 (by decide) (Nat.le_of_ble_eq_true rfl) rfl (fun G hG hR hF => ?_)
  refine pm_iloadn hG dX12_feed_0 rfl ?_
  refine pm_iconst (v := nI 1) hG dX12_feed_1 (by decide) ?_
  refine pm_bipush (v := nI 8) hG dX12_feed_2 (by decide) ?_
  refine pm_callS (As := [.int zb, .int (nI 1), .int (nI 8)]) (rest := []) hG hR dX12_feed_4 (lkX12_68 _ rfl) okS_X12_in (m_in (d := 1)) rfl rfl hdd (Nat.le_refl _) (Nat.le_refl _) (by decide) (pm_ki (fun v1 σ' cnt' hq => ?_))
  obtain ⟨hq, rfl, rfl⟩ := hq
  rcases hq with ⟨rfl, ac2, bc2⟩ | ⟨rfl, c2⟩
  · obtain ⟨k3, hk3, ek3⟩ := in_nat (by omega) (by omega) ac2 bc2
    refine pm_ifN_ne (tgt := 16) hG dX12_feed_7 rfl (by omega) (fun _ => ?_) (fun q => absurd q (by omega))
    refine pm_aloadn hG dX12_feed_16 rfl ?_
    refine pm_getf hG dX12_feed_17 (flX12_7 _ rfl) rfl rfl ?_
    refine pm_bipush (v := nI 10) hG dX12_feed_20 (by decide) ?_
    refine pm_ialdN hG dX12_feed_22 rfl (by decide) (by omega) ?_
    obtain ⟨k4, hk4, ek4⟩ := KI.nat hn (show kd 10 = (1, 61, false) by decide)
    refine pm_top (v := nI k4) ek4 ?_
    refine pm_iloadn hG dX12_feed_23 rfl ?_
    refine pm_top (v := nI k3) ek3 ?_
    refine pm_iaddN (c := k3 + k4) hG dX12_feed_24 (by omega) ?_
    refine pm_bipush (v := nI 60) hG dX12_feed_25 (by decide) ?_
    refine pm_icmpN_le (tgt := 36) hG dX12_feed_27 rfl (by omega) (by omega) (fun c5 => ?_) (fun c5 => ?_)
    · refine pm_iconst (v := nI 0) hG dX12_feed_36 (by decide) ?_
      refine pm_istoreXi (loc' := [some (.ref (B + 54)), some (.long za), none, some (.int zb), some (.int (nI 0))]) hG dX12_feed_37 (by decide) (pm_c1b rfl) rfl ?_
      have loop39_6 : ∀ (m6 : Nat) (I6 : Nat → Int32) (A6 : Nat → Nat → Int32) (n_6 : Nat → Int32) (i6 : Nat), KI n_6 → KS n_6 n → NRx 40 n_6 → n_6 0 = nI kc0 → n_6 2 = nI kc2 → n_6 7 = nI kc7 → n_6 8 = nI kc8 → n_6 10 = nI (i6 + k4) → i6 ≤ 8 → 8 - i6 < m6 → pm_wp mX12_feed G B 39 [some (.ref (B + 54)), some (.long za), none, some (.int zb), some (.int (nI i6))] [] 0 0 cnt (pm_mid σ (md_L B I6 A6 n_6 k z ac wt pl (nI p0) (nI t0) im)) := by
        intro m6
        induction m6 with
        | zero => intro I6 A6 n_6 i6 _ _ _ _ _ _ _ _ _ hm; exact absurd hm (Nat.not_lt_zero _)
        | succ m6 ih6 =>
          intro I6 A6 n_6 i6 hnn_6 ksn_6 hrn_6 kc6_0 kc6_2 kc6_7 kc6_8 kc6_10 hi6 hm6
          refine pm_iloadi hG dX12_feed_39 rfl ?_
          refine pm_iloadn hG dX12_feed_41 rfl ?_
          refine pm_top (v := nI k3) ek3 ?_
          refine pm_icmpN_ge (tgt := 90) hG dX12_feed_42 rfl (by omega) (by omega) (fun c7 => ?_) (fun c7 => ?_)
          · refine pm_aloadn hG dX12_feed_90 rfl ?_
            refine pm_getf hG dX12_feed_91 (flX12_7 _ rfl) rfl rfl ?_
            refine pm_bipush (v := nI 10) hG dX12_feed_94 (by decide) ?_
            refine pm_ialdN hG dX12_feed_96 rfl (by decide) (by omega) ?_
            refine pm_top (v := nI (i6 + k4)) kc6_10 ?_
            exact pm_iret hG hF dX12_feed_97 rfl (Nat.le_refl _) (Nat.le_refl _) ⟨_, rfl, ⟨_, _, _, rfl, hnn_6, hrn_6, kc6_0.trans ekc0.symm, kc6_2.trans ekc2.symm, kc6_7.trans ekc7.symm, kc6_8.trans ekc8.symm, ksn_6⟩, rfl⟩
          · refine pm_aloadn hG dX12_feed_45 rfl ?_
            refine pm_getf hG dX12_feed_46 (flX12_7 _ rfl) rfl rfl ?_
            refine pm_sipush (v := nI 1991) hG dX12_feed_49 (by decide) ?_
            refine pm_aloadn hG dX12_feed_52 rfl ?_
            refine pm_getf hG dX12_feed_53 (flX12_7 _ rfl) rfl rfl ?_
            refine pm_bipush (v := nI 10) hG dX12_feed_56 (by decide) ?_
            refine pm_ialdN hG dX12_feed_58 rfl (by decide) (by omega) ?_
            refine pm_top (v := nI (i6 + k4)) kc6_10 ?_
            refine pm_iaddN (c := i6 + k4 + 1991) hG dX12_feed_59 (by omega) ?_
            refine pm_lloadn hG dX12_feed_60 rfl ?_
            refine pm_bipush (v := nI 8) hG dX12_feed_61 (by decide) ?_
            refine pm_iloadi hG dX12_feed_63 rfl ?_
            refine pm_imulN (c := 8 * i6) hG dX12_feed_65 (by omega) ?_
            refine pm_lshr hG dX12_feed_66 rfl ?_
            refine pm_ldc2 hG dX12_feed_67 (ctX12_142 _ rfl) ?_
            refine pm_land hG dX12_feed_70 ?_
            refine pm_l2i hG dX12_feed_71 rfl ?_
            refine pm_any (fun x8 => ?_)
            refine pm_iastN hG dX12_feed_72 rfl (by decide) (by omega) ?_
            refine mdn_now (fun n_9 en_9 => ?_)
            have hnn_9 := KI.w en_9 hnn_6 (okv_f (show kd (i6 + k4 + 1991) = (0, 0, false) from (kd_O (by omega))))
            have hrn_9 := NRx.w en_9 hrn_6 (by rw [(show kd (i6 + k4 + 1991) = (0, 0, false) from (kd_O (by omega)))])
            have ksn_9 := KS.w en_9 ksn_6 (by unfold tS; omega)
            have e10 : n_9 0 = nI kc0 := by rw [en_9, pk_un (by omega)]; exact kc6_0
            have e11 : n_9 2 = nI kc2 := by rw [en_9, pk_un (by omega)]; exact kc6_2
            have e12 : n_9 7 = nI kc7 := by rw [en_9, pk_un (by omega)]; exact kc6_7
            have e13 : n_9 8 = nI kc8 := by rw [en_9, pk_un (by omega)]; exact kc6_8
            have e14 : n_9 10 = nI (i6 + k4) := by rw [en_9, pk_un (by omega)]; exact kc6_10
            have e15 : n_9 (i6 + k4 + 1991) = x8 := by rw [en_9, pk_us]
            refine pm_aloadn hG dX12_feed_73 rfl ?_
            refine pm_getf hG dX12_feed_74 (flX12_7 _ rfl) rfl rfl ?_
            refine pm_bipush (v := nI 10) hG dX12_feed_77 (by decide) ?_
            refine pm_dup2 hG dX12_feed_79 rfl rfl ?_
            refine pm_ialdN hG dX12_feed_80 rfl (by decide) (by omega) ?_
            refine pm_top (v := nI (i6 + k4)) e14 ?_
            refine pm_iconst (v := nI 1) hG dX12_feed_81 (by decide) ?_
            refine pm_iaddN (c := i6 + k4 + 1) hG dX12_feed_82 (by omega) ?_
            refine pm_iastN hG dX12_feed_83 rfl (by decide) (by omega) ?_
            refine mdn_now (fun n_16 en_16 => ?_)
            have hnn_16 := KI.w en_16 hnn_9 (okv_n (show kd 10 = (1, 61, false) by decide) (by omega))
            have hrn_16 := NRx.w en_16 hrn_9 (by rw [(show kd 10 = (1, 61, false) by decide)])
            have ksn_16 := KS.w en_16 ksn_9 (by unfold tS; omega)
            have e17 : n_16 0 = nI kc0 := by rw [en_16, pk_un (by omega)]; exact e10
            have e18 : n_16 2 = nI kc2 := by rw [en_16, pk_un (by omega)]; exact e11
            have e19 : n_16 7 = nI kc7 := by rw [en_16, pk_un (by omega)]; exact e12
            have e20 : n_16 8 = nI kc8 := by rw [en_16, pk_un (by omega)]; exact e13
            have e21 : n_16 (i6 + k4 + 1991) = x8 := by rw [en_16, pk_un (by omega)]; exact e15
            have e22 : n_16 10 = nI (i6 + k4 + 1) := by rw [en_16, pk_us]
            refine pm_iincX (v := nI (i6 + 1)) (loc' := [some (.ref (B + 54)), some (.long za), none, some (.int zb), some (.int (nI (i6 + 1)))]) hG dX12_feed_84 rfl (nI_1 _) (by decide) (pm_c1b rfl) rfl ?_
            refine pm_goto (tgt := 39) hG dX12_feed_87 rfl ?_
            exact ih6 I6 A6 n_16 (i6 + 1) hnn_16 ksn_16 hrn_16 (e17.trans (congrArg nI (by omega))) (e18.trans (congrArg nI (by omega))) (e19.trans (congrArg nI (by omega))) (e20.trans (congrArg nI (by omega))) (e22.trans (congrArg nI (by omega))) (by omega) (by omega)
      exact loop39_6 _ I A n 0 hn KS.rf hr (ekc0.trans (congrArg nI (by omega))) (ekc2.trans (congrArg nI (by omega))) (ekc7.trans (congrArg nI (by omega))) (ekc8.trans (congrArg nI (by omega))) (ek4.trans (congrArg nI (by omega))) (by omega) (Nat.lt_succ_self _)
    · refine pm_aloadn hG dX12_feed_30 rfl ?_
      refine pm_iconst (v := nI 4) hG dX12_feed_31 (by decide) ?_
      refine pm_callV (As := [.int (nI 4)]) (rest := []) hG hR dX12_feed_32 (lkX12_80 _ rfl) okV_X12_finds rfl rfl (m_finds (d := 1) (by decide) hn hz (by omega)) rfl rfl hdd (Nat.le_refl _) (Nat.le_refl _) (by decide) (pm_ki (fun v23 σ' cnt' hq => ?_))
      obtain ⟨⟨I24, A24, rfl⟩, rfl, fv23⟩ := hq
      exact pm_iret hG hF dX12_feed_35 rfl (Nat.le_refl _) (Nat.le_refl _) ⟨_, rfl, ⟨_, _, _, rfl, hn, hr, ekc0.trans ekc0.symm, ekc2.trans ekc2.symm, ekc7.trans ekc7.symm, ekc8.trans ekc8.symm, KS.rf⟩, rfl⟩
  · refine pm_ifN_ne (tgt := 16) hG dX12_feed_7 rfl (by omega) (fun q => absurd q (by omega)) (fun _ => ?_)
    refine pm_aloadn hG dX12_feed_10 rfl ?_
    refine pm_iconst (v := nI 1) hG dX12_feed_11 (by decide) ?_
    refine pm_callV (As := [.int (nI 1)]) (rest := []) hG hR dX12_feed_12 (lkX12_80 _ rfl) okV_X12_finds rfl rfl (m_finds (d := 1) (by decide) hn hz (by omega)) rfl rfl hdd (Nat.le_refl _) (Nat.le_refl _) (by decide) (pm_ki (fun v25 σ' cnt' hq => ?_))
    obtain ⟨⟨I26, A26, rfl⟩, rfl, fv25⟩ := hq
    exact pm_iret hG hF dX12_feed_15 rfl (Nat.le_refl _) (Nat.le_refl _) ⟨_, rfl, ⟨_, _, _, rfl, hn, hr, ekc0.trans ekc0.symm, ekc2.trans ekc2.symm, ekc7.trans ekc7.symm, ekc8.trans ekc8.symm, KS.rf⟩, rfl⟩

set_option maxRecDepth 100000 in
set_option maxHeartbeats 4000000 in
theorem m_force {d B cnt p0 t0 : Nat} {σ : pm_S} {I : Nat → Int32} {A : Nat → Nat → Int32} {n k z : Nat → Int32} {ac wt pl im : Int32} {za zb zc : Int32} (hdd : 2 ≤ d) (hn : KI n) (hz : SZ z)  : pm_met mX12_force d 0 0 B [.ref (B + 54), .int za, .int zb, .int zc] cnt (pm_mid σ (md_L B I A n k z ac wt pl (nI p0) (nI t0) im)) (pm_Qi (fun v σ' cnt' => (∃ (I' : Nat → Int32) (A' : Nat → Nat → Int32), σ' = pm_mid σ (md_L B I' A' n k z ac wt pl (nI p0) (nI t0) im)) ∧ cnt = cnt')) := by
  refine pm_enter 1 (by decide) (Nat.le_of_ble_eq_true rfl) rfl (fun G hG hR hF => ?_)
  refine pm_iloadn hG dX12_force_0 rfl ?_
  refine pm_iconst (v := nI 0) hG dX12_force_1 (by decide) ?_
  refine pm_iconst (v := nI 4) hG dX12_force_2 (by decide) ?_
  refine pm_callS (As := [.int za, .int (nI 0), .int (nI 4)]) (rest := []) hG hR dX12_force_3 (lkX12_68 _ rfl) okS_X12_in (m_in (d := 1)) rfl rfl hdd (Nat.le_refl _) (Nat.le_refl _) (by decide) (pm_ki (fun v1 σ' cnt' hq => ?_))
  obtain ⟨hq, rfl, rfl⟩ := hq
  rcases hq with ⟨rfl, ac2, bc2⟩ | ⟨rfl, c2⟩
  · obtain ⟨k3, hk3, ek3⟩ := in_nat (by omega) (by omega) ac2 bc2
    refine pm_ifN_eq (tgt := 27) hG dX12_force_6 rfl (by omega) (fun q => absurd q (by omega)) (fun _ => ?_)
    refine pm_iloadn hG dX12_force_9 rfl ?_
    refine pm_callS (As := [.int zb]) (rest := []) hG hR dX12_force_10 (lkX12_186 _ rfl) okS_X12_isDay (m_isDay (d := 1) (by decide)) rfl rfl hdd (Nat.le_refl _) (Nat.le_refl _) (by decide) (pm_ki (fun v4 σ' cnt' hq => ?_))
    obtain ⟨hq, rfl, rfl⟩ := hq
    rcases hq with ⟨rfl, ac5, bc5⟩ | ⟨rfl, c5⟩
    · obtain ⟨k6, hk6, ek6⟩ := in_nat (by omega) (by omega) ac5 bc5
      refine pm_ifN_eq (tgt := 27) hG dX12_force_13 rfl (by omega) (fun q => absurd q (by omega)) (fun _ => ?_)
      refine pm_iloadn hG dX12_force_16 rfl ?_
      refine pm_iconst (v := (-1)) hG dX12_force_17 (by decide) ?_
      refine pm_sipush (v := nI 2000) hG dX12_force_18 (by decide) ?_
      refine pm_callS (As := [.int zc, .int (-1), .int (nI 2000)]) (rest := []) hG hR dX12_force_21 (lkX12_68 _ rfl) okS_X12_in (m_in (d := 1)) rfl rfl hdd (Nat.le_refl _) (Nat.le_refl _) (by decide) (pm_ki (fun v7 σ' cnt' hq => ?_))
      obtain ⟨hq, rfl, rfl⟩ := hq
      rcases hq with ⟨rfl, ac8, bc8⟩ | ⟨rfl, c8⟩
      · refine pm_ifN_ne (tgt := 33) hG dX12_force_24 rfl (by omega) (fun _ => ?_) (fun q => absurd q (by omega))
        refine pm_aloadn hG dX12_force_33 rfl ?_
        refine pm_iloadn hG dX12_force_34 rfl ?_
        refine pm_top (v := nI k3) ek3 ?_
        refine pm_iloadn hG dX12_force_35 rfl ?_
        refine pm_top (v := nI k6) ek6 ?_
        refine pm_iloadn hG dX12_force_36 rfl ?_
        refine pm_callV (As := [.int (nI k3), .int (nI k6), .int zc]) (rest := []) hG hR dX12_force_37 (lkX12_195 _ rfl) okV_X12_inForce rfl rfl (m_inForce (d := 1) (by decide) hn hz) rfl rfl hdd (Nat.le_refl _) (Nat.le_refl _) (by decide) (pm_ki (fun v9 σ' cnt' hq => ?_))
        obtain ⟨rfl, rfl, rv9⟩ := hq
        rcases rv9 with rfl | ⟨k11, hk11, rfl⟩
        · refine pm_istoreXi (loc' := [some (.ref (B + 54)), some (.int za), some (.int zb), some (.int zc), some (.int (-1))]) hG dX12_force_40 (by decide) (pm_c1b rfl) rfl ?_
          refine pm_iloadi hG dX12_force_42 rfl ?_
          refine pm_if_ge (tgt := 55) hG dX12_force_44 rfl (fun q => absurd q (by decide)) (fun _ => ?_)
          refine pm_aloadn hG dX12_force_47 rfl ?_
          refine pm_iconst (v := nI 2) hG dX12_force_48 (by decide) ?_
          refine pm_callV (As := [.int (nI 2)]) (rest := []) hG hR dX12_force_49 (lkX12_80 _ rfl) okV_X12_finds rfl rfl (m_finds (d := 1) (by decide) hn hz (by omega)) rfl rfl hdd (Nat.le_refl _) (Nat.le_refl _) (by decide) (pm_ki (fun v12 σ' cnt' hq => ?_))
          obtain ⟨⟨I13, A13, rfl⟩, rfl, fv12⟩ := hq
          refine pm_goto (tgt := 57) hG dX12_force_52 rfl ?_
          exact pm_iret hG hF dX12_force_57 rfl (Nat.le_refl _) (Nat.le_refl _) ⟨_, rfl, ⟨_, _, rfl⟩, rfl⟩
        · refine pm_istoreXi (loc' := [some (.ref (B + 54)), some (.int za), some (.int zb), some (.int zc), some (.int (nI k11))]) hG dX12_force_40 (by decide) (pm_c1b rfl) rfl ?_
          refine pm_iloadi hG dX12_force_42 rfl ?_
          refine pm_ifN_ge (tgt := 55) hG dX12_force_44 rfl (by omega) ?_
          refine pm_iloadi hG dX12_force_55 rfl ?_
          exact pm_iret hG hF dX12_force_57 rfl (Nat.le_refl _) (Nat.le_refl _) ⟨_, rfl, ⟨_, _, rfl⟩, rfl⟩
      · refine pm_ifN_ne (tgt := 33) hG dX12_force_24 rfl (by omega) (fun q => absurd q (by omega)) (fun _ => ?_)
        refine pm_aloadn hG dX12_force_27 rfl ?_
        refine pm_iconst (v := nI 1) hG dX12_force_28 (by decide) ?_
        refine pm_callV (As := [.int (nI 1)]) (rest := []) hG hR dX12_force_29 (lkX12_80 _ rfl) okV_X12_finds rfl rfl (m_finds (d := 1) (by decide) hn hz (by omega)) rfl rfl hdd (Nat.le_refl _) (Nat.le_refl _) (by decide) (pm_ki (fun v14 σ' cnt' hq => ?_))
        obtain ⟨⟨I15, A15, rfl⟩, rfl, fv14⟩ := hq
        exact pm_iret hG hF dX12_force_32 rfl (Nat.le_refl _) (Nat.le_refl _) ⟨_, rfl, ⟨_, _, rfl⟩, rfl⟩
    · refine pm_ifN_eq (tgt := 27) hG dX12_force_13 rfl (by omega) (fun _ => ?_) (fun q => absurd q (by omega))
      refine pm_aloadn hG dX12_force_27 rfl ?_
      refine pm_iconst (v := nI 1) hG dX12_force_28 (by decide) ?_
      refine pm_callV (As := [.int (nI 1)]) (rest := []) hG hR dX12_force_29 (lkX12_80 _ rfl) okV_X12_finds rfl rfl (m_finds (d := 1) (by decide) hn hz (by omega)) rfl rfl hdd (Nat.le_refl _) (Nat.le_refl _) (by decide) (pm_ki (fun v16 σ' cnt' hq => ?_))
      obtain ⟨⟨I17, A17, rfl⟩, rfl, fv16⟩ := hq
      exact pm_iret hG hF dX12_force_32 rfl (Nat.le_refl _) (Nat.le_refl _) ⟨_, rfl, ⟨_, _, rfl⟩, rfl⟩
  · refine pm_ifN_eq (tgt := 27) hG dX12_force_6 rfl (by omega) (fun _ => ?_) (fun q => absurd q (by omega))
    refine pm_aloadn hG dX12_force_27 rfl ?_
    refine pm_iconst (v := nI 1) hG dX12_force_28 (by decide) ?_
    refine pm_callV (As := [.int (nI 1)]) (rest := []) hG hR dX12_force_29 (lkX12_80 _ rfl) okV_X12_finds rfl rfl (m_finds (d := 1) (by decide) hn hz (by omega)) rfl rfl hdd (Nat.le_refl _) (Nat.le_refl _) (by decide) (pm_ki (fun v18 σ' cnt' hq => ?_))
    obtain ⟨⟨I19, A19, rfl⟩, rfl, fv18⟩ := hq
    exact pm_iret hG hF dX12_force_32 rfl (Nat.le_refl _) (Nat.le_refl _) ⟨_, rfl, ⟨_, _, rfl⟩, rfl⟩

set_option maxRecDepth 100000 in
set_option maxHeartbeats 4000000 in
theorem m_found {d B cnt p0 t0 : Nat} {σ : pm_S} {I : Nat → Int32} {A : Nat → Nat → Int32} {n k z : Nat → Int32} {ac wt pl im : Int32} {za : Int32} (hdd : 2 ≤ d) (hn : KI n) (hz : SZ z)  : pm_met mX12_found d 0 0 B [.ref (B + 54), .int za] cnt (pm_mid σ (md_L B I A n k z ac wt pl (nI p0) (nI t0) im)) (pm_Qi (fun v σ' cnt' => (∃ (I' : Nat → Int32) (A' : Nat → Nat → Int32), σ' = pm_mid σ (md_L B I' A' n k z ac wt pl (nI p0) (nI t0) im)) ∧ cnt = cnt')) := by
  refine pm_enter 0 (by decide) (Nat.le_of_ble_eq_true rfl) rfl (fun G hG hR hF => ?_)
  refine pm_iloadn hG dX12_found_0 rfl ?_
  refine pm_iconst (v := nI 1) hG dX12_found_1 (by decide) ?_
  refine pm_iconst (v := nI 5) hG dX12_found_2 (by decide) ?_
  refine pm_callS (As := [.int za, .int (nI 1), .int (nI 5)]) (rest := []) hG hR dX12_found_3 (lkX12_68 _ rfl) okS_X12_in (m_in (d := 1)) rfl rfl hdd (Nat.le_refl _) (Nat.le_refl _) (by decide) (pm_ki (fun v1 σ' cnt' hq => ?_))
  obtain ⟨hq, rfl, rfl⟩ := hq
  rcases hq with ⟨rfl, ac2, bc2⟩ | ⟨rfl, c2⟩
  · obtain ⟨k3, hk3, ek3⟩ := in_nat (by omega) (by omega) ac2 bc2
    refine pm_ifN_eq (tgt := 18) hG dX12_found_6 rfl (by omega) (fun q => absurd q (by omega)) (fun _ => ?_)
    refine pm_aloadn hG dX12_found_9 rfl ?_
    refine pm_getf hG dX12_found_10 (flX12_16 _ rfl) rfl rfl ?_
    refine pm_iloadn hG dX12_found_13 rfl ?_
    refine pm_top (v := nI k3) ek3 ?_
    refine pm_ialdN hG dX12_found_14 rfl (by decide) (by omega) ?_
    refine pm_any (fun x4 => ?_)
    refine pm_goto (tgt := 23) hG dX12_found_15 rfl ?_
    exact pm_iret hG hF dX12_found_23 rfl (Nat.le_refl _) (Nat.le_refl _) ⟨_, rfl, ⟨_, _, rfl⟩, rfl⟩
  · refine pm_ifN_eq (tgt := 18) hG dX12_found_6 rfl (by omega) (fun _ => ?_) (fun q => absurd q (by omega))
    refine pm_aloadn hG dX12_found_18 rfl ?_
    refine pm_iconst (v := nI 1) hG dX12_found_19 (by decide) ?_
    refine pm_callV (As := [.int (nI 1)]) (rest := []) hG hR dX12_found_20 (lkX12_80 _ rfl) okV_X12_finds rfl rfl (m_finds (d := 1) (by decide) hn hz (by omega)) rfl rfl hdd (Nat.le_refl _) (Nat.le_refl _) (by decide) (pm_ki (fun v5 σ' cnt' hq => ?_))
    obtain ⟨⟨I6, A6, rfl⟩, rfl, fv5⟩ := hq
    exact pm_iret hG hF dX12_found_23 rfl (Nat.le_refl _) (Nat.le_refl _) ⟨_, rfl, ⟨_, _, rfl⟩, rfl⟩

set_option maxRecDepth 100000 in
set_option maxHeartbeats 4000000 in
theorem m_give {d B cnt p0 t0 : Nat} {σ : pm_S} {I : Nat → Int32} {A : Nat → Nat → Int32} {n k z : Nat → Int32} {ac wt pl im : Int32} {za zb : Int32} (hdd : 2 ≤ d) (hn : KI n) (hr : NR n) (hz : SZ z)  : pm_met mX12_give d 0 0 B [.ref (B + 54), .int za, .int zb] cnt (pm_mid σ (md_L B I A n k z ac wt pl (nI p0) (nI t0) im)) (pm_Qi (fun v σ' cnt' => (∃ (I' : Nat → Int32) (A' : Nat → Nat → Int32) (n' : Nat → Int32), σ' = pm_mid σ (md_L B I' A' n' k z ac wt pl (nI p0) (nI t0) im) ∧ KI n' ∧ NR n' ∧ n' 0 = n 0 ∧ n' 2 = n 2 ∧ n' 7 = n 7 ∧ n' 8 = n 8 ∧ KS n' n) ∧ cnt = cnt')) := by
  obtain ⟨kc0, hkc0, ekc0⟩ := KI.nat hn (show kd 0 = (1, 11, true) by decide)
  obtain ⟨kc2, hkc2, ekc2⟩ := KI.nat hn (show kd 2 = (1, 21, true) by decide)
  obtain ⟨kc7, hkc7, ekc7⟩ := KI.nat hn (show kd 7 = (1, 31, false) by decide)
  obtain ⟨kc8, hkc8, ekc8⟩ := KI.nat hn (show kd 8 = (1, 2001, false) by decide)
  refine pm_enter 1 (by decide) (Nat.le_of_ble_eq_true rfl) rfl (fun G hG hR hF => ?_)
  refine pm_aloadn hG dX12_give_0 rfl ?_
  refine pm_iloadn hG dX12_give_1 rfl ?_
  obtain ⟨k1, hk1, ek1⟩ := KI.nat hn (show kd 3 = (1, 21, false) by decide)
  refine pm_callV (As := [.int za]) (rest := []) hG hR dX12_give_2 (lkX12_132 _ rfl) okV_X12_isPower rfl rfl (m_isPower (d := 1) (by decide) ek1 (by omega)) rfl rfl hdd (Nat.le_refl _) (Nat.le_refl _) (by decide) (pm_ki (fun v2 σ' cnt' hq => ?_))
  obtain ⟨hq, rfl, rfl⟩ := hq
  rcases hq with ⟨rfl, k4, hk4, ek4⟩ | rfl
  · refine pm_ifN_eq (tgt := 29) hG dX12_give_5 rfl (by omega) (fun q => absurd q (by omega)) (fun _ => ?_)
    refine pm_iloadn hG dX12_give_8 rfl ?_
    refine pm_iconst (v := (-1)) hG dX12_give_9 (by decide) ?_
    refine pm_icmp_eq (tgt := 35) hG dX12_give_10 rfl (fun c5 => ?_) (fun c5 => ?_)
    · refine pm_aloadn hG dX12_give_35 rfl ?_
      refine pm_iloadn hG dX12_give_36 rfl ?_
      refine pm_top (v := nI k4) ek4 ?_
      refine pm_iconst (v := nI 2) hG dX12_give_37 (by decide) ?_
      refine pm_callV (As := [.int (nI k4), .int (nI 2)]) (rest := []) hG hR dX12_give_38 (lkX12_110 _ rfl) okV_X12_its rfl rfl (m_its (d := 1) (e := 6 * k4 + 392) (by omega) (by omega) (by omega)) rfl rfl hdd (Nat.le_refl _) (Nat.le_refl _) (by decide) (pm_ki (fun v6 σ' cnt' hq => ?_))
      obtain ⟨rfl, rfl, rfl⟩ := hq
      rcases KI.opt hn (show kd (6 * k4 + 392) = (2, 20, false) from (kd_W (k := k4) (c := 2) (by omega) (by omega) (by decide))) with ek7 | ⟨k7, hk7, ek7⟩
      · refine pm_top (v := (-1)) ek7 ?_
        refine pm_if_lt (tgt := 50) hG dX12_give_41 rfl (fun _ => ?_) (fun q => absurd q (by decide))
        refine pm_aloadn hG dX12_give_50 rfl ?_
        refine pm_iloadn hG dX12_give_51 rfl ?_
        refine pm_top (v := nI k4) ek4 ?_
        refine pm_iconst (v := nI 1) hG dX12_give_52 (by decide) ?_
        refine pm_callV (As := [.int (nI k4), .int (nI 1)]) (rest := []) hG hR dX12_give_53 (lkX12_110 _ rfl) okV_X12_its rfl rfl (m_its (d := 1) (e := 6 * k4 + 391) (by omega) (by omega) (by omega)) rfl rfl hdd (Nat.le_refl _) (Nat.le_refl _) (by decide) (pm_ki (fun v8 σ' cnt' hq => ?_))
        obtain ⟨rfl, rfl, rfl⟩ := hq
        rcases KI.opt hn (show kd (6 * k4 + 391) = (2, 20, false) from (kd_W (k := k4) (c := 1) (by omega) (by omega) (by decide))) with ek9 | ⟨k9, hk9, ek9⟩
        · refine pm_top (v := (-1)) ek9 ?_
          refine pm_istoreXn (loc' := [some (.ref (B + 54)), some (.int za), some (.int zb), some (.int (-1))]) hG dX12_give_56 (by decide) (pm_c1b rfl) rfl ?_
          refine pm_aloadn hG dX12_give_57 rfl ?_
          refine pm_iloadn hG dX12_give_58 rfl ?_
          refine pm_top (v := nI k4) ek4 ?_
          refine pm_iconst (v := nI 1) hG dX12_give_59 (by decide) ?_
          refine pm_iloadn hG dX12_give_60 rfl ?_
          refine pm_top (v := (-1)) c5 ?_
          refine pm_callV (As := [.int (nI k4), .int (nI 1), .int (-1)]) (rest := []) hG hR dX12_give_61 (lkX12_113 _ rfl) okV_X12_makes rfl rfl (m_makes (d := 1) (e := 6 * k4 + 391) (by omega) (by omega) (by omega)) rfl rfl hdd (Nat.le_refl _) (Nat.le_refl _) (by decide) (pm_kv (fun σ' cnt' hq => ?_))
          obtain ⟨rfl, rfl⟩ := hq
          obtain ⟨n_10, en_10⟩ : ∃ f : Nat → Int32, f = upd n (6 * k4 + 391) (-1) := ⟨_, rfl⟩
          rw [← en_10]
          have hnn_10 := KI.w en_10 hn (okv_m (show kd (6 * k4 + 391) = (2, 20, false) from (kd_W (k := k4) (c := 1) (by omega) (by omega) (by decide))))
          have hrn_10 := NRx.w en_10 hr (by rw [(show kd (6 * k4 + 391) = (2, 20, false) from (kd_W (k := k4) (c := 1) (by omega) (by omega) (by decide)))])
          have ksn_10 := KS.w en_10 KS.rf (by unfold tS; omega)
          have e11 : n_10 0 = nI kc0 := by rw [en_10, pk_un (by omega)]; exact ekc0
          have e12 : n_10 2 = nI kc2 := by rw [en_10, pk_un (by omega)]; exact ekc2
          have e13 : n_10 7 = nI kc7 := by rw [en_10, pk_un (by omega)]; exact ekc7
          have e14 : n_10 8 = nI kc8 := by rw [en_10, pk_un (by omega)]; exact ekc8
          have e15 : n_10 3 = nI k1 := by rw [en_10, pk_un (by omega)]; exact ek1
          have e16 : n_10 (6 * k4 + 392) = (-1) := by rw [en_10, pk_un (by omega)]; exact ek7
          have e17 : n_10 (6 * k4 + 391) = (-1) := by rw [en_10, pk_us]
          refine pm_iloadn hG dX12_give_64 rfl ?_
          exact pm_iret hG hF dX12_give_65 rfl (Nat.le_refl _) (Nat.le_refl _) ⟨_, rfl, ⟨_, _, _, rfl, hnn_10, hrn_10, e11.trans ekc0.symm, e12.trans ekc2.symm, e13.trans ekc7.symm, e14.trans ekc8.symm, ksn_10⟩, rfl⟩
        · refine pm_top (v := nI k9) ek9 ?_
          refine pm_istoreXn (loc' := [some (.ref (B + 54)), some (.int za), some (.int zb), some (.int (nI k9))]) hG dX12_give_56 (by decide) (pm_c1b rfl) rfl ?_
          refine pm_aloadn hG dX12_give_57 rfl ?_
          refine pm_iloadn hG dX12_give_58 rfl ?_
          refine pm_top (v := nI k4) ek4 ?_
          refine pm_iconst (v := nI 1) hG dX12_give_59 (by decide) ?_
          refine pm_iloadn hG dX12_give_60 rfl ?_
          refine pm_top (v := (-1)) c5 ?_
          refine pm_callV (As := [.int (nI k4), .int (nI 1), .int (-1)]) (rest := []) hG hR dX12_give_61 (lkX12_113 _ rfl) okV_X12_makes rfl rfl (m_makes (d := 1) (e := 6 * k4 + 391) (by omega) (by omega) (by omega)) rfl rfl hdd (Nat.le_refl _) (Nat.le_refl _) (by decide) (pm_kv (fun σ' cnt' hq => ?_))
          obtain ⟨rfl, rfl⟩ := hq
          obtain ⟨n_18, en_18⟩ : ∃ f : Nat → Int32, f = upd n (6 * k4 + 391) (-1) := ⟨_, rfl⟩
          rw [← en_18]
          have hnn_18 := KI.w en_18 hn (okv_m (show kd (6 * k4 + 391) = (2, 20, false) from (kd_W (k := k4) (c := 1) (by omega) (by omega) (by decide))))
          have hrn_18 := NRx.w en_18 hr (by rw [(show kd (6 * k4 + 391) = (2, 20, false) from (kd_W (k := k4) (c := 1) (by omega) (by omega) (by decide)))])
          have ksn_18 := KS.w en_18 KS.rf (by unfold tS; omega)
          have e19 : n_18 0 = nI kc0 := by rw [en_18, pk_un (by omega)]; exact ekc0
          have e20 : n_18 2 = nI kc2 := by rw [en_18, pk_un (by omega)]; exact ekc2
          have e21 : n_18 7 = nI kc7 := by rw [en_18, pk_un (by omega)]; exact ekc7
          have e22 : n_18 8 = nI kc8 := by rw [en_18, pk_un (by omega)]; exact ekc8
          have e23 : n_18 3 = nI k1 := by rw [en_18, pk_un (by omega)]; exact ek1
          have e24 : n_18 (6 * k4 + 392) = (-1) := by rw [en_18, pk_un (by omega)]; exact ek7
          have e25 : n_18 (6 * k4 + 391) = (-1) := by rw [en_18, pk_us]
          refine pm_iloadn hG dX12_give_64 rfl ?_
          exact pm_iret hG hF dX12_give_65 rfl (Nat.le_refl _) (Nat.le_refl _) ⟨_, rfl, ⟨_, _, _, rfl, hnn_18, hrn_18, e19.trans ekc0.symm, e20.trans ekc2.symm, e21.trans ekc7.symm, e22.trans ekc8.symm, ksn_18⟩, rfl⟩
      · refine pm_top (v := nI k7) ek7 ?_
        refine pm_ifN_lt hG dX12_give_41 rfl (by omega) ?_
        refine pm_aloadn hG dX12_give_44 rfl ?_
        refine pm_iconst (v := nI 3) hG dX12_give_45 (by decide) ?_
        refine pm_callV (As := [.int (nI 3)]) (rest := []) hG hR dX12_give_46 (lkX12_80 _ rfl) okV_X12_finds rfl rfl (m_finds (d := 1) (by decide) hn hz (by omega)) rfl rfl hdd (Nat.le_refl _) (Nat.le_refl _) (by decide) (pm_ki (fun v26 σ' cnt' hq => ?_))
        obtain ⟨⟨I27, A27, rfl⟩, rfl, fv26⟩ := hq
        exact pm_iret hG hF dX12_give_49 rfl (Nat.le_refl _) (Nat.le_refl _) ⟨_, rfl, ⟨_, _, _, rfl, hn, hr, ekc0.trans ekc0.symm, ekc2.trans ekc2.symm, ekc7.trans ekc7.symm, ekc8.trans ekc8.symm, KS.rf⟩, rfl⟩
    · refine pm_aloadn hG dX12_give_13 rfl ?_
      refine pm_iloadn hG dX12_give_14 rfl ?_
      refine pm_callV (As := [.int zb]) (rest := []) hG hR dX12_give_15 (lkX12_91 _ rfl) okV_X12_isPerson rfl rfl (m_isPerson (d := 1) (by decide) ekc2 (by omega)) rfl rfl hdd (Nat.le_refl _) (Nat.le_refl _) (by decide) (pm_ki (fun v28 σ' cnt' hq => ?_))
      obtain ⟨hq, rfl, rfl⟩ := hq
      rcases hq with ⟨rfl, k30, hk30, ek30⟩ | ⟨rfl, ntk30⟩
      · refine pm_ifN_eq (tgt := 29) hG dX12_give_18 rfl (by omega) (fun q => absurd q (by omega)) (fun _ => ?_)
        refine pm_aloadn hG dX12_give_21 rfl ?_
        refine pm_iloadn hG dX12_give_22 rfl ?_
        refine pm_top (v := nI k30) ek30 ?_
        rcases KI.opt hn (show kd (14 * k30 + 119) = (2, 2001, false) from (kd_P (k := k30) (c := 9) (by omega) (by omega) (by decide))) with ek31 | ⟨k31, hk31, ek31⟩
        · refine pm_callV (As := [.int (nI k30)]) (rest := []) hG hR dX12_give_23 (lkX12_101 _ rfl) okV_X12_lives rfl rfl (m_lives1 (d := 1) (by decide) (by omega) (by omega : 14 * k30 + 119 = 14 * k30 + 119) ek31) rfl rfl hdd (Nat.le_refl _) (Nat.le_refl _) (by decide) (pm_ki (fun v32 σ' cnt' hq => ?_))
          obtain ⟨rfl, rfl, rfl⟩ := hq
          refine pm_ifN_ne (tgt := 35) hG dX12_give_26 rfl (by omega) (fun _ => ?_) (fun q => absurd q (by omega))
          refine pm_aloadn hG dX12_give_35 rfl ?_
          refine pm_iloadn hG dX12_give_36 rfl ?_
          refine pm_top (v := nI k4) ek4 ?_
          refine pm_iconst (v := nI 2) hG dX12_give_37 (by decide) ?_
          refine pm_callV (As := [.int (nI k4), .int (nI 2)]) (rest := []) hG hR dX12_give_38 (lkX12_110 _ rfl) okV_X12_its rfl rfl (m_its (d := 1) (e := 6 * k4 + 392) (by omega) (by omega) (by omega)) rfl rfl hdd (Nat.le_refl _) (Nat.le_refl _) (by decide) (pm_ki (fun v33 σ' cnt' hq => ?_))
          obtain ⟨rfl, rfl, rfl⟩ := hq
          rcases KI.opt hn (show kd (6 * k4 + 392) = (2, 20, false) from (kd_W (k := k4) (c := 2) (by omega) (by omega) (by decide))) with ek34 | ⟨k34, hk34, ek34⟩
          · refine pm_top (v := (-1)) ek34 ?_
            refine pm_if_lt (tgt := 50) hG dX12_give_41 rfl (fun _ => ?_) (fun q => absurd q (by decide))
            refine pm_aloadn hG dX12_give_50 rfl ?_
            refine pm_iloadn hG dX12_give_51 rfl ?_
            refine pm_top (v := nI k4) ek4 ?_
            refine pm_iconst (v := nI 1) hG dX12_give_52 (by decide) ?_
            refine pm_callV (As := [.int (nI k4), .int (nI 1)]) (rest := []) hG hR dX12_give_53 (lkX12_110 _ rfl) okV_X12_its rfl rfl (m_its (d := 1) (e := 6 * k4 + 391) (by omega) (by omega) (by omega)) rfl rfl hdd (Nat.le_refl _) (Nat.le_refl _) (by decide) (pm_ki (fun v35 σ' cnt' hq => ?_))
            obtain ⟨rfl, rfl, rfl⟩ := hq
            rcases KI.opt hn (show kd (6 * k4 + 391) = (2, 20, false) from (kd_W (k := k4) (c := 1) (by omega) (by omega) (by decide))) with ek36 | ⟨k36, hk36, ek36⟩
            · refine pm_top (v := (-1)) ek36 ?_
              refine pm_istoreXn (loc' := [some (.ref (B + 54)), some (.int za), some (.int zb), some (.int (-1))]) hG dX12_give_56 (by decide) (pm_c1b rfl) rfl ?_
              refine pm_aloadn hG dX12_give_57 rfl ?_
              refine pm_iloadn hG dX12_give_58 rfl ?_
              refine pm_top (v := nI k4) ek4 ?_
              refine pm_iconst (v := nI 1) hG dX12_give_59 (by decide) ?_
              refine pm_iloadn hG dX12_give_60 rfl ?_
              refine pm_top (v := nI k30) ek30 ?_
              refine pm_callV (As := [.int (nI k4), .int (nI 1), .int (nI k30)]) (rest := []) hG hR dX12_give_61 (lkX12_113 _ rfl) okV_X12_makes rfl rfl (m_makes (d := 1) (e := 6 * k4 + 391) (by omega) (by omega) (by omega)) rfl rfl hdd (Nat.le_refl _) (Nat.le_refl _) (by decide) (pm_kv (fun σ' cnt' hq => ?_))
              obtain ⟨rfl, rfl⟩ := hq
              obtain ⟨n_37, en_37⟩ : ∃ f : Nat → Int32, f = upd n (6 * k4 + 391) (nI k30) := ⟨_, rfl⟩
              rw [← en_37]
              have hnn_37 := KI.w en_37 hn (okv_o (show kd (6 * k4 + 391) = (2, 20, false) from (kd_W (k := k4) (c := 1) (by omega) (by omega) (by decide))) (by omega))
              have hrn_37 := NRx.w en_37 hr (by rw [(show kd (6 * k4 + 391) = (2, 20, false) from (kd_W (k := k4) (c := 1) (by omega) (by omega) (by decide)))])
              have ksn_37 := KS.w en_37 KS.rf (by unfold tS; omega)
              have e38 : n_37 0 = nI kc0 := by rw [en_37, pk_un (by omega)]; exact ekc0
              have e39 : n_37 2 = nI kc2 := by rw [en_37, pk_un (by omega)]; exact ekc2
              have e40 : n_37 7 = nI kc7 := by rw [en_37, pk_un (by omega)]; exact ekc7
              have e41 : n_37 8 = nI kc8 := by rw [en_37, pk_un (by omega)]; exact ekc8
              have e42 : n_37 3 = nI k1 := by rw [en_37, pk_un (by omega)]; exact ek1
              have e43 : n_37 (14 * k30 + 119) = (-1) := by rw [en_37, pk_un (by omega)]; exact ek31
              have e44 : n_37 (6 * k4 + 392) = (-1) := by rw [en_37, pk_un (by omega)]; exact ek34
              have e45 : n_37 (6 * k4 + 391) = nI k30 := by rw [en_37, pk_us]
              refine pm_iloadn hG dX12_give_64 rfl ?_
              exact pm_iret hG hF dX12_give_65 rfl (Nat.le_refl _) (Nat.le_refl _) ⟨_, rfl, ⟨_, _, _, rfl, hnn_37, hrn_37, e38.trans ekc0.symm, e39.trans ekc2.symm, e40.trans ekc7.symm, e41.trans ekc8.symm, ksn_37⟩, rfl⟩
            · refine pm_top (v := nI k36) ek36 ?_
              refine pm_istoreXn (loc' := [some (.ref (B + 54)), some (.int za), some (.int zb), some (.int (nI k36))]) hG dX12_give_56 (by decide) (pm_c1b rfl) rfl ?_
              refine pm_aloadn hG dX12_give_57 rfl ?_
              refine pm_iloadn hG dX12_give_58 rfl ?_
              refine pm_top (v := nI k4) ek4 ?_
              refine pm_iconst (v := nI 1) hG dX12_give_59 (by decide) ?_
              refine pm_iloadn hG dX12_give_60 rfl ?_
              refine pm_top (v := nI k30) ek30 ?_
              refine pm_callV (As := [.int (nI k4), .int (nI 1), .int (nI k30)]) (rest := []) hG hR dX12_give_61 (lkX12_113 _ rfl) okV_X12_makes rfl rfl (m_makes (d := 1) (e := 6 * k4 + 391) (by omega) (by omega) (by omega)) rfl rfl hdd (Nat.le_refl _) (Nat.le_refl _) (by decide) (pm_kv (fun σ' cnt' hq => ?_))
              obtain ⟨rfl, rfl⟩ := hq
              obtain ⟨n_46, en_46⟩ : ∃ f : Nat → Int32, f = upd n (6 * k4 + 391) (nI k30) := ⟨_, rfl⟩
              rw [← en_46]
              have hnn_46 := KI.w en_46 hn (okv_o (show kd (6 * k4 + 391) = (2, 20, false) from (kd_W (k := k4) (c := 1) (by omega) (by omega) (by decide))) (by omega))
              have hrn_46 := NRx.w en_46 hr (by rw [(show kd (6 * k4 + 391) = (2, 20, false) from (kd_W (k := k4) (c := 1) (by omega) (by omega) (by decide)))])
              have ksn_46 := KS.w en_46 KS.rf (by unfold tS; omega)
              have e47 : n_46 0 = nI kc0 := by rw [en_46, pk_un (by omega)]; exact ekc0
              have e48 : n_46 2 = nI kc2 := by rw [en_46, pk_un (by omega)]; exact ekc2
              have e49 : n_46 7 = nI kc7 := by rw [en_46, pk_un (by omega)]; exact ekc7
              have e50 : n_46 8 = nI kc8 := by rw [en_46, pk_un (by omega)]; exact ekc8
              have e51 : n_46 3 = nI k1 := by rw [en_46, pk_un (by omega)]; exact ek1
              have e52 : n_46 (14 * k30 + 119) = (-1) := by rw [en_46, pk_un (by omega)]; exact ek31
              have e53 : n_46 (6 * k4 + 392) = (-1) := by rw [en_46, pk_un (by omega)]; exact ek34
              have e54 : n_46 (6 * k4 + 391) = nI k30 := by rw [en_46, pk_us]
              refine pm_iloadn hG dX12_give_64 rfl ?_
              exact pm_iret hG hF dX12_give_65 rfl (Nat.le_refl _) (Nat.le_refl _) ⟨_, rfl, ⟨_, _, _, rfl, hnn_46, hrn_46, e47.trans ekc0.symm, e48.trans ekc2.symm, e49.trans ekc7.symm, e50.trans ekc8.symm, ksn_46⟩, rfl⟩
          · refine pm_top (v := nI k34) ek34 ?_
            refine pm_ifN_lt hG dX12_give_41 rfl (by omega) ?_
            refine pm_aloadn hG dX12_give_44 rfl ?_
            refine pm_iconst (v := nI 3) hG dX12_give_45 (by decide) ?_
            refine pm_callV (As := [.int (nI 3)]) (rest := []) hG hR dX12_give_46 (lkX12_80 _ rfl) okV_X12_finds rfl rfl (m_finds (d := 1) (by decide) hn hz (by omega)) rfl rfl hdd (Nat.le_refl _) (Nat.le_refl _) (by decide) (pm_ki (fun v55 σ' cnt' hq => ?_))
            obtain ⟨⟨I56, A56, rfl⟩, rfl, fv55⟩ := hq
            exact pm_iret hG hF dX12_give_49 rfl (Nat.le_refl _) (Nat.le_refl _) ⟨_, rfl, ⟨_, _, _, rfl, hn, hr, ekc0.trans ekc0.symm, ekc2.trans ekc2.symm, ekc7.trans ekc7.symm, ekc8.trans ekc8.symm, KS.rf⟩, rfl⟩
        · refine pm_callV (As := [.int (nI k30)]) (rest := []) hG hR dX12_give_23 (lkX12_101 _ rfl) okV_X12_lives rfl rfl (m_lives0 (d := 1) (by decide) (by omega) (by omega : 14 * k30 + 119 = 14 * k30 + 119) ek31 (by omega)) rfl rfl hdd (Nat.le_refl _) (Nat.le_refl _) (by decide) (pm_ki (fun v57 σ' cnt' hq => ?_))
          obtain ⟨rfl, rfl, rfl⟩ := hq
          refine pm_ifN_ne (tgt := 35) hG dX12_give_26 rfl (by omega) (fun q => absurd q (by omega)) (fun _ => ?_)
          refine pm_aloadn hG dX12_give_29 rfl ?_
          refine pm_iconst (v := nI 1) hG dX12_give_30 (by decide) ?_
          refine pm_callV (As := [.int (nI 1)]) (rest := []) hG hR dX12_give_31 (lkX12_80 _ rfl) okV_X12_finds rfl rfl (m_finds (d := 1) (by decide) hn hz (by omega)) rfl rfl hdd (Nat.le_refl _) (Nat.le_refl _) (by decide) (pm_ki (fun v58 σ' cnt' hq => ?_))
          obtain ⟨⟨I59, A59, rfl⟩, rfl, fv58⟩ := hq
          exact pm_iret hG hF dX12_give_34 rfl (Nat.le_refl _) (Nat.le_refl _) ⟨_, rfl, ⟨_, _, _, rfl, hn, hr, ekc0.trans ekc0.symm, ekc2.trans ekc2.symm, ekc7.trans ekc7.symm, ekc8.trans ekc8.symm, KS.rf⟩, rfl⟩
      · refine pm_ifN_eq (tgt := 29) hG dX12_give_18 rfl (by omega) (fun _ => ?_) (fun q => absurd q (by omega))
        refine pm_aloadn hG dX12_give_29 rfl ?_
        refine pm_iconst (v := nI 1) hG dX12_give_30 (by decide) ?_
        refine pm_callV (As := [.int (nI 1)]) (rest := []) hG hR dX12_give_31 (lkX12_80 _ rfl) okV_X12_finds rfl rfl (m_finds (d := 1) (by decide) hn hz (by omega)) rfl rfl hdd (Nat.le_refl _) (Nat.le_refl _) (by decide) (pm_ki (fun v60 σ' cnt' hq => ?_))
        obtain ⟨⟨I61, A61, rfl⟩, rfl, fv60⟩ := hq
        exact pm_iret hG hF dX12_give_34 rfl (Nat.le_refl _) (Nat.le_refl _) ⟨_, rfl, ⟨_, _, _, rfl, hn, hr, ekc0.trans ekc0.symm, ekc2.trans ekc2.symm, ekc7.trans ekc7.symm, ekc8.trans ekc8.symm, KS.rf⟩, rfl⟩
  · refine pm_ifN_eq (tgt := 29) hG dX12_give_5 rfl (by omega) (fun _ => ?_) (fun q => absurd q (by omega))
    refine pm_aloadn hG dX12_give_29 rfl ?_
    refine pm_iconst (v := nI 1) hG dX12_give_30 (by decide) ?_
    refine pm_callV (As := [.int (nI 1)]) (rest := []) hG hR dX12_give_31 (lkX12_80 _ rfl) okV_X12_finds rfl rfl (m_finds (d := 1) (by decide) hn hz (by omega)) rfl rfl hdd (Nat.le_refl _) (Nat.le_refl _) (by decide) (pm_ki (fun v62 σ' cnt' hq => ?_))
    obtain ⟨⟨I63, A63, rfl⟩, rfl, fv62⟩ := hq
    exact pm_iret hG hF dX12_give_34 rfl (Nat.le_refl _) (Nat.le_refl _) ⟨_, rfl, ⟨_, _, _, rfl, hn, hr, ekc0.trans ekc0.symm, ekc2.trans ekc2.symm, ekc7.trans ekc7.symm, ekc8.trans ekc8.symm, KS.rf⟩, rfl⟩

set_option maxRecDepth 100000 in
set_option maxHeartbeats 4000000 in
theorem m_goes {d B cnt p0 t0 : Nat} {σ : pm_S} {I : Nat → Int32} {A : Nat → Nat → Int32} {n k z : Nat → Int32} {ac wt pl im : Int32} {ba bb : Nat} (hdd : 4 ≤ d) (hn : KI n) (hr : NR n) (hz : SZ z) (hba : ba < 20) (hbb : bb < 10) : pm_met mX12_goes d 0 0 B [.ref (B + 54), .int (nI ba), .int (nI bb)] cnt (pm_mid σ (md_L B I A n k z ac wt pl (nI p0) (nI t0) im)) (pm_Qi (fun v σ' cnt' => (∃ (I' : Nat → Int32) (A' : Nat → Nat → Int32) (n' : Nat → Int32), σ' = pm_mid σ (md_L B I' A' n' k z ac wt pl (nI p0) (nI t0) im) ∧ KI n' ∧ NR n' ∧ n' 0 = n 0 ∧ n' 2 = n 2 ∧ n' 7 = n 7 ∧ n' 8 = n 8 ∧ KS n' n) ∧ cnt = cnt')) := by
  obtain ⟨kc0, hkc0, ekc0⟩ := KI.nat hn (show kd 0 = (1, 11, true) by decide)
  obtain ⟨kc2, hkc2, ekc2⟩ := KI.nat hn (show kd 2 = (1, 21, true) by decide)
  obtain ⟨kc7, hkc7, ekc7⟩ := KI.nat hn (show kd 7 = (1, 31, false) by decide)
  obtain ⟨kc8, hkc8, ekc8⟩ := KI.nat hn (show kd 8 = (1, 2001, false) by decide)
  refine pm_enter 1 (by decide) (Nat.le_of_ble_eq_true rfl) rfl (fun G hG hR hF => ?_)
  refine pm_aloadn hG dX12_goes_0 rfl ?_
  refine pm_aloadn hG dX12_goes_1 rfl ?_
  refine pm_iloadn hG dX12_goes_2 rfl ?_
  refine pm_iconst (v := nI 4) hG dX12_goes_3 (by decide) ?_
  refine pm_callV (As := [.int (nI ba), .int (nI 4)]) (rest := [.ref (B + 54)]) hG hR dX12_goes_4 (lkX12_72 _ rfl) okV_X12_man rfl rfl (m_man (d := 3) (e := 14 * ba + 114) (by omega) (by omega) (by omega)) rfl rfl hdd (Nat.le_refl _) (Nat.le_refl _) (Nat.le_of_ble_eq_true rfl) (pm_ki (fun v1 σ' cnt' hq => ?_))
  obtain ⟨rfl, rfl, rfl⟩ := hq
  rcases KI.opt hn (show kd (14 * ba + 114) = (2, 10, false) from (kd_P (k := ba) (c := 4) (by omega) (by omega) (by decide))) with ek2 | ⟨k2, hk2, ek2⟩
  · refine pm_top (v := (-1)) ek2 ?_
    refine pm_iloadn hG dX12_goes_7 rfl ?_
    refine pm_callV (As := [.int (-1), .int (nI bb)]) (rest := []) hG hR dX12_goes_8 (lkX12_88 _ rfl) okV_X12_farOf rfl rfl (m_farOf (d := 3) (by decide) hn hz (by omega)) rfl rfl hdd (Nat.le_refl _) (Nat.le_refl _) (by decide) (pm_ki (fun v3 σ' cnt' hq => ?_))
    obtain ⟨⟨I4, A4, rfl⟩, rfl⟩ := hq
    refine pm_istoreXn (loc' := [some (.ref (B + 54)), some (.int (nI ba)), some (.int (nI bb)), some (.int v3)]) hG dX12_goes_11 (by decide) (pm_c1b rfl) rfl ?_
    refine pm_iloadn hG dX12_goes_12 rfl ?_
    refine pm_if_ge (tgt := 18) hG dX12_goes_13 rfl (fun c5 => ?_) (fun c5 => ?_)
    · obtain ⟨k6, hk6, ek6⟩ := nI_of (Int32.not_lt.mpr c5)
      refine pm_iloadn hG dX12_goes_18 rfl ?_
      refine pm_top (v := nI k6) ek6 ?_
      refine pm_ifN_le (tgt := 64) hG dX12_goes_19 rfl (by omega) (fun c7 => ?_) (fun c7 => ?_)
      · refine pm_aloadn hG dX12_goes_64 rfl ?_
        refine pm_getf hG dX12_goes_65 (flX12_7 _ rfl) rfl rfl ?_
        refine pm_bipush (v := nI 8) hG dX12_goes_68 (by decide) ?_
        refine pm_ialdN hG dX12_goes_70 rfl (by decide) (by omega) ?_
        refine pm_top (v := nI kc8) ekc8 ?_
        refine pm_iloadn hG dX12_goes_71 rfl ?_
        refine pm_top (v := nI k6) ek6 ?_
        refine pm_iaddN (c := k6 + kc8) hG dX12_goes_72 (by omega) ?_
        exact pm_iret hG hF dX12_goes_73 rfl (Nat.le_refl _) (Nat.le_refl _) ⟨_, rfl, ⟨_, _, _, rfl, hn, hr, ekc0.trans ekc0.symm, ekc2.trans ekc2.symm, ekc7.trans ekc7.symm, ekc8.trans ekc8.symm, KS.rf⟩, rfl⟩
      · refine pm_aloadn hG dX12_goes_22 rfl ?_
        refine pm_iloadn hG dX12_goes_23 rfl ?_
        refine pm_bipush (v := nI 10) hG dX12_goes_24 (by decide) ?_
        refine pm_aloadn hG dX12_goes_26 rfl ?_
        refine pm_iloadn hG dX12_goes_27 rfl ?_
        refine pm_callV (As := [.int (nI ba)]) (rest := [.int (nI 10), .int (nI ba), .ref (B + 54)]) hG hR dX12_goes_28 (lkX12_104 _ rfl) okV_X12_knownTo rfl rfl (m_knownTo (d := 3) (by decide) hn hz (by omega)) rfl rfl hdd (Nat.le_refl _) (Nat.le_refl _) (Nat.le_of_ble_eq_true rfl) (pm_ki (fun v8 σ' cnt' hq => ?_))
        obtain ⟨⟨I9, A9, rfl⟩, rfl⟩ := hq
        refine pm_callV (As := [.int (nI ba), .int (nI 10), .int v8]) (rest := []) hG hR dX12_goes_31 (lkX12_97 _ rfl) okV_X12_sets rfl rfl (m_sets (d := 3) (e := 14 * ba + 120) (by omega) (by omega) (by omega)) rfl rfl hdd (Nat.le_refl _) (Nat.le_refl _) (by decide) (pm_kv (fun σ' cnt' hq => ?_))
        obtain ⟨rfl, rfl⟩ := hq
        obtain ⟨n_10, en_10⟩ : ∃ f : Nat → Int32, f = upd n (14 * ba + 120) v8 := ⟨_, rfl⟩
        rw [← en_10]
        have hnn_10 := KI.w en_10 hn (okv_f (show kd (14 * ba + 120) = (0, 0, false) from (kd_P (k := ba) (c := 10) (by omega) (by omega) (by decide))))
        have hrn_10 := NRx.w en_10 hr (by rw [(show kd (14 * ba + 120) = (0, 0, false) from (kd_P (k := ba) (c := 10) (by omega) (by omega) (by decide)))])
        have ksn_10 := KS.w en_10 KS.rf (by unfold tS; omega)
        have e11 : n_10 0 = nI kc0 := by rw [en_10, pk_un (by omega)]; exact ekc0
        have e12 : n_10 2 = nI kc2 := by rw [en_10, pk_un (by omega)]; exact ekc2
        have e13 : n_10 7 = nI kc7 := by rw [en_10, pk_un (by omega)]; exact ekc7
        have e14 : n_10 8 = nI kc8 := by rw [en_10, pk_un (by omega)]; exact ekc8
        have e15 : n_10 (14 * ba + 114) = (-1) := by rw [en_10, pk_un (by omega)]; exact ek2
        have e16 : n_10 (14 * ba + 120) = v8 := by rw [en_10, pk_us]
        refine pm_aloadn hG dX12_goes_34 rfl ?_
        refine pm_iloadn hG dX12_goes_35 rfl ?_
        refine pm_iconst (v := nI 4) hG dX12_goes_36 (by decide) ?_
        refine pm_iconst (v := (-1)) hG dX12_goes_37 (by decide) ?_
        refine pm_callV (As := [.int (nI ba), .int (nI 4), .int (-1)]) (rest := []) hG hR dX12_goes_38 (lkX12_97 _ rfl) okV_X12_sets rfl rfl (m_sets (d := 3) (e := 14 * ba + 114) (by omega) (by omega) (by omega)) rfl rfl hdd (Nat.le_refl _) (Nat.le_refl _) (by decide) (pm_kv (fun σ' cnt' hq => ?_))
        obtain ⟨rfl, rfl⟩ := hq
        obtain ⟨n_17, en_17⟩ : ∃ f : Nat → Int32, f = upd n_10 (14 * ba + 114) (-1) := ⟨_, rfl⟩
        rw [← en_17]
        have hnn_17 := KI.w en_17 hnn_10 (okv_m (show kd (14 * ba + 114) = (2, 10, false) from (kd_P (k := ba) (c := 4) (by omega) (by omega) (by decide))))
        have hrn_17 := NRx.w en_17 hrn_10 (by rw [(show kd (14 * ba + 114) = (2, 10, false) from (kd_P (k := ba) (c := 4) (by omega) (by omega) (by decide)))])
        have ksn_17 := KS.w en_17 ksn_10 (by unfold tS; omega)
        have e18 : n_17 0 = nI kc0 := by rw [en_17, pk_un (by omega)]; exact e11
        have e19 : n_17 2 = nI kc2 := by rw [en_17, pk_un (by omega)]; exact e12
        have e20 : n_17 7 = nI kc7 := by rw [en_17, pk_un (by omega)]; exact e13
        have e21 : n_17 8 = nI kc8 := by rw [en_17, pk_un (by omega)]; exact e14
        have e22 : n_17 (14 * ba + 120) = v8 := by rw [en_17, pk_un (by omega)]; exact e16
        have e23 : n_17 (14 * ba + 114) = (-1) := by rw [en_17, pk_us]
        refine pm_aloadn hG dX12_goes_41 rfl ?_
        refine pm_iloadn hG dX12_goes_42 rfl ?_
        refine pm_iconst (v := nI 5) hG dX12_goes_43 (by decide) ?_
        refine pm_iloadn hG dX12_goes_44 rfl ?_
        refine pm_callV (As := [.int (nI ba), .int (nI 5), .int (nI bb)]) (rest := []) hG hR dX12_goes_45 (lkX12_97 _ rfl) okV_X12_sets rfl rfl (m_sets (d := 3) (e := 14 * ba + 115) (by omega) (by omega) (by omega)) rfl rfl hdd (Nat.le_refl _) (Nat.le_refl _) (by decide) (pm_kv (fun σ' cnt' hq => ?_))
        obtain ⟨rfl, rfl⟩ := hq
        obtain ⟨n_24, en_24⟩ : ∃ f : Nat → Int32, f = upd n_17 (14 * ba + 115) (nI bb) := ⟨_, rfl⟩
        rw [← en_24]
        have hnn_24 := KI.w en_24 hnn_17 (okv_n (show kd (14 * ba + 115) = (1, 10, false) from (kd_P (k := ba) (c := 5) (by omega) (by omega) (by decide))) (by omega))
        have hrn_24 := NRx.w en_24 hrn_17 (by rw [(show kd (14 * ba + 115) = (1, 10, false) from (kd_P (k := ba) (c := 5) (by omega) (by omega) (by decide)))])
        have ksn_24 := KS.w en_24 ksn_17 (by unfold tS; omega)
        have e25 : n_24 0 = nI kc0 := by rw [en_24, pk_un (by omega)]; exact e18
        have e26 : n_24 2 = nI kc2 := by rw [en_24, pk_un (by omega)]; exact e19
        have e27 : n_24 7 = nI kc7 := by rw [en_24, pk_un (by omega)]; exact e20
        have e28 : n_24 8 = nI kc8 := by rw [en_24, pk_un (by omega)]; exact e21
        have e29 : n_24 (14 * ba + 120) = v8 := by rw [en_24, pk_un (by omega)]; exact e22
        have e30 : n_24 (14 * ba + 114) = (-1) := by rw [en_24, pk_un (by omega)]; exact e23
        have e31 : n_24 (14 * ba + 115) = nI bb := by rw [en_24, pk_us]
        refine pm_aloadn hG dX12_goes_48 rfl ?_
        refine pm_iloadn hG dX12_goes_49 rfl ?_
        refine pm_bipush (v := nI 6) hG dX12_goes_50 (by decide) ?_
        refine pm_aloadn hG dX12_goes_52 rfl ?_
        refine pm_getf hG dX12_goes_53 (flX12_7 _ rfl) rfl rfl ?_
        refine pm_bipush (v := nI 8) hG dX12_goes_56 (by decide) ?_
        refine pm_ialdN hG dX12_goes_58 rfl (by decide) (by omega) ?_
        refine pm_top (v := nI kc8) e28 ?_
        refine pm_iloadn hG dX12_goes_59 rfl ?_
        refine pm_top (v := nI k6) ek6 ?_
        refine pm_iaddN (c := k6 + kc8) hG dX12_goes_60 (by omega) ?_
        refine pm_callV (As := [.int (nI ba), .int (nI 6), .int (nI (k6 + kc8))]) (rest := []) hG hR dX12_goes_61 (lkX12_97 _ rfl) okV_X12_sets rfl rfl (m_sets (d := 3) (e := 14 * ba + 116) (by omega) (by omega) (by omega)) rfl rfl hdd (Nat.le_refl _) (Nat.le_refl _) (by decide) (pm_kv (fun σ' cnt' hq => ?_))
        obtain ⟨rfl, rfl⟩ := hq
        obtain ⟨n_32, en_32⟩ : ∃ f : Nat → Int32, f = upd n_24 (14 * ba + 116) (nI (k6 + kc8)) := ⟨_, rfl⟩
        rw [← en_32]
        have hnn_32 := KI.w en_32 hnn_24 (okv_f (show kd (14 * ba + 116) = (0, 0, false) from (kd_P (k := ba) (c := 6) (by omega) (by omega) (by decide))))
        have hrn_32 := NRx.w en_32 hrn_24 (by rw [(show kd (14 * ba + 116) = (0, 0, false) from (kd_P (k := ba) (c := 6) (by omega) (by omega) (by decide)))])
        have ksn_32 := KS.w en_32 ksn_24 (by unfold tS; omega)
        have e33 : n_32 0 = nI kc0 := by rw [en_32, pk_un (by omega)]; exact e25
        have e34 : n_32 2 = nI kc2 := by rw [en_32, pk_un (by omega)]; exact e26
        have e35 : n_32 7 = nI kc7 := by rw [en_32, pk_un (by omega)]; exact e27
        have e36 : n_32 8 = nI kc8 := by rw [en_32, pk_un (by omega)]; exact e28
        have e37 : n_32 (14 * ba + 120) = v8 := by rw [en_32, pk_un (by omega)]; exact e29
        have e38 : n_32 (14 * ba + 114) = (-1) := by rw [en_32, pk_un (by omega)]; exact e30
        have e39 : n_32 (14 * ba + 115) = nI bb := by rw [en_32, pk_un (by omega)]; exact e31
        have e40 : n_32 (14 * ba + 116) = nI (k6 + kc8) := by rw [en_32, pk_us]
        refine pm_aloadn hG dX12_goes_64 rfl ?_
        refine pm_getf hG dX12_goes_65 (flX12_7 _ rfl) rfl rfl ?_
        refine pm_bipush (v := nI 8) hG dX12_goes_68 (by decide) ?_
        refine pm_ialdN hG dX12_goes_70 rfl (by decide) (by omega) ?_
        refine pm_top (v := nI kc8) e36 ?_
        refine pm_iloadn hG dX12_goes_71 rfl ?_
        refine pm_top (v := nI k6) ek6 ?_
        refine pm_iaddN (c := k6 + kc8) hG dX12_goes_72 (by omega) ?_
        exact pm_iret hG hF dX12_goes_73 rfl (Nat.le_refl _) (Nat.le_refl _) ⟨_, rfl, ⟨_, _, _, rfl, hnn_32, hrn_32, e33.trans ekc0.symm, e34.trans ekc2.symm, e35.trans ekc7.symm, e36.trans ekc8.symm, ksn_32⟩, rfl⟩
    · refine pm_iconst (v := (-1)) hG dX12_goes_16 (by decide) ?_
      exact pm_iret hG hF dX12_goes_17 rfl (Nat.le_refl _) (Nat.le_refl _) ⟨_, rfl, ⟨_, _, _, rfl, hn, hr, ekc0.trans ekc0.symm, ekc2.trans ekc2.symm, ekc7.trans ekc7.symm, ekc8.trans ekc8.symm, KS.rf⟩, rfl⟩
  · refine pm_top (v := nI k2) ek2 ?_
    refine pm_iloadn hG dX12_goes_7 rfl ?_
    refine pm_callV (As := [.int (nI k2), .int (nI bb)]) (rest := []) hG hR dX12_goes_8 (lkX12_88 _ rfl) okV_X12_farOf rfl rfl (m_farOf (d := 3) (by decide) hn hz (by omega)) rfl rfl hdd (Nat.le_refl _) (Nat.le_refl _) (by decide) (pm_ki (fun v41 σ' cnt' hq => ?_))
    obtain ⟨⟨I42, A42, rfl⟩, rfl⟩ := hq
    refine pm_istoreXn (loc' := [some (.ref (B + 54)), some (.int (nI ba)), some (.int (nI bb)), some (.int v41)]) hG dX12_goes_11 (by decide) (pm_c1b rfl) rfl ?_
    refine pm_iloadn hG dX12_goes_12 rfl ?_
    refine pm_if_ge (tgt := 18) hG dX12_goes_13 rfl (fun c43 => ?_) (fun c43 => ?_)
    · obtain ⟨k44, hk44, ek44⟩ := nI_of (Int32.not_lt.mpr c43)
      refine pm_iloadn hG dX12_goes_18 rfl ?_
      refine pm_top (v := nI k44) ek44 ?_
      refine pm_ifN_le (tgt := 64) hG dX12_goes_19 rfl (by omega) (fun c45 => ?_) (fun c45 => ?_)
      · refine pm_aloadn hG dX12_goes_64 rfl ?_
        refine pm_getf hG dX12_goes_65 (flX12_7 _ rfl) rfl rfl ?_
        refine pm_bipush (v := nI 8) hG dX12_goes_68 (by decide) ?_
        refine pm_ialdN hG dX12_goes_70 rfl (by decide) (by omega) ?_
        refine pm_top (v := nI kc8) ekc8 ?_
        refine pm_iloadn hG dX12_goes_71 rfl ?_
        refine pm_top (v := nI k44) ek44 ?_
        refine pm_iaddN (c := k44 + kc8) hG dX12_goes_72 (by omega) ?_
        exact pm_iret hG hF dX12_goes_73 rfl (Nat.le_refl _) (Nat.le_refl _) ⟨_, rfl, ⟨_, _, _, rfl, hn, hr, ekc0.trans ekc0.symm, ekc2.trans ekc2.symm, ekc7.trans ekc7.symm, ekc8.trans ekc8.symm, KS.rf⟩, rfl⟩
      · refine pm_aloadn hG dX12_goes_22 rfl ?_
        refine pm_iloadn hG dX12_goes_23 rfl ?_
        refine pm_bipush (v := nI 10) hG dX12_goes_24 (by decide) ?_
        refine pm_aloadn hG dX12_goes_26 rfl ?_
        refine pm_iloadn hG dX12_goes_27 rfl ?_
        refine pm_callV (As := [.int (nI ba)]) (rest := [.int (nI 10), .int (nI ba), .ref (B + 54)]) hG hR dX12_goes_28 (lkX12_104 _ rfl) okV_X12_knownTo rfl rfl (m_knownTo (d := 3) (by decide) hn hz (by omega)) rfl rfl hdd (Nat.le_refl _) (Nat.le_refl _) (Nat.le_of_ble_eq_true rfl) (pm_ki (fun v46 σ' cnt' hq => ?_))
        obtain ⟨⟨I47, A47, rfl⟩, rfl⟩ := hq
        refine pm_callV (As := [.int (nI ba), .int (nI 10), .int v46]) (rest := []) hG hR dX12_goes_31 (lkX12_97 _ rfl) okV_X12_sets rfl rfl (m_sets (d := 3) (e := 14 * ba + 120) (by omega) (by omega) (by omega)) rfl rfl hdd (Nat.le_refl _) (Nat.le_refl _) (by decide) (pm_kv (fun σ' cnt' hq => ?_))
        obtain ⟨rfl, rfl⟩ := hq
        obtain ⟨n_48, en_48⟩ : ∃ f : Nat → Int32, f = upd n (14 * ba + 120) v46 := ⟨_, rfl⟩
        rw [← en_48]
        have hnn_48 := KI.w en_48 hn (okv_f (show kd (14 * ba + 120) = (0, 0, false) from (kd_P (k := ba) (c := 10) (by omega) (by omega) (by decide))))
        have hrn_48 := NRx.w en_48 hr (by rw [(show kd (14 * ba + 120) = (0, 0, false) from (kd_P (k := ba) (c := 10) (by omega) (by omega) (by decide)))])
        have ksn_48 := KS.w en_48 KS.rf (by unfold tS; omega)
        have e49 : n_48 0 = nI kc0 := by rw [en_48, pk_un (by omega)]; exact ekc0
        have e50 : n_48 2 = nI kc2 := by rw [en_48, pk_un (by omega)]; exact ekc2
        have e51 : n_48 7 = nI kc7 := by rw [en_48, pk_un (by omega)]; exact ekc7
        have e52 : n_48 8 = nI kc8 := by rw [en_48, pk_un (by omega)]; exact ekc8
        have e53 : n_48 (14 * ba + 114) = nI k2 := by rw [en_48, pk_un (by omega)]; exact ek2
        have e54 : n_48 (14 * ba + 120) = v46 := by rw [en_48, pk_us]
        refine pm_aloadn hG dX12_goes_34 rfl ?_
        refine pm_iloadn hG dX12_goes_35 rfl ?_
        refine pm_iconst (v := nI 4) hG dX12_goes_36 (by decide) ?_
        refine pm_iconst (v := (-1)) hG dX12_goes_37 (by decide) ?_
        refine pm_callV (As := [.int (nI ba), .int (nI 4), .int (-1)]) (rest := []) hG hR dX12_goes_38 (lkX12_97 _ rfl) okV_X12_sets rfl rfl (m_sets (d := 3) (e := 14 * ba + 114) (by omega) (by omega) (by omega)) rfl rfl hdd (Nat.le_refl _) (Nat.le_refl _) (by decide) (pm_kv (fun σ' cnt' hq => ?_))
        obtain ⟨rfl, rfl⟩ := hq
        obtain ⟨n_55, en_55⟩ : ∃ f : Nat → Int32, f = upd n_48 (14 * ba + 114) (-1) := ⟨_, rfl⟩
        rw [← en_55]
        have hnn_55 := KI.w en_55 hnn_48 (okv_m (show kd (14 * ba + 114) = (2, 10, false) from (kd_P (k := ba) (c := 4) (by omega) (by omega) (by decide))))
        have hrn_55 := NRx.w en_55 hrn_48 (by rw [(show kd (14 * ba + 114) = (2, 10, false) from (kd_P (k := ba) (c := 4) (by omega) (by omega) (by decide)))])
        have ksn_55 := KS.w en_55 ksn_48 (by unfold tS; omega)
        have e56 : n_55 0 = nI kc0 := by rw [en_55, pk_un (by omega)]; exact e49
        have e57 : n_55 2 = nI kc2 := by rw [en_55, pk_un (by omega)]; exact e50
        have e58 : n_55 7 = nI kc7 := by rw [en_55, pk_un (by omega)]; exact e51
        have e59 : n_55 8 = nI kc8 := by rw [en_55, pk_un (by omega)]; exact e52
        have e60 : n_55 (14 * ba + 120) = v46 := by rw [en_55, pk_un (by omega)]; exact e54
        have e61 : n_55 (14 * ba + 114) = (-1) := by rw [en_55, pk_us]
        refine pm_aloadn hG dX12_goes_41 rfl ?_
        refine pm_iloadn hG dX12_goes_42 rfl ?_
        refine pm_iconst (v := nI 5) hG dX12_goes_43 (by decide) ?_
        refine pm_iloadn hG dX12_goes_44 rfl ?_
        refine pm_callV (As := [.int (nI ba), .int (nI 5), .int (nI bb)]) (rest := []) hG hR dX12_goes_45 (lkX12_97 _ rfl) okV_X12_sets rfl rfl (m_sets (d := 3) (e := 14 * ba + 115) (by omega) (by omega) (by omega)) rfl rfl hdd (Nat.le_refl _) (Nat.le_refl _) (by decide) (pm_kv (fun σ' cnt' hq => ?_))
        obtain ⟨rfl, rfl⟩ := hq
        obtain ⟨n_62, en_62⟩ : ∃ f : Nat → Int32, f = upd n_55 (14 * ba + 115) (nI bb) := ⟨_, rfl⟩
        rw [← en_62]
        have hnn_62 := KI.w en_62 hnn_55 (okv_n (show kd (14 * ba + 115) = (1, 10, false) from (kd_P (k := ba) (c := 5) (by omega) (by omega) (by decide))) (by omega))
        have hrn_62 := NRx.w en_62 hrn_55 (by rw [(show kd (14 * ba + 115) = (1, 10, false) from (kd_P (k := ba) (c := 5) (by omega) (by omega) (by decide)))])
        have ksn_62 := KS.w en_62 ksn_55 (by unfold tS; omega)
        have e63 : n_62 0 = nI kc0 := by rw [en_62, pk_un (by omega)]; exact e56
        have e64 : n_62 2 = nI kc2 := by rw [en_62, pk_un (by omega)]; exact e57
        have e65 : n_62 7 = nI kc7 := by rw [en_62, pk_un (by omega)]; exact e58
        have e66 : n_62 8 = nI kc8 := by rw [en_62, pk_un (by omega)]; exact e59
        have e67 : n_62 (14 * ba + 120) = v46 := by rw [en_62, pk_un (by omega)]; exact e60
        have e68 : n_62 (14 * ba + 114) = (-1) := by rw [en_62, pk_un (by omega)]; exact e61
        have e69 : n_62 (14 * ba + 115) = nI bb := by rw [en_62, pk_us]
        refine pm_aloadn hG dX12_goes_48 rfl ?_
        refine pm_iloadn hG dX12_goes_49 rfl ?_
        refine pm_bipush (v := nI 6) hG dX12_goes_50 (by decide) ?_
        refine pm_aloadn hG dX12_goes_52 rfl ?_
        refine pm_getf hG dX12_goes_53 (flX12_7 _ rfl) rfl rfl ?_
        refine pm_bipush (v := nI 8) hG dX12_goes_56 (by decide) ?_
        refine pm_ialdN hG dX12_goes_58 rfl (by decide) (by omega) ?_
        refine pm_top (v := nI kc8) e66 ?_
        refine pm_iloadn hG dX12_goes_59 rfl ?_
        refine pm_top (v := nI k44) ek44 ?_
        refine pm_iaddN (c := k44 + kc8) hG dX12_goes_60 (by omega) ?_
        refine pm_callV (As := [.int (nI ba), .int (nI 6), .int (nI (k44 + kc8))]) (rest := []) hG hR dX12_goes_61 (lkX12_97 _ rfl) okV_X12_sets rfl rfl (m_sets (d := 3) (e := 14 * ba + 116) (by omega) (by omega) (by omega)) rfl rfl hdd (Nat.le_refl _) (Nat.le_refl _) (by decide) (pm_kv (fun σ' cnt' hq => ?_))
        obtain ⟨rfl, rfl⟩ := hq
        obtain ⟨n_70, en_70⟩ : ∃ f : Nat → Int32, f = upd n_62 (14 * ba + 116) (nI (k44 + kc8)) := ⟨_, rfl⟩
        rw [← en_70]
        have hnn_70 := KI.w en_70 hnn_62 (okv_f (show kd (14 * ba + 116) = (0, 0, false) from (kd_P (k := ba) (c := 6) (by omega) (by omega) (by decide))))
        have hrn_70 := NRx.w en_70 hrn_62 (by rw [(show kd (14 * ba + 116) = (0, 0, false) from (kd_P (k := ba) (c := 6) (by omega) (by omega) (by decide)))])
        have ksn_70 := KS.w en_70 ksn_62 (by unfold tS; omega)
        have e71 : n_70 0 = nI kc0 := by rw [en_70, pk_un (by omega)]; exact e63
        have e72 : n_70 2 = nI kc2 := by rw [en_70, pk_un (by omega)]; exact e64
        have e73 : n_70 7 = nI kc7 := by rw [en_70, pk_un (by omega)]; exact e65
        have e74 : n_70 8 = nI kc8 := by rw [en_70, pk_un (by omega)]; exact e66
        have e75 : n_70 (14 * ba + 120) = v46 := by rw [en_70, pk_un (by omega)]; exact e67
        have e76 : n_70 (14 * ba + 114) = (-1) := by rw [en_70, pk_un (by omega)]; exact e68
        have e77 : n_70 (14 * ba + 115) = nI bb := by rw [en_70, pk_un (by omega)]; exact e69
        have e78 : n_70 (14 * ba + 116) = nI (k44 + kc8) := by rw [en_70, pk_us]
        refine pm_aloadn hG dX12_goes_64 rfl ?_
        refine pm_getf hG dX12_goes_65 (flX12_7 _ rfl) rfl rfl ?_
        refine pm_bipush (v := nI 8) hG dX12_goes_68 (by decide) ?_
        refine pm_ialdN hG dX12_goes_70 rfl (by decide) (by omega) ?_
        refine pm_top (v := nI kc8) e74 ?_
        refine pm_iloadn hG dX12_goes_71 rfl ?_
        refine pm_top (v := nI k44) ek44 ?_
        refine pm_iaddN (c := k44 + kc8) hG dX12_goes_72 (by omega) ?_
        exact pm_iret hG hF dX12_goes_73 rfl (Nat.le_refl _) (Nat.le_refl _) ⟨_, rfl, ⟨_, _, _, rfl, hnn_70, hrn_70, e71.trans ekc0.symm, e72.trans ekc2.symm, e73.trans ekc7.symm, e74.trans ekc8.symm, ksn_70⟩, rfl⟩
    · refine pm_iconst (v := (-1)) hG dX12_goes_16 (by decide) ?_
      exact pm_iret hG hF dX12_goes_17 rfl (Nat.le_refl _) (Nat.le_refl _) ⟨_, rfl, ⟨_, _, _, rfl, hn, hr, ekc0.trans ekc0.symm, ekc2.trans ekc2.symm, ekc7.trans ekc7.symm, ekc8.trans ekc8.symm, KS.rf⟩, rfl⟩
