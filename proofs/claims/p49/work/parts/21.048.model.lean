set_option maxRecDepth 100000 in
set_option maxHeartbeats 4000000 in
theorem m_feed {d B cnt p0 t0 : Nat} {σ : pm_S} {I : Nat → Int32} {A : Nat → Nat → Int32} {n k z : Nat → Int32} {ac wt pl im : Int32} {y : Nat → Int32} {zb : Int32} {za : Int64} (hdd : 2 ≤ d) (hn : KI n) (hr : NR n) (hz : SZ z)  : pm_met mX12_feed d 0 0 B [.ref (B + 54), .long za, .int zb] cnt (pm_mid σ (md_L B I A n k z ac wt pl (nI p0) (nI t0) im y)) (pm_Qi (fun v σ' cnt' => (∃ (I' : Nat → Int32) (A' : Nat → Nat → Int32) (n' : Nat → Int32), σ' = pm_mid σ (md_L B I' A' n' k z ac wt pl (nI p0) (nI t0) im y) ∧ KI n' ∧ NR n') ∧ cnt = cnt')) := by
  refine pm_enter 1 (by decide) (Nat.le_of_ble_eq_true rfl) rfl (fun G hG hR hF => ?_)
  refine pm_iloadn hG dX12_feed_0 rfl ?_
  refine pm_iconst (v := nI 1) hG dX12_feed_1 (by decide) ?_
  refine pm_bipush (v := nI 8) hG dX12_feed_2 (by decide) ?_
  refine pm_callS (As := [.int zb, .int (nI 1), .int (nI 8)]) (rest := []) hG hR dX12_feed_4 (lkX12_68 _ rfl) okS_X12_in (m_in (d := 1)) rfl rfl hdd (Nat.le_refl _) (Nat.le_refl _) (by decide) (pm_ki (fun v1 σ' cnt' hq => ?_))
  obtain ⟨hq, rfl, rfl⟩ := hq
  rcases hq with ⟨rfl, ac2, bc2⟩ | ⟨rfl, c2⟩
  · obtain ⟨k3, hk3, ek3⟩ := in_nat (by omega) (by omega) ac2 bc2
    refine pm_ifN_ne (tgt := 16) hG dX12_feed_7 rfl (by omega) (fun _ => ?_) (fun q => absurd q (by omega))
    refine pm_aloadn hG dX12_feed_16 rfl ?_
    refine pm_getf hG dX12_feed_17 (flX12_7 _ rfl) rfl rfl ?_
    refine pm_bipush (v := nI 10) hG dX12_feed_20 (by decide) ?_
    refine pm_ialdN hG dX12_feed_22 rfl (by decide) (by omega) ?_
    obtain ⟨k4, hk4, ek4⟩ := KI.nat hn (show kd 10 = (1, 61, false) by decide)
    refine pm_top (v := nI k4) ek4 ?_
    refine pm_iloadn hG dX12_feed_23 rfl ?_
    refine pm_top (v := nI k3) ek3 ?_
    refine pm_iaddN (c := k3 + k4) hG dX12_feed_24 (by omega) ?_
    refine pm_bipush (v := nI 60) hG dX12_feed_25 (by decide) ?_
    refine pm_icmpN_le (tgt := 36) hG dX12_feed_27 rfl (by omega) (by omega) (fun c5 => ?_) (fun c5 => ?_)
    · refine pm_iconst (v := nI 0) hG dX12_feed_36 (by decide) ?_
      refine pm_istoreXi (loc' := [some (.ref (B + 54)), some (.long za), none, some (.int zb), some (.int (nI 0))]) hG dX12_feed_37 (by decide) (pm_c1b rfl) rfl ?_
      have loop39_6 : ∀ (m6 : Nat) (I6 : Nat → Int32) (A6 : Nat → Nat → Int32) (n_6 : Nat → Int32) (i6 : Nat), KI n_6 → NRx 40 n_6 → n_6 10 = nI (i6 + k4) → i6 ≤ 8 → 8 - i6 < m6 → pm_wp mX12_feed G B 39 [some (.ref (B + 54)), some (.long za), none, some (.int zb), some (.int (nI i6))] [] 0 0 cnt (pm_mid σ (md_L B I6 A6 n_6 k z ac wt pl (nI p0) (nI t0) im y)) := by
        intro m6
        induction m6 with
        | zero => intro I6 A6 n_6 i6 _ _ _ _ hm; exact absurd hm (Nat.not_lt_zero _)
        | succ m6 ih6 =>
          intro I6 A6 n_6 i6 hnn_6 hrn_6 kc6_10 hi6 hm6
          refine pm_iloadi hG dX12_feed_39 rfl ?_
          refine pm_iloadn hG dX12_feed_41 rfl ?_
          refine pm_top (v := nI k3) ek3 ?_
          refine pm_icmpN_ge (tgt := 90) hG dX12_feed_42 rfl (by omega) (by omega) (fun c7 => ?_) (fun c7 => ?_)
          · refine pm_aloadn hG dX12_feed_90 rfl ?_
            refine pm_getf hG dX12_feed_91 (flX12_7 _ rfl) rfl rfl ?_
            refine pm_bipush (v := nI 10) hG dX12_feed_94 (by decide) ?_
            refine pm_ialdN hG dX12_feed_96 rfl (by decide) (by omega) ?_
            refine pm_top (v := nI (i6 + k4)) kc6_10 ?_
            exact pm_iret hG hF dX12_feed_97 rfl (Nat.le_refl _) (Nat.le_refl _) ⟨_, rfl, ⟨_, _, _, rfl, hnn_6, hrn_6⟩, rfl⟩
          · refine pm_aloadn hG dX12_feed_45 rfl ?_
            refine pm_getf hG dX12_feed_46 (flX12_7 _ rfl) rfl rfl ?_
            refine pm_sipush (v := nI 1991) hG dX12_feed_49 (by decide) ?_
            refine pm_aloadn hG dX12_feed_52 rfl ?_
            refine pm_getf hG dX12_feed_53 (flX12_7 _ rfl) rfl rfl ?_
            refine pm_bipush (v := nI 10) hG dX12_feed_56 (by decide) ?_
            refine pm_ialdN hG dX12_feed_58 rfl (by decide) (by omega) ?_
            refine pm_top (v := nI (i6 + k4)) kc6_10 ?_
            refine pm_iaddN (c := i6 + k4 + 1991) hG dX12_feed_59 (by omega) ?_
            refine pm_lloadn hG dX12_feed_60 rfl ?_
            refine pm_bipush (v := nI 8) hG dX12_feed_61 (by decide) ?_
            refine pm_iloadi hG dX12_feed_63 rfl ?_
            refine pm_imulN (c := 8 * i6) hG dX12_feed_65 (by omega) ?_
            refine pm_lshr hG dX12_feed_66 rfl ?_
            refine pm_ldc2 hG dX12_feed_67 (ctX12_142 _ rfl) ?_
            refine pm_land hG dX12_feed_70 ?_
            refine pm_l2i hG dX12_feed_71 rfl ?_
            refine pm_any (fun x8 => ?_)
            refine pm_iastN hG dX12_feed_72 rfl (by decide) (by omega) ?_
            refine mdn_now (fun n_9 en_9 => ?_)
            have hnn_9 := KI.w en_9 hnn_6 (okv_f (show kd (i6 + k4 + 1991) = (0, 0, false) from (kd_O (by omega))))
            have hrn_9 := NRx.w en_9 hrn_6 (by rw [(show kd (i6 + k4 + 1991) = (0, 0, false) from (kd_O (by omega)))])
            have e10 : n_9 10 = nI (i6 + k4) := by rw [en_9, pk_un (by omega)]; exact kc6_10
            have e11 : n_9 (i6 + k4 + 1991) = x8 := by rw [en_9, pk_us]
            refine pm_aloadn hG dX12_feed_73 rfl ?_
            refine pm_getf hG dX12_feed_74 (flX12_7 _ rfl) rfl rfl ?_
            refine pm_bipush (v := nI 10) hG dX12_feed_77 (by decide) ?_
            refine pm_dup2 hG dX12_feed_79 rfl rfl ?_
            refine pm_ialdN hG dX12_feed_80 rfl (by decide) (by omega) ?_
            refine pm_top (v := nI (i6 + k4)) e10 ?_
            refine pm_iconst (v := nI 1) hG dX12_feed_81 (by decide) ?_
            refine pm_iaddN (c := i6 + k4 + 1) hG dX12_feed_82 (by omega) ?_
            refine pm_iastN hG dX12_feed_83 rfl (by decide) (by omega) ?_
            refine mdn_now (fun n_12 en_12 => ?_)
            have hnn_12 := KI.w en_12 hnn_9 (okv_n (show kd 10 = (1, 61, false) by decide) (by omega))
            have hrn_12 := NRx.w en_12 hrn_9 (by rw [(show kd 10 = (1, 61, false) by decide)])
            have e13 : n_12 (i6 + k4 + 1991) = x8 := by rw [en_12, pk_un (by omega)]; exact e11
            have e14 : n_12 10 = nI (i6 + k4 + 1) := by rw [en_12, pk_us]
            refine pm_iincX (v := nI (i6 + 1)) (loc' := [some (.ref (B + 54)), some (.long za), none, some (.int zb), some (.int (nI (i6 + 1)))]) hG dX12_feed_84 rfl (nI_1 _) (by decide) (pm_c1b rfl) rfl ?_
            refine pm_goto (tgt := 39) hG dX12_feed_87 rfl ?_
            exact ih6 I6 A6 n_12 (i6 + 1) hnn_12 hrn_12 (e14.trans (congrArg nI (by omega))) (by omega) (by omega)
      exact loop39_6 _ I A n 0 hn hr (ek4.trans (congrArg nI (by omega))) (by omega) (Nat.lt_succ_self _)
    · refine pm_aloadn hG dX12_feed_30 rfl ?_
      refine pm_iconst (v := nI 4) hG dX12_feed_31 (by decide) ?_
      refine pm_callV (As := [.int (nI 4)]) (rest := []) hG hR dX12_feed_32 (lkX12_80 _ rfl) okV_X12_finds rfl rfl (m_finds (d := 1) (by decide) hn hz (by omega)) rfl rfl hdd (Nat.le_refl _) (Nat.le_refl _) (by decide) (pm_ki (fun v15 σ' cnt' hq => ?_))
      obtain ⟨⟨I16, A16, rfl⟩, rfl, fv15⟩ := hq
      exact pm_iret hG hF dX12_feed_35 rfl (Nat.le_refl _) (Nat.le_refl _) ⟨_, rfl, ⟨_, _, _, rfl, hn, hr⟩, rfl⟩
  · refine pm_ifN_ne (tgt := 16) hG dX12_feed_7 rfl (by omega) (fun q => absurd q (by omega)) (fun _ => ?_)
    refine pm_aloadn hG dX12_feed_10 rfl ?_
    refine pm_iconst (v := nI 1) hG dX12_feed_11 (by decide) ?_
    refine pm_callV (As := [.int (nI 1)]) (rest := []) hG hR dX12_feed_12 (lkX12_80 _ rfl) okV_X12_finds rfl rfl (m_finds (d := 1) (by decide) hn hz (by omega)) rfl rfl hdd (Nat.le_refl _) (Nat.le_refl _) (by decide) (pm_ki (fun v17 σ' cnt' hq => ?_))
    obtain ⟨⟨I18, A18, rfl⟩, rfl, fv17⟩ := hq
    exact pm_iret hG hF dX12_feed_15 rfl (Nat.le_refl _) (Nat.le_refl _) ⟨_, rfl, ⟨_, _, _, rfl, hn, hr⟩, rfl⟩
