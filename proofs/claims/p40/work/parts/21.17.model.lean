set_option maxRecDepth 100000 in
set_option maxHeartbeats 4000000 in
theorem m_own {d B cnt p0 t0 : Nat} {σ : pm_S} {I : Nat → Int32} {A : Nat → Nat → Int32} {n k z : Nat → Int32} {ac wt pl im : Int32} {za zb : Int32} (hdd : 2 ≤ d) (hn : KI n) (hr : NR n) (hz : SZ z)  : pm_met mX12_own d 0 0 B [.ref (B + 54), .int za, .int zb] cnt (pm_mid σ (md_L B I A n k z ac wt pl (nI p0) (nI t0) im)) (pm_Qi (fun v σ' cnt' => (∃ (I' : Nat → Int32) (A' : Nat → Nat → Int32) (n' : Nat → Int32), σ' = pm_mid σ (md_L B I' A' n' k z ac wt pl (nI p0) (nI t0) im) ∧ KI n' ∧ NR n' ∧ KS n' n) ∧ cnt = cnt')) := by
  refine pm_enter 1 (by decide) (Nat.le_of_ble_eq_true rfl) rfl (fun G hG hR hF => ?_)
  refine pm_aloadn hG dX12_own_0 rfl ?_
  refine pm_iloadn hG dX12_own_1 rfl ?_
  obtain ⟨k1, hk1, ek1⟩ := KI.nat hn (show kd 0 = (1, 11, true) by decide)
  refine pm_callV (As := [.int za]) (rest := []) hG hR dX12_own_2 (lkX12_84 _ rfl) okV_X12_isTown rfl rfl (m_isTown (d := 1) (by decide) ek1 (by omega)) rfl rfl hdd (Nat.le_refl _) (Nat.le_refl _) (by decide) (pm_ki (fun v2 σ' cnt' hq => ?_))
  obtain ⟨hq, rfl, rfl⟩ := hq
  rcases hq with ⟨rfl, k4, hk4, ek4⟩ | rfl
  · refine pm_ifN_eq (tgt := 29) hG dX12_own_5 rfl (by omega) (fun q => absurd q (by omega)) (fun _ => ?_)
    refine pm_iloadn hG dX12_own_8 rfl ?_
    refine pm_iconst (v := (-1)) hG dX12_own_9 (by decide) ?_
    refine pm_icmp_eq (tgt := 35) hG dX12_own_10 rfl (fun c5 => ?_) (fun c5 => ?_)
    · refine pm_aloadn hG dX12_own_35 rfl ?_
      refine pm_getf hG dX12_own_36 (flX12_7 _ rfl) rfl rfl ?_
      refine pm_bipush (v := nI 20) hG dX12_own_39 (by decide) ?_
      refine pm_iconst (v := nI 3) hG dX12_own_41 (by decide) ?_
      refine pm_iloadn hG dX12_own_42 rfl ?_
      refine pm_top (v := nI k4) ek4 ?_
      refine pm_imulN (c := 3 * k4) hG dX12_own_43 (by omega) ?_
      refine pm_iaddN (c := 3 * k4 + 20) hG dX12_own_44 (by omega) ?_
      refine pm_iconst (v := nI 2) hG dX12_own_45 (by decide) ?_
      refine pm_iaddN (c := 3 * k4 + 22) hG dX12_own_46 (by omega) ?_
      refine pm_ialdN hG dX12_own_47 rfl (by decide) (by omega) ?_
      refine pm_gen (fun x6 ex6 => ?_)
      refine pm_iconst (v := nI 1) hG dX12_own_48 (by decide) ?_
      refine pm_icmp_ne (tgt := 58) hG dX12_own_49 rfl (fun c7 => ?_) (fun c7 => ?_)
      · refine pm_aloadn hG dX12_own_58 rfl ?_
        refine pm_getf hG dX12_own_59 (flX12_7 _ rfl) rfl rfl ?_
        refine pm_bipush (v := nI 20) hG dX12_own_62 (by decide) ?_
        refine pm_iconst (v := nI 3) hG dX12_own_64 (by decide) ?_
        refine pm_iloadn hG dX12_own_65 rfl ?_
        refine pm_top (v := nI k4) ek4 ?_
        refine pm_imulN (c := 3 * k4) hG dX12_own_66 (by omega) ?_
        refine pm_iaddN (c := 3 * k4 + 20) hG dX12_own_67 (by omega) ?_
        refine pm_iconst (v := nI 1) hG dX12_own_68 (by decide) ?_
        refine pm_iaddN (c := 3 * k4 + 21) hG dX12_own_69 (by omega) ?_
        refine pm_ialdN hG dX12_own_70 rfl (by decide) (by omega) ?_
        rcases KI.opt hn (show kd (3 * k4 + 21) = (2, 20, false) from (kd_T (k := k4) (c := 1) (by omega) (by omega) (by decide))) with ek8 | ⟨k8, hk8, ek8⟩
        · refine pm_top (v := (-1)) ek8 ?_
          refine pm_istoreXn (loc' := [some (.ref (B + 54)), some (.int za), some (.int zb), some (.int (-1))]) hG dX12_own_71 (by decide) (pm_c1b rfl) rfl ?_
          refine pm_aloadn hG dX12_own_72 rfl ?_
          refine pm_getf hG dX12_own_73 (flX12_7 _ rfl) rfl rfl ?_
          refine pm_bipush (v := nI 20) hG dX12_own_76 (by decide) ?_
          refine pm_iconst (v := nI 3) hG dX12_own_78 (by decide) ?_
          refine pm_iloadn hG dX12_own_79 rfl ?_
          refine pm_top (v := nI k4) ek4 ?_
          refine pm_imulN (c := 3 * k4) hG dX12_own_80 (by omega) ?_
          refine pm_iaddN (c := 3 * k4 + 20) hG dX12_own_81 (by omega) ?_
          refine pm_iconst (v := nI 1) hG dX12_own_82 (by decide) ?_
          refine pm_iaddN (c := 3 * k4 + 21) hG dX12_own_83 (by omega) ?_
          refine pm_iloadn hG dX12_own_84 rfl ?_
          refine pm_top (v := (-1)) c5 ?_
          refine pm_iastN hG dX12_own_85 rfl (by decide) (by omega) ?_
          refine mdn_now (fun n_9 en_9 => ?_)
          have hnn_9 := KI.w en_9 hn (okv_m (show kd (3 * k4 + 21) = (2, 20, false) from (kd_T (k := k4) (c := 1) (by omega) (by omega) (by decide))))
          have hrn_9 := NRx.w en_9 hr (by rw [(show kd (3 * k4 + 21) = (2, 20, false) from (kd_T (k := k4) (c := 1) (by omega) (by omega) (by decide)))])
          have ksn_9 := KS.w en_9 KS.rf (by unfold tS; omega)
          have e10 : n_9 0 = nI k1 := by rw [en_9, pk_un (by omega)]; exact ek1
          have e11 : n_9 (3 * k4 + 22) = x6 := by rw [en_9, pk_un (by omega)]; exact ex6
          have e12 : n_9 (3 * k4 + 21) = (-1) := by rw [en_9, pk_us]
          refine pm_iloadn hG dX12_own_86 rfl ?_
          exact pm_iret hG hF dX12_own_87 rfl (Nat.le_refl _) (Nat.le_refl _) ⟨_, rfl, ⟨_, _, _, rfl, hnn_9, hrn_9, ksn_9⟩, rfl⟩
        · refine pm_top (v := nI k8) ek8 ?_
          refine pm_istoreXn (loc' := [some (.ref (B + 54)), some (.int za), some (.int zb), some (.int (nI k8))]) hG dX12_own_71 (by decide) (pm_c1b rfl) rfl ?_
          refine pm_aloadn hG dX12_own_72 rfl ?_
          refine pm_getf hG dX12_own_73 (flX12_7 _ rfl) rfl rfl ?_
          refine pm_bipush (v := nI 20) hG dX12_own_76 (by decide) ?_
          refine pm_iconst (v := nI 3) hG dX12_own_78 (by decide) ?_
          refine pm_iloadn hG dX12_own_79 rfl ?_
          refine pm_top (v := nI k4) ek4 ?_
          refine pm_imulN (c := 3 * k4) hG dX12_own_80 (by omega) ?_
          refine pm_iaddN (c := 3 * k4 + 20) hG dX12_own_81 (by omega) ?_
          refine pm_iconst (v := nI 1) hG dX12_own_82 (by decide) ?_
          refine pm_iaddN (c := 3 * k4 + 21) hG dX12_own_83 (by omega) ?_
          refine pm_iloadn hG dX12_own_84 rfl ?_
          refine pm_top (v := (-1)) c5 ?_
          refine pm_iastN hG dX12_own_85 rfl (by decide) (by omega) ?_
          refine mdn_now (fun n_13 en_13 => ?_)
          have hnn_13 := KI.w en_13 hn (okv_m (show kd (3 * k4 + 21) = (2, 20, false) from (kd_T (k := k4) (c := 1) (by omega) (by omega) (by decide))))
          have hrn_13 := NRx.w en_13 hr (by rw [(show kd (3 * k4 + 21) = (2, 20, false) from (kd_T (k := k4) (c := 1) (by omega) (by omega) (by decide)))])
          have ksn_13 := KS.w en_13 KS.rf (by unfold tS; omega)
          have e14 : n_13 0 = nI k1 := by rw [en_13, pk_un (by omega)]; exact ek1
          have e15 : n_13 (3 * k4 + 22) = x6 := by rw [en_13, pk_un (by omega)]; exact ex6
          have e16 : n_13 (3 * k4 + 21) = (-1) := by rw [en_13, pk_us]
          refine pm_iloadn hG dX12_own_86 rfl ?_
          exact pm_iret hG hF dX12_own_87 rfl (Nat.le_refl _) (Nat.le_refl _) ⟨_, rfl, ⟨_, _, _, rfl, hnn_13, hrn_13, ksn_13⟩, rfl⟩
      · refine pm_aloadn hG dX12_own_52 rfl ?_
        refine pm_iconst (v := nI 3) hG dX12_own_53 (by decide) ?_
        refine pm_callV (As := [.int (nI 3)]) (rest := []) hG hR dX12_own_54 (lkX12_80 _ rfl) okV_X12_finds rfl rfl (m_finds (d := 1) (by decide) hn hz (by omega)) rfl rfl hdd (Nat.le_refl _) (Nat.le_refl _) (by decide) (pm_ki (fun v17 σ' cnt' hq => ?_))
        obtain ⟨⟨I18, A18, rfl⟩, rfl, fv17⟩ := hq
        exact pm_iret hG hF dX12_own_57 rfl (Nat.le_refl _) (Nat.le_refl _) ⟨_, rfl, ⟨_, _, _, rfl, hn, hr, KS.rf⟩, rfl⟩
    · refine pm_aloadn hG dX12_own_13 rfl ?_
      refine pm_iloadn hG dX12_own_14 rfl ?_
      obtain ⟨k19, hk19, ek19⟩ := KI.nat hn (show kd 2 = (1, 21, true) by decide)
      refine pm_callV (As := [.int zb]) (rest := []) hG hR dX12_own_15 (lkX12_91 _ rfl) okV_X12_isPerson rfl rfl (m_isPerson (d := 1) (by decide) ek19 (by omega)) rfl rfl hdd (Nat.le_refl _) (Nat.le_refl _) (by decide) (pm_ki (fun v20 σ' cnt' hq => ?_))
      obtain ⟨hq, rfl, rfl⟩ := hq
      rcases hq with ⟨rfl, k22, hk22, ek22⟩ | rfl
      · refine pm_ifN_eq (tgt := 29) hG dX12_own_18 rfl (by omega) (fun q => absurd q (by omega)) (fun _ => ?_)
        refine pm_aloadn hG dX12_own_21 rfl ?_
        refine pm_iloadn hG dX12_own_22 rfl ?_
        refine pm_top (v := nI k22) ek22 ?_
        rcases KI.opt hn (show kd (14 * k22 + 119) = (2, 2001, false) from (kd_P (k := k22) (c := 9) (by omega) (by omega) (by decide))) with ek23 | ⟨k23, hk23, ek23⟩
        · refine pm_callV (As := [.int (nI k22)]) (rest := []) hG hR dX12_own_23 (lkX12_101 _ rfl) okV_X12_lives rfl rfl (m_lives1 (d := 1) (by decide) (by omega) (by omega : 14 * k22 + 119 = 14 * k22 + 119) ek23) rfl rfl hdd (Nat.le_refl _) (Nat.le_refl _) (by decide) (pm_ki (fun v24 σ' cnt' hq => ?_))
          obtain ⟨rfl, rfl, rfl⟩ := hq
          refine pm_ifN_ne (tgt := 35) hG dX12_own_26 rfl (by omega) (fun _ => ?_) (fun q => absurd q (by omega))
          refine pm_aloadn hG dX12_own_35 rfl ?_
          refine pm_getf hG dX12_own_36 (flX12_7 _ rfl) rfl rfl ?_
          refine pm_bipush (v := nI 20) hG dX12_own_39 (by decide) ?_
          refine pm_iconst (v := nI 3) hG dX12_own_41 (by decide) ?_
          refine pm_iloadn hG dX12_own_42 rfl ?_
          refine pm_top (v := nI k4) ek4 ?_
          refine pm_imulN (c := 3 * k4) hG dX12_own_43 (by omega) ?_
          refine pm_iaddN (c := 3 * k4 + 20) hG dX12_own_44 (by omega) ?_
          refine pm_iconst (v := nI 2) hG dX12_own_45 (by decide) ?_
          refine pm_iaddN (c := 3 * k4 + 22) hG dX12_own_46 (by omega) ?_
          refine pm_ialdN hG dX12_own_47 rfl (by decide) (by omega) ?_
          refine pm_gen (fun x25 ex25 => ?_)
          refine pm_iconst (v := nI 1) hG dX12_own_48 (by decide) ?_
          refine pm_icmp_ne (tgt := 58) hG dX12_own_49 rfl (fun c26 => ?_) (fun c26 => ?_)
          · refine pm_aloadn hG dX12_own_58 rfl ?_
            refine pm_getf hG dX12_own_59 (flX12_7 _ rfl) rfl rfl ?_
            refine pm_bipush (v := nI 20) hG dX12_own_62 (by decide) ?_
            refine pm_iconst (v := nI 3) hG dX12_own_64 (by decide) ?_
            refine pm_iloadn hG dX12_own_65 rfl ?_
            refine pm_top (v := nI k4) ek4 ?_
            refine pm_imulN (c := 3 * k4) hG dX12_own_66 (by omega) ?_
            refine pm_iaddN (c := 3 * k4 + 20) hG dX12_own_67 (by omega) ?_
            refine pm_iconst (v := nI 1) hG dX12_own_68 (by decide) ?_
            refine pm_iaddN (c := 3 * k4 + 21) hG dX12_own_69 (by omega) ?_
            refine pm_ialdN hG dX12_own_70 rfl (by decide) (by omega) ?_
            rcases KI.opt hn (show kd (3 * k4 + 21) = (2, 20, false) from (kd_T (k := k4) (c := 1) (by omega) (by omega) (by decide))) with ek27 | ⟨k27, hk27, ek27⟩
            · refine pm_top (v := (-1)) ek27 ?_
              refine pm_istoreXn (loc' := [some (.ref (B + 54)), some (.int za), some (.int zb), some (.int (-1))]) hG dX12_own_71 (by decide) (pm_c1b rfl) rfl ?_
              refine pm_aloadn hG dX12_own_72 rfl ?_
              refine pm_getf hG dX12_own_73 (flX12_7 _ rfl) rfl rfl ?_
              refine pm_bipush (v := nI 20) hG dX12_own_76 (by decide) ?_
              refine pm_iconst (v := nI 3) hG dX12_own_78 (by decide) ?_
              refine pm_iloadn hG dX12_own_79 rfl ?_
              refine pm_top (v := nI k4) ek4 ?_
              refine pm_imulN (c := 3 * k4) hG dX12_own_80 (by omega) ?_
              refine pm_iaddN (c := 3 * k4 + 20) hG dX12_own_81 (by omega) ?_
              refine pm_iconst (v := nI 1) hG dX12_own_82 (by decide) ?_
              refine pm_iaddN (c := 3 * k4 + 21) hG dX12_own_83 (by omega) ?_
              refine pm_iloadn hG dX12_own_84 rfl ?_
              refine pm_top (v := nI k22) ek22 ?_
              refine pm_iastN hG dX12_own_85 rfl (by decide) (by omega) ?_
              refine mdn_now (fun n_28 en_28 => ?_)
              have hnn_28 := KI.w en_28 hn (okv_o (show kd (3 * k4 + 21) = (2, 20, false) from (kd_T (k := k4) (c := 1) (by omega) (by omega) (by decide))) (by omega))
              have hrn_28 := NRx.w en_28 hr (by rw [(show kd (3 * k4 + 21) = (2, 20, false) from (kd_T (k := k4) (c := 1) (by omega) (by omega) (by decide)))])
              have ksn_28 := KS.w en_28 KS.rf (by unfold tS; omega)
              have e29 : n_28 0 = nI k1 := by rw [en_28, pk_un (by omega)]; exact ek1
              have e30 : n_28 2 = nI k19 := by rw [en_28, pk_un (by omega)]; exact ek19
              have e31 : n_28 (14 * k22 + 119) = (-1) := by rw [en_28, pk_un (by omega)]; exact ek23
              have e32 : n_28 (3 * k4 + 22) = x25 := by rw [en_28, pk_un (by omega)]; exact ex25
              have e33 : n_28 (3 * k4 + 21) = nI k22 := by rw [en_28, pk_us]
              refine pm_iloadn hG dX12_own_86 rfl ?_
              exact pm_iret hG hF dX12_own_87 rfl (Nat.le_refl _) (Nat.le_refl _) ⟨_, rfl, ⟨_, _, _, rfl, hnn_28, hrn_28, ksn_28⟩, rfl⟩
            · refine pm_top (v := nI k27) ek27 ?_
              refine pm_istoreXn (loc' := [some (.ref (B + 54)), some (.int za), some (.int zb), some (.int (nI k27))]) hG dX12_own_71 (by decide) (pm_c1b rfl) rfl ?_
              refine pm_aloadn hG dX12_own_72 rfl ?_
              refine pm_getf hG dX12_own_73 (flX12_7 _ rfl) rfl rfl ?_
              refine pm_bipush (v := nI 20) hG dX12_own_76 (by decide) ?_
              refine pm_iconst (v := nI 3) hG dX12_own_78 (by decide) ?_
              refine pm_iloadn hG dX12_own_79 rfl ?_
              refine pm_top (v := nI k4) ek4 ?_
              refine pm_imulN (c := 3 * k4) hG dX12_own_80 (by omega) ?_
              refine pm_iaddN (c := 3 * k4 + 20) hG dX12_own_81 (by omega) ?_
              refine pm_iconst (v := nI 1) hG dX12_own_82 (by decide) ?_
              refine pm_iaddN (c := 3 * k4 + 21) hG dX12_own_83 (by omega) ?_
              refine pm_iloadn hG dX12_own_84 rfl ?_
              refine pm_top (v := nI k22) ek22 ?_
              refine pm_iastN hG dX12_own_85 rfl (by decide) (by omega) ?_
              refine mdn_now (fun n_34 en_34 => ?_)
              have hnn_34 := KI.w en_34 hn (okv_o (show kd (3 * k4 + 21) = (2, 20, false) from (kd_T (k := k4) (c := 1) (by omega) (by omega) (by decide))) (by omega))
              have hrn_34 := NRx.w en_34 hr (by rw [(show kd (3 * k4 + 21) = (2, 20, false) from (kd_T (k := k4) (c := 1) (by omega) (by omega) (by decide)))])
              have ksn_34 := KS.w en_34 KS.rf (by unfold tS; omega)
              have e35 : n_34 0 = nI k1 := by rw [en_34, pk_un (by omega)]; exact ek1
              have e36 : n_34 2 = nI k19 := by rw [en_34, pk_un (by omega)]; exact ek19
              have e37 : n_34 (14 * k22 + 119) = (-1) := by rw [en_34, pk_un (by omega)]; exact ek23
              have e38 : n_34 (3 * k4 + 22) = x25 := by rw [en_34, pk_un (by omega)]; exact ex25
              have e39 : n_34 (3 * k4 + 21) = nI k22 := by rw [en_34, pk_us]
              refine pm_iloadn hG dX12_own_86 rfl ?_
              exact pm_iret hG hF dX12_own_87 rfl (Nat.le_refl _) (Nat.le_refl _) ⟨_, rfl, ⟨_, _, _, rfl, hnn_34, hrn_34, ksn_34⟩, rfl⟩
          · refine pm_aloadn hG dX12_own_52 rfl ?_
            refine pm_iconst (v := nI 3) hG dX12_own_53 (by decide) ?_
            refine pm_callV (As := [.int (nI 3)]) (rest := []) hG hR dX12_own_54 (lkX12_80 _ rfl) okV_X12_finds rfl rfl (m_finds (d := 1) (by decide) hn hz (by omega)) rfl rfl hdd (Nat.le_refl _) (Nat.le_refl _) (by decide) (pm_ki (fun v40 σ' cnt' hq => ?_))
            obtain ⟨⟨I41, A41, rfl⟩, rfl, fv40⟩ := hq
            exact pm_iret hG hF dX12_own_57 rfl (Nat.le_refl _) (Nat.le_refl _) ⟨_, rfl, ⟨_, _, _, rfl, hn, hr, KS.rf⟩, rfl⟩
        · refine pm_callV (As := [.int (nI k22)]) (rest := []) hG hR dX12_own_23 (lkX12_101 _ rfl) okV_X12_lives rfl rfl (m_lives0 (d := 1) (by decide) (by omega) (by omega : 14 * k22 + 119 = 14 * k22 + 119) ek23 (by omega)) rfl rfl hdd (Nat.le_refl _) (Nat.le_refl _) (by decide) (pm_ki (fun v42 σ' cnt' hq => ?_))
          obtain ⟨rfl, rfl, rfl⟩ := hq
          refine pm_ifN_ne (tgt := 35) hG dX12_own_26 rfl (by omega) (fun q => absurd q (by omega)) (fun _ => ?_)
          refine pm_aloadn hG dX12_own_29 rfl ?_
          refine pm_iconst (v := nI 1) hG dX12_own_30 (by decide) ?_
          refine pm_callV (As := [.int (nI 1)]) (rest := []) hG hR dX12_own_31 (lkX12_80 _ rfl) okV_X12_finds rfl rfl (m_finds (d := 1) (by decide) hn hz (by omega)) rfl rfl hdd (Nat.le_refl _) (Nat.le_refl _) (by decide) (pm_ki (fun v43 σ' cnt' hq => ?_))
          obtain ⟨⟨I44, A44, rfl⟩, rfl, fv43⟩ := hq
          exact pm_iret hG hF dX12_own_34 rfl (Nat.le_refl _) (Nat.le_refl _) ⟨_, rfl, ⟨_, _, _, rfl, hn, hr, KS.rf⟩, rfl⟩
      · refine pm_ifN_eq (tgt := 29) hG dX12_own_18 rfl (by omega) (fun _ => ?_) (fun q => absurd q (by omega))
        refine pm_aloadn hG dX12_own_29 rfl ?_
        refine pm_iconst (v := nI 1) hG dX12_own_30 (by decide) ?_
        refine pm_callV (As := [.int (nI 1)]) (rest := []) hG hR dX12_own_31 (lkX12_80 _ rfl) okV_X12_finds rfl rfl (m_finds (d := 1) (by decide) hn hz (by omega)) rfl rfl hdd (Nat.le_refl _) (Nat.le_refl _) (by decide) (pm_ki (fun v45 σ' cnt' hq => ?_))
        obtain ⟨⟨I46, A46, rfl⟩, rfl, fv45⟩ := hq
        exact pm_iret hG hF dX12_own_34 rfl (Nat.le_refl _) (Nat.le_refl _) ⟨_, rfl, ⟨_, _, _, rfl, hn, hr, KS.rf⟩, rfl⟩
  · refine pm_ifN_eq (tgt := 29) hG dX12_own_5 rfl (by omega) (fun _ => ?_) (fun q => absurd q (by omega))
    refine pm_aloadn hG dX12_own_29 rfl ?_
    refine pm_iconst (v := nI 1) hG dX12_own_30 (by decide) ?_
    refine pm_callV (As := [.int (nI 1)]) (rest := []) hG hR dX12_own_31 (lkX12_80 _ rfl) okV_X12_finds rfl rfl (m_finds (d := 1) (by decide) hn hz (by omega)) rfl rfl hdd (Nat.le_refl _) (Nat.le_refl _) (by decide) (pm_ki (fun v47 σ' cnt' hq => ?_))
    obtain ⟨⟨I48, A48, rfl⟩, rfl, fv47⟩ := hq
    exact pm_iret hG hF dX12_own_34 rfl (Nat.le_refl _) (Nat.le_refl _) ⟨_, rfl, ⟨_, _, _, rfl, hn, hr, KS.rf⟩, rfl⟩

set_option maxRecDepth 100000 in
set_option maxHeartbeats 4000000 in
theorem m_pay {d B cnt p0 t0 : Nat} {σ : pm_S} {I : Nat → Int32} {A : Nat → Nat → Int32} {n k z : Nat → Int32} {ac wt pl im : Int32} {za zb : Int32} (hdd : 2 ≤ d) (hn : KI n) (hr : NR n) (hz : SZ z)  : pm_met mX12_pay d 0 0 B [.ref (B + 54), .int za, .int zb] cnt (pm_mid σ (md_L B I A n k z ac wt pl (nI p0) (nI t0) im)) (pm_Qi (fun v σ' cnt' => (∃ (I' : Nat → Int32) (A' : Nat → Nat → Int32) (n' : Nat → Int32), σ' = pm_mid σ (md_L B I' A' n' k z ac wt pl (nI p0) (nI t0) im) ∧ KI n' ∧ NR n' ∧ KS n' n) ∧ cnt = cnt')) := by
  refine pm_enter 0 (by decide) (Nat.le_of_ble_eq_true rfl) rfl (fun G hG hR hF => ?_)
  refine pm_aloadn hG dX12_pay_0 rfl ?_
  refine pm_iloadn hG dX12_pay_1 rfl ?_
  obtain ⟨k1, hk1, ek1⟩ := KI.nat hn (show kd 2 = (1, 21, true) by decide)
  refine pm_callV (As := [.int za]) (rest := []) hG hR dX12_pay_2 (lkX12_91 _ rfl) okV_X12_isPerson rfl rfl (m_isPerson (d := 1) (by decide) ek1 (by omega)) rfl rfl hdd (Nat.le_refl _) (Nat.le_refl _) (by decide) (pm_ki (fun v2 σ' cnt' hq => ?_))
  obtain ⟨hq, rfl, rfl⟩ := hq
  rcases hq with ⟨rfl, k4, hk4, ek4⟩ | rfl
  · refine pm_ifN_eq (tgt := 19) hG dX12_pay_5 rfl (by omega) (fun q => absurd q (by omega)) (fun _ => ?_)
    refine pm_iloadn hG dX12_pay_8 rfl ?_
    refine pm_iconst (v := nI 1) hG dX12_pay_9 (by decide) ?_
    refine pm_sipush (v := nI 9999) hG dX12_pay_10 (by decide) ?_
    refine pm_callS (As := [.int zb, .int (nI 1), .int (nI 9999)]) (rest := []) hG hR dX12_pay_13 (lkX12_68 _ rfl) okS_X12_in (m_in (d := 1)) rfl rfl hdd (Nat.le_refl _) (Nat.le_refl _) (by decide) (pm_ki (fun v5 σ' cnt' hq => ?_))
    obtain ⟨hq, rfl, rfl⟩ := hq
    rcases hq with ⟨rfl, ac6, bc6⟩ | ⟨rfl, c6⟩
    · obtain ⟨k7, hk7, ek7⟩ := in_nat (by omega) (by omega) ac6 bc6
      refine pm_ifN_ne (tgt := 25) hG dX12_pay_16 rfl (by omega) (fun _ => ?_) (fun q => absurd q (by omega))
      refine pm_aloadn hG dX12_pay_25 rfl ?_
      refine pm_iloadn hG dX12_pay_26 rfl ?_
      refine pm_top (v := nI k4) ek4 ?_
      rcases KI.opt hn (show kd (14 * k4 + 119) = (2, 2001, false) from (kd_P (k := k4) (c := 9) (by omega) (by omega) (by decide))) with ek8 | ⟨k8, hk8, ek8⟩
      · refine pm_callV (As := [.int (nI k4)]) (rest := []) hG hR dX12_pay_27 (lkX12_101 _ rfl) okV_X12_lives rfl rfl (m_lives1 (d := 1) (by decide) (by omega) (by omega : 14 * k4 + 119 = 14 * k4 + 119) ek8) rfl rfl hdd (Nat.le_refl _) (Nat.le_refl _) (by decide) (pm_ki (fun v9 σ' cnt' hq => ?_))
        obtain ⟨rfl, rfl, rfl⟩ := hq
        refine pm_ifN_ne (tgt := 39) hG dX12_pay_30 rfl (by omega) (fun _ => ?_) (fun q => absurd q (by omega))
        refine pm_aloadn hG dX12_pay_39 rfl ?_
        refine pm_getf hG dX12_pay_40 (flX12_7 _ rfl) rfl rfl ?_
        refine pm_bipush (v := nI 9) hG dX12_pay_43 (by decide) ?_
        refine pm_ialdN hG dX12_pay_45 rfl (by decide) (by omega) ?_
        refine pm_gen (fun x10 ex10 => ?_)
        refine pm_iloadn hG dX12_pay_46 rfl ?_
        refine pm_top (v := nI k7) ek7 ?_
        refine pm_icmp_ge (tgt := 56) hG dX12_pay_47 rfl (fun c11 => ?_) (fun c11 => ?_)
        · refine pm_aloadn hG dX12_pay_56 rfl ?_
          refine pm_getf hG dX12_pay_57 (flX12_7 _ rfl) rfl rfl ?_
          refine pm_bipush (v := nI 9) hG dX12_pay_60 (by decide) ?_
          refine pm_dup2 hG dX12_pay_62 rfl rfl ?_
          refine pm_ialdN hG dX12_pay_63 rfl (by decide) (by omega) ?_
          refine pm_top (v := x10) ex10 ?_
          refine pm_iloadn hG dX12_pay_64 rfl ?_
          refine pm_top (v := nI k7) ek7 ?_
          refine pm_isub hG dX12_pay_65 ?_
          refine pm_iastN hG dX12_pay_66 rfl (by decide) (by omega) ?_
          refine mdn_now (fun n_12 en_12 => ?_)
          have hnn_12 := KI.w en_12 hn (okv_f (show kd 9 = (0, 0, false) by decide))
          have hrn_12 := NRx.w en_12 hr (by rw [(show kd 9 = (0, 0, false) by decide)])
          have ksn_12 := KS.w en_12 KS.rf (by unfold tS; omega)
          have e13 : n_12 2 = nI k1 := by rw [en_12, pk_un (by omega)]; exact ek1
          have e14 : n_12 (14 * k4 + 119) = (-1) := by rw [en_12, pk_un (by omega)]; exact ek8
          have e15 : n_12 9 = x10 - (nI k7) := by rw [en_12, pk_us]
          refine pm_aloadn hG dX12_pay_67 rfl ?_
          refine pm_iloadn hG dX12_pay_68 rfl ?_
          refine pm_top (v := nI k4) ek4 ?_
          refine pm_bipush (v := nI 7) hG dX12_pay_69 (by decide) ?_
          refine pm_aloadn hG dX12_pay_71 rfl ?_
          refine pm_iloadn hG dX12_pay_72 rfl ?_
          refine pm_top (v := nI k4) ek4 ?_
          refine pm_bipush (v := nI 7) hG dX12_pay_73 (by decide) ?_
          refine pm_callV (As := [.int (nI k4), .int (nI 7)]) (rest := [.int (nI 7), .int (nI k4), .ref (B + 54)]) hG hR dX12_pay_75 (lkX12_72 _ rfl) okV_X12_man rfl rfl (m_man (d := 1) (e := 14 * k4 + 117) (by omega) (by omega) (by omega)) rfl rfl hdd (Nat.le_refl _) (Nat.le_refl _) (Nat.le_of_ble_eq_true rfl) (pm_ki (fun v16 σ' cnt' hq => ?_))
          obtain ⟨rfl, rfl, rfl⟩ := hq
          refine pm_gen (fun x17 ex17 => ?_)
          refine pm_iloadn hG dX12_pay_78 rfl ?_
          refine pm_top (v := nI k7) ek7 ?_
          refine pm_iadd hG dX12_pay_79 ?_
          refine pm_callV (As := [.int (nI k4), .int (nI 7), .int (x17 + (nI k7))]) (rest := []) hG hR dX12_pay_80 (lkX12_97 _ rfl) okV_X12_sets rfl rfl (m_sets (d := 1) (e := 14 * k4 + 117) (by omega) (by omega) (by omega)) rfl rfl hdd (Nat.le_refl _) (Nat.le_refl _) (by decide) (pm_kv (fun σ' cnt' hq => ?_))
          obtain ⟨rfl, rfl⟩ := hq
          obtain ⟨n_18, en_18⟩ : ∃ f : Nat → Int32, f = upd n_12 (14 * k4 + 117) (x17 + (nI k7)) := ⟨_, rfl⟩
          rw [← en_18]
          have hnn_18 := KI.w en_18 hnn_12 (okv_f (show kd (14 * k4 + 117) = (0, 0, false) from (kd_P (k := k4) (c := 7) (by omega) (by omega) (by decide))))
          have hrn_18 := NRx.w en_18 hrn_12 (by rw [(show kd (14 * k4 + 117) = (0, 0, false) from (kd_P (k := k4) (c := 7) (by omega) (by omega) (by decide)))])
          have ksn_18 := KS.w en_18 ksn_12 (by unfold tS; omega)
          have e19 : n_18 2 = nI k1 := by rw [en_18, pk_un (by omega)]; exact e13
          have e20 : n_18 (14 * k4 + 119) = (-1) := by rw [en_18, pk_un (by omega)]; exact e14
          have e21 : n_18 9 = x10 - (nI k7) := by rw [en_18, pk_un (by omega)]; exact e15
          have e22 : n_18 (14 * k4 + 117) = x17 + (nI k7) := by rw [en_18, pk_us]
          refine pm_aloadn hG dX12_pay_83 rfl ?_
          refine pm_getf hG dX12_pay_84 (flX12_7 _ rfl) rfl rfl ?_
          refine pm_bipush (v := nI 9) hG dX12_pay_87 (by decide) ?_
          refine pm_ialdN hG dX12_pay_89 rfl (by decide) (by omega) ?_
          refine pm_top (v := x10 - (nI k7)) e21 ?_
          exact pm_iret hG hF dX12_pay_90 rfl (Nat.le_refl _) (Nat.le_refl _) ⟨_, rfl, ⟨_, _, _, rfl, hnn_18, hrn_18, ksn_18⟩, rfl⟩
        · refine pm_aloadn hG dX12_pay_50 rfl ?_
          refine pm_iconst (v := nI 2) hG dX12_pay_51 (by decide) ?_
          refine pm_callV (As := [.int (nI 2)]) (rest := []) hG hR dX12_pay_52 (lkX12_80 _ rfl) okV_X12_finds rfl rfl (m_finds (d := 1) (by decide) hn hz (by omega)) rfl rfl hdd (Nat.le_refl _) (Nat.le_refl _) (by decide) (pm_ki (fun v23 σ' cnt' hq => ?_))
          obtain ⟨⟨I24, A24, rfl⟩, rfl, fv23⟩ := hq
          exact pm_iret hG hF dX12_pay_55 rfl (Nat.le_refl _) (Nat.le_refl _) ⟨_, rfl, ⟨_, _, _, rfl, hn, hr, KS.rf⟩, rfl⟩
      · refine pm_callV (As := [.int (nI k4)]) (rest := []) hG hR dX12_pay_27 (lkX12_101 _ rfl) okV_X12_lives rfl rfl (m_lives0 (d := 1) (by decide) (by omega) (by omega : 14 * k4 + 119 = 14 * k4 + 119) ek8 (by omega)) rfl rfl hdd (Nat.le_refl _) (Nat.le_refl _) (by decide) (pm_ki (fun v25 σ' cnt' hq => ?_))
        obtain ⟨rfl, rfl, rfl⟩ := hq
        refine pm_ifN_ne (tgt := 39) hG dX12_pay_30 rfl (by omega) (fun q => absurd q (by omega)) (fun _ => ?_)
        refine pm_aloadn hG dX12_pay_33 rfl ?_
        refine pm_iconst (v := nI 3) hG dX12_pay_34 (by decide) ?_
        refine pm_callV (As := [.int (nI 3)]) (rest := []) hG hR dX12_pay_35 (lkX12_80 _ rfl) okV_X12_finds rfl rfl (m_finds (d := 1) (by decide) hn hz (by omega)) rfl rfl hdd (Nat.le_refl _) (Nat.le_refl _) (by decide) (pm_ki (fun v26 σ' cnt' hq => ?_))
        obtain ⟨⟨I27, A27, rfl⟩, rfl, fv26⟩ := hq
        exact pm_iret hG hF dX12_pay_38 rfl (Nat.le_refl _) (Nat.le_refl _) ⟨_, rfl, ⟨_, _, _, rfl, hn, hr, KS.rf⟩, rfl⟩
    · refine pm_ifN_ne (tgt := 25) hG dX12_pay_16 rfl (by omega) (fun q => absurd q (by omega)) (fun _ => ?_)
      refine pm_aloadn hG dX12_pay_19 rfl ?_
      refine pm_iconst (v := nI 1) hG dX12_pay_20 (by decide) ?_
      refine pm_callV (As := [.int (nI 1)]) (rest := []) hG hR dX12_pay_21 (lkX12_80 _ rfl) okV_X12_finds rfl rfl (m_finds (d := 1) (by decide) hn hz (by omega)) rfl rfl hdd (Nat.le_refl _) (Nat.le_refl _) (by decide) (pm_ki (fun v28 σ' cnt' hq => ?_))
      obtain ⟨⟨I29, A29, rfl⟩, rfl, fv28⟩ := hq
      exact pm_iret hG hF dX12_pay_24 rfl (Nat.le_refl _) (Nat.le_refl _) ⟨_, rfl, ⟨_, _, _, rfl, hn, hr, KS.rf⟩, rfl⟩
  · refine pm_ifN_eq (tgt := 19) hG dX12_pay_5 rfl (by omega) (fun _ => ?_) (fun q => absurd q (by omega))
    refine pm_aloadn hG dX12_pay_19 rfl ?_
    refine pm_iconst (v := nI 1) hG dX12_pay_20 (by decide) ?_
    refine pm_callV (As := [.int (nI 1)]) (rest := []) hG hR dX12_pay_21 (lkX12_80 _ rfl) okV_X12_finds rfl rfl (m_finds (d := 1) (by decide) hn hz (by omega)) rfl rfl hdd (Nat.le_refl _) (Nat.le_refl _) (by decide) (pm_ki (fun v30 σ' cnt' hq => ?_))
    obtain ⟨⟨I31, A31, rfl⟩, rfl, fv30⟩ := hq
    exact pm_iret hG hF dX12_pay_24 rfl (Nat.le_refl _) (Nat.le_refl _) ⟨_, rfl, ⟨_, _, _, rfl, hn, hr, KS.rf⟩, rfl⟩

set_option maxRecDepth 100000 in
set_option maxHeartbeats 4000000 in
theorem m_person {d B cnt p0 t0 : Nat} {σ : pm_S} {I : Nat → Int32} {A : Nat → Nat → Int32} {n k z : Nat → Int32} {ac wt pl im : Int32} {za zb zc zd : Int32} (hdd : 3 ≤ d) (hn : KI n) (hr : NR n) (hz : SZ z)  : pm_met mX12_person d 0 0 B [.ref (B + 54), .int za, .int zb, .int zc, .int zd] cnt (pm_mid σ (md_L B I A n k z ac wt pl (nI p0) (nI t0) im)) (pm_Qi (fun v σ' cnt' => (∃ (I' : Nat → Int32) (A' : Nat → Nat → Int32) (n' : Nat → Int32), σ' = pm_mid σ (md_L B I' A' n' k z ac wt pl (nI p0) (nI t0) im) ∧ KI n' ∧ NR n' ∧ KS n' n) ∧ cnt = cnt')) := by
  refine pm_enter 3 (by decide) (Nat.le_of_ble_eq_true rfl) rfl (fun G hG hR hF => ?_)
  refine pm_iloadn hG dX12_person_0 rfl ?_
  refine pm_iconst (v := nI 0) hG dX12_person_1 (by decide) ?_
  refine pm_iconst (v := nI 1) hG dX12_person_2 (by decide) ?_
  refine pm_callS (As := [.int za, .int (nI 0), .int (nI 1)]) (rest := []) hG hR dX12_person_3 (lkX12_68 _ rfl) okS_X12_in (m_in (d := 2)) rfl rfl hdd (Nat.le_refl _) (Nat.le_refl _) (by decide) (pm_ki (fun v1 σ' cnt' hq => ?_))
  obtain ⟨hq, rfl, rfl⟩ := hq
  rcases hq with ⟨rfl, ac2, bc2⟩ | ⟨rfl, c2⟩
  · obtain ⟨k3, hk3, ek3⟩ := in_nat (by omega) (by omega) ac2 bc2
    refine pm_ifN_eq (tgt := 73) hG dX12_person_6 rfl (by omega) (fun q => absurd q (by omega)) (fun _ => ?_)
    refine pm_iloadn hG dX12_person_9 rfl ?_
    refine pm_sipush (v := (-20000)) hG dX12_person_10 (by decide) ?_
    refine pm_aloadn hG dX12_person_13 rfl ?_
    refine pm_getf hG dX12_person_14 (flX12_7 _ rfl) rfl rfl ?_
    refine pm_bipush (v := nI 8) hG dX12_person_17 (by decide) ?_
    refine pm_ialdN hG dX12_person_19 rfl (by decide) (by omega) ?_
    obtain ⟨k4, hk4, ek4⟩ := KI.nat hn (show kd 8 = (1, 2001, false) by decide)
    refine pm_top (v := nI k4) ek4 ?_
    refine pm_callS (As := [.int zb, .int (-20000), .int (nI k4)]) (rest := []) hG hR dX12_person_20 (lkX12_68 _ rfl) okS_X12_in (m_in (d := 2)) rfl rfl hdd (Nat.le_refl _) (Nat.le_refl _) (by decide) (pm_ki (fun v5 σ' cnt' hq => ?_))
    obtain ⟨hq, rfl, rfl⟩ := hq
    rcases hq with ⟨rfl, ac6, bc6⟩ | ⟨rfl, c6⟩
    · refine pm_ifN_eq (tgt := 73) hG dX12_person_23 rfl (by omega) (fun q => absurd q (by omega)) (fun _ => ?_)
      refine pm_iloadn hG dX12_person_26 rfl ?_
      refine pm_if_lt (tgt := 73) hG dX12_person_27 rfl (fun c7 => ?_) (fun c7 => ?_)
      · refine pm_iconst (v := nI 0) hG dX12_person_73 (by decide) ?_
        refine pm_istoreXi (loc' := [some (.ref (B + 54)), some (.int za), some (.int zb), some (.int zc), some (.int zd), some (.int (nI 0)), none, none]) hG dX12_person_74 (by decide) (pm_c1b rfl) rfl ?_
        refine pm_iloadi hG dX12_person_76 rfl ?_
        refine pm_ifN_ne (tgt := 87) hG dX12_person_78 rfl (by omega) (fun q => absurd q (by omega)) (fun _ => ?_)
        refine pm_aloadn hG dX12_person_81 rfl ?_
        refine pm_iconst (v := nI 1) hG dX12_person_82 (by decide) ?_
        refine pm_callV (As := [.int (nI 1)]) (rest := []) hG hR dX12_person_83 (lkX12_80 _ rfl) okV_X12_finds rfl rfl (m_finds (d := 2) (by decide) hn hz (by omega)) rfl rfl hdd (Nat.le_refl _) (Nat.le_refl _) (by decide) (pm_ki (fun v8 σ' cnt' hq => ?_))
        obtain ⟨⟨I9, A9, rfl⟩, rfl, fv8⟩ := hq
        exact pm_iret hG hF dX12_person_86 rfl (Nat.le_refl _) (Nat.le_refl _) ⟨_, rfl, ⟨_, _, _, rfl, hn, hr, KS.rf⟩, rfl⟩
      · obtain ⟨k10, hk10, ek10⟩ := nI_of c7
        refine pm_aloadn hG dX12_person_30 rfl ?_
        refine pm_iloadn hG dX12_person_31 rfl ?_
        refine pm_top (v := nI k10) ek10 ?_
        refine pm_bipush (v := nI 100) hG dX12_person_32 (by decide) ?_
        refine pm_idivN hG dX12_person_34 (by omega) (by decide) (by decide) ?_
        refine pm_iconst (v := nI 1) hG dX12_person_35 (by decide) ?_
        refine pm_isub hG dX12_person_36 ?_
        refine pm_iconst (v := nI 1) hG dX12_person_37 (by decide) ?_
        refine pm_iloadn hG dX12_person_38 rfl ?_
        refine pm_callV (As := [.int ((nI ((k10 / 100))) - (nI 1)), .int (nI 1), .int zb]) (rest := []) hG hR dX12_person_39 (lkX12_94 _ rfl) okV_X12_isParent rfl rfl (m_isParent (d := 2) (by decide) hn hz) rfl rfl hdd (Nat.le_refl _) (Nat.le_refl _) (by decide) (pm_ki (fun v11 σ' cnt' hq => ?_))
        obtain ⟨rfl, rfl, hq⟩ := hq
        rcases hq with rfl | ⟨rfl, ek12 | ⟨k12, hk12, ek12⟩⟩
        · refine pm_ifN_eq (tgt := 73) hG dX12_person_42 rfl (by omega) (fun _ => ?_) (fun q => absurd q (by omega))
          refine pm_iconst (v := nI 0) hG dX12_person_73 (by decide) ?_
          refine pm_istoreXi (loc' := [some (.ref (B + 54)), some (.int za), some (.int zb), some (.int zc), some (.int zd), some (.int (nI 0)), none, none]) hG dX12_person_74 (by decide) (pm_c1b rfl) rfl ?_
          refine pm_iloadi hG dX12_person_76 rfl ?_
          refine pm_ifN_ne (tgt := 87) hG dX12_person_78 rfl (by omega) (fun q => absurd q (by omega)) (fun _ => ?_)
          refine pm_aloadn hG dX12_person_81 rfl ?_
          refine pm_iconst (v := nI 1) hG dX12_person_82 (by decide) ?_
          refine pm_callV (As := [.int (nI 1)]) (rest := []) hG hR dX12_person_83 (lkX12_80 _ rfl) okV_X12_finds rfl rfl (m_finds (d := 2) (by decide) hn hz (by omega)) rfl rfl hdd (Nat.le_refl _) (Nat.le_refl _) (by decide) (pm_ki (fun v13 σ' cnt' hq => ?_))
          obtain ⟨⟨I14, A14, rfl⟩, rfl, fv13⟩ := hq
          exact pm_iret hG hF dX12_person_86 rfl (Nat.le_refl _) (Nat.le_refl _) ⟨_, rfl, ⟨_, _, _, rfl, hn, hr, KS.rf⟩, rfl⟩
        · refine pm_ifN_eq (tgt := 73) hG dX12_person_42 rfl (by omega) (fun q => absurd q (by omega)) (fun _ => ?_)
          refine pm_aloadn hG dX12_person_45 rfl ?_
          refine pm_iloadn hG dX12_person_46 rfl ?_
          refine pm_top (v := nI k10) ek10 ?_
          refine pm_bipush (v := nI 100) hG dX12_person_47 (by decide) ?_
          refine pm_iremM hG dX12_person_49 (by omega) (by decide) (by decide) ?_
          refine pm_iconst (v := nI 1) hG dX12_person_50 (by decide) ?_
          refine pm_isub hG dX12_person_51 ?_
          refine pm_iconst (v := nI 0) hG dX12_person_52 (by decide) ?_
          refine pm_iloadn hG dX12_person_53 rfl ?_
          refine pm_callV (As := [.int ((nI ((k10 % 100))) - (nI 1)), .int (nI 0), .int zb]) (rest := []) hG hR dX12_person_54 (lkX12_94 _ rfl) okV_X12_isParent rfl rfl (m_isParent (d := 2) (by decide) hn hz) rfl rfl hdd (Nat.le_refl _) (Nat.le_refl _) (by decide) (pm_ki (fun v15 σ' cnt' hq => ?_))
          obtain ⟨rfl, rfl, hq⟩ := hq
          rcases hq with rfl | ⟨rfl, ek16 | ⟨k16, hk16, ek16⟩⟩
          · refine pm_ifN_eq (tgt := 73) hG dX12_person_57 rfl (by omega) (fun _ => ?_) (fun q => absurd q (by omega))
            refine pm_iconst (v := nI 0) hG dX12_person_73 (by decide) ?_
            refine pm_istoreXi (loc' := [some (.ref (B + 54)), some (.int za), some (.int zb), some (.int zc), some (.int zd), some (.int (nI 0)), none, none]) hG dX12_person_74 (by decide) (pm_c1b rfl) rfl ?_
            refine pm_iloadi hG dX12_person_76 rfl ?_
            refine pm_ifN_ne (tgt := 87) hG dX12_person_78 rfl (by omega) (fun q => absurd q (by omega)) (fun _ => ?_)
            refine pm_aloadn hG dX12_person_81 rfl ?_
            refine pm_iconst (v := nI 1) hG dX12_person_82 (by decide) ?_
            refine pm_callV (As := [.int (nI 1)]) (rest := []) hG hR dX12_person_83 (lkX12_80 _ rfl) okV_X12_finds rfl rfl (m_finds (d := 2) (by decide) hn hz (by omega)) rfl rfl hdd (Nat.le_refl _) (Nat.le_refl _) (by decide) (pm_ki (fun v17 σ' cnt' hq => ?_))
            obtain ⟨⟨I18, A18, rfl⟩, rfl, fv17⟩ := hq
            exact pm_iret hG hF dX12_person_86 rfl (Nat.le_refl _) (Nat.le_refl _) ⟨_, rfl, ⟨_, _, _, rfl, hn, hr, KS.rf⟩, rfl⟩
          · refine pm_ifN_eq (tgt := 73) hG dX12_person_57 rfl (by omega) (fun q => absurd q (by omega)) (fun _ => ?_)
            refine pm_aloadn hG dX12_person_60 rfl ?_
            refine pm_iloadi hG dX12_person_61 rfl ?_
            obtain ⟨k19, hk19, ek19⟩ := KI.nat hn (show kd 0 = (1, 11, true) by decide)
            refine pm_callV (As := [.int zd]) (rest := []) hG hR dX12_person_63 (lkX12_84 _ rfl) okV_X12_isTown rfl rfl (m_isTown (d := 2) (by decide) ek19 (by omega)) rfl rfl hdd (Nat.le_refl _) (Nat.le_refl _) (by decide) (pm_ki (fun v20 σ' cnt' hq => ?_))
            obtain ⟨hq, rfl, rfl⟩ := hq
            rcases hq with ⟨rfl, k22, hk22, ek22⟩ | rfl
            · refine pm_ifN_eq (tgt := 73) hG dX12_person_66 rfl (by omega) (fun q => absurd q (by omega)) (fun _ => ?_)
              refine pm_iconst (v := nI 1) hG dX12_person_69 (by decide) ?_
              refine pm_goto (tgt := 74) hG dX12_person_70 rfl ?_
              refine pm_istoreXi (loc' := [some (.ref (B + 54)), some (.int za), some (.int zb), some (.int zc), some (.int zd), some (.int (nI 1)), none, none]) hG dX12_person_74 (by decide) (pm_c1b rfl) rfl ?_
              refine pm_iloadi hG dX12_person_76 rfl ?_
              refine pm_ifN_ne (tgt := 87) hG dX12_person_78 rfl (by omega) (fun _ => ?_) (fun q => absurd q (by omega))
              refine pm_aloadn hG dX12_person_87 rfl ?_
              refine pm_getf hG dX12_person_88 (flX12_7 _ rfl) rfl rfl ?_
              refine pm_iconst (v := nI 2) hG dX12_person_91 (by decide) ?_
              refine pm_ialdN hG dX12_person_92 rfl (by decide) (by omega) ?_
              obtain ⟨k23, hk23, ek23⟩ := KI.nat hn (show kd 2 = (1, 21, true) by decide)
              refine pm_top (v := nI k23) ek23 ?_
              refine pm_istoreXi (loc' := [some (.ref (B + 54)), some (.int za), some (.int zb), some (.int zc), some (.int zd), some (.int (nI 1)), some (.int (nI k23)), none]) hG dX12_person_93 (by decide) (pm_c1b rfl) rfl ?_
              refine pm_iloadi hG dX12_person_95 rfl ?_
              refine pm_bipush (v := nI 20) hG dX12_person_97 (by decide) ?_
              refine pm_icmpN_ne (tgt := 108) hG dX12_person_99 rfl (by omega) (by omega) (fun c24 => ?_) (fun c24 => ?_)
              · refine pm_aloadn hG dX12_person_108 rfl ?_
                refine pm_getf hG dX12_person_109 (flX12_7 _ rfl) rfl rfl ?_
                refine pm_iconst (v := nI 2) hG dX12_person_112 (by decide) ?_
                refine pm_dup2 hG dX12_person_113 rfl rfl ?_
                refine pm_ialdN hG dX12_person_114 rfl (by decide) (by omega) ?_
                refine pm_top (v := nI k23) ek23 ?_
                refine pm_iconst (v := nI 1) hG dX12_person_115 (by decide) ?_
                refine pm_iaddN (c := k23 + 1) hG dX12_person_116 (by omega) ?_
                refine pm_iastN hG dX12_person_117 rfl (by decide) (by omega) ?_
                refine mdn_now (fun n_25 en_25 => ?_)
                have hnn_25 := KI.w en_25 hn (okv_n (show kd 2 = (1, 21, true) by decide) (by omega))
                have hrn_25 := NRx.pers en_25 hr ek19 (by omega) ek23 (by omega)
                have ksn_25 := KS.w en_25 KS.rf (by unfold tS; omega)
                have e26 : n_25 8 = nI k4 := by rw [en_25, pk_un (by omega)]; exact ek4
                have e27 : n_25 0 = nI k19 := by rw [en_25, pk_un (by omega)]; exact ek19
                have e28 : n_25 2 = nI (k23 + 1) := by rw [en_25, pk_us]
                refine pm_iconst (v := nI 0) hG dX12_person_118 (by decide) ?_
                refine pm_istoreXi (loc' := [some (.ref (B + 54)), some (.int za), some (.int zb), some (.int zc), some (.int zd), some (.int (nI 1)), some (.int (nI k23)), some (.int (nI 0))]) hG dX12_person_119 (by decide) (pm_c1b rfl) rfl ?_
                refine pm_iloadi hG dX12_person_121 rfl ?_
                refine pm_bipush (v := nI 14) hG dX12_person_123 (by decide) ?_
                refine pm_icmpN_ge (tgt := 143) hG dX12_person_125 rfl (by omega) (by omega) (fun q => absurd q (by omega)) (fun _ => ?_)
                refine pm_aloadn hG dX12_person_128 rfl ?_
                refine pm_iloadi hG dX12_person_129 rfl ?_
                refine pm_iloadi hG dX12_person_131 rfl ?_
                refine pm_iconst (v := nI 0) hG dX12_person_133 (by decide) ?_
                refine pm_callV (As := [.int (nI k23), .int (nI 0), .int (nI 0)]) (rest := []) hG hR dX12_person_134 (lkX12_97 _ rfl) okV_X12_sets rfl rfl (m_sets (d := 2) (e := 14 * k23 + 110) (by omega) (by omega) (by omega)) rfl rfl hdd (Nat.le_refl _) (Nat.le_refl _) (by decide) (pm_kv (fun σ' cnt' hq => ?_))
                obtain ⟨rfl, rfl⟩ := hq
                obtain ⟨n_29, en_29⟩ : ∃ f : Nat → Int32, f = upd n_25 (14 * k23 + 110) (nI 0) := ⟨_, rfl⟩
                rw [← en_29]
                have hnn_29 := KI.w en_29 hnn_25 (okv_f (show kd (14 * k23 + 110) = (0, 0, false) from (kd_P (k := k23) (c := 0) (by omega) (by omega) (by decide))))
                have hrn_29 := NRx.w en_29 hrn_25 (by rw [(show kd (14 * k23 + 110) = (0, 0, false) from (kd_P (k := k23) (c := 0) (by omega) (by omega) (by decide)))])
                have ksn_29 := KS.w en_29 ksn_25 (by unfold tS; omega)
                have e30 : n_29 8 = nI k4 := by rw [en_29, pk_un (by omega)]; exact e26
                have e31 : n_29 0 = nI k19 := by rw [en_29, pk_un (by omega)]; exact e27
                have e32 : n_29 2 = nI (k23 + 1) := by rw [en_29, pk_un (by omega)]; exact e28
                have e33 : n_29 (14 * k23 + 110) = nI 0 := by rw [en_29, pk_us]
                refine pm_iincX (v := nI 1) (loc' := [some (.ref (B + 54)), some (.int za), some (.int zb), some (.int zc), some (.int zd), some (.int (nI 1)), some (.int (nI k23)), some (.int (nI 1))]) hG dX12_person_137 rfl (nI_1 _) (by decide) (pm_c1b rfl) rfl ?_
                refine pm_goto (tgt := 121) hG dX12_person_140 rfl ?_
                refine pm_iloadi hG dX12_person_121 rfl ?_
                refine pm_bipush (v := nI 14) hG dX12_person_123 (by decide) ?_
                refine pm_icmpN_ge (tgt := 143) hG dX12_person_125 rfl (by omega) (by omega) (fun q => absurd q (by omega)) (fun _ => ?_)
                refine pm_aloadn hG dX12_person_128 rfl ?_
                refine pm_iloadi hG dX12_person_129 rfl ?_
                refine pm_iloadi hG dX12_person_131 rfl ?_
                refine pm_iconst (v := nI 0) hG dX12_person_133 (by decide) ?_
                refine pm_callV (As := [.int (nI k23), .int (nI 1), .int (nI 0)]) (rest := []) hG hR dX12_person_134 (lkX12_97 _ rfl) okV_X12_sets rfl rfl (m_sets (d := 2) (e := 14 * k23 + 111) (by omega) (by omega) (by omega)) rfl rfl hdd (Nat.le_refl _) (Nat.le_refl _) (by decide) (pm_kv (fun σ' cnt' hq => ?_))
                obtain ⟨rfl, rfl⟩ := hq
                obtain ⟨n_34, en_34⟩ : ∃ f : Nat → Int32, f = upd n_29 (14 * k23 + 111) (nI 0) := ⟨_, rfl⟩
                rw [← en_34]
                have hnn_34 := KI.w en_34 hnn_29 (okv_f (show kd (14 * k23 + 111) = (0, 0, false) from (kd_P (k := k23) (c := 1) (by omega) (by omega) (by decide))))
                have hrn_34 := NRx.w en_34 hrn_29 (by rw [(show kd (14 * k23 + 111) = (0, 0, false) from (kd_P (k := k23) (c := 1) (by omega) (by omega) (by decide)))])
                have ksn_34 := KS.w en_34 ksn_29 (by unfold tS; omega)
                have e35 : n_34 8 = nI k4 := by rw [en_34, pk_un (by omega)]; exact e30
                have e36 : n_34 0 = nI k19 := by rw [en_34, pk_un (by omega)]; exact e31
                have e37 : n_34 2 = nI (k23 + 1) := by rw [en_34, pk_un (by omega)]; exact e32
                have e38 : n_34 (14 * k23 + 111) = nI 0 := by rw [en_34, pk_us]
                refine pm_iincX (v := nI 2) (loc' := [some (.ref (B + 54)), some (.int za), some (.int zb), some (.int zc), some (.int zd), some (.int (nI 1)), some (.int (nI k23)), some (.int (nI 2))]) hG dX12_person_137 rfl (nI_1 _) (by decide) (pm_c1b rfl) rfl ?_
                refine pm_goto (tgt := 121) hG dX12_person_140 rfl ?_
                refine pm_iloadi hG dX12_person_121 rfl ?_
                refine pm_bipush (v := nI 14) hG dX12_person_123 (by decide) ?_
                refine pm_icmpN_ge (tgt := 143) hG dX12_person_125 rfl (by omega) (by omega) (fun q => absurd q (by omega)) (fun _ => ?_)
                refine pm_aloadn hG dX12_person_128 rfl ?_
                refine pm_iloadi hG dX12_person_129 rfl ?_
                refine pm_iloadi hG dX12_person_131 rfl ?_
                refine pm_iconst (v := nI 0) hG dX12_person_133 (by decide) ?_
                refine pm_callV (As := [.int (nI k23), .int (nI 2), .int (nI 0)]) (rest := []) hG hR dX12_person_134 (lkX12_97 _ rfl) okV_X12_sets rfl rfl (m_sets (d := 2) (e := 14 * k23 + 112) (by omega) (by omega) (by omega)) rfl rfl hdd (Nat.le_refl _) (Nat.le_refl _) (by decide) (pm_kv (fun σ' cnt' hq => ?_))
                obtain ⟨rfl, rfl⟩ := hq
                obtain ⟨n_39, en_39⟩ : ∃ f : Nat → Int32, f = upd n_34 (14 * k23 + 112) (nI 0) := ⟨_, rfl⟩
                rw [← en_39]
                have hnn_39 := KI.w en_39 hnn_34 (okv_o (show kd (14 * k23 + 112) = (2, 20, false) from (kd_P (k := k23) (c := 2) (by omega) (by omega) (by decide))) (by omega))
                have hrn_39 := NRx.w en_39 hrn_34 (by rw [(show kd (14 * k23 + 112) = (2, 20, false) from (kd_P (k := k23) (c := 2) (by omega) (by omega) (by decide)))])
                have ksn_39 := KS.w en_39 ksn_34 (by unfold tS; omega)
                have e40 : n_39 8 = nI k4 := by rw [en_39, pk_un (by omega)]; exact e35
                have e41 : n_39 0 = nI k19 := by rw [en_39, pk_un (by omega)]; exact e36
                have e42 : n_39 2 = nI (k23 + 1) := by rw [en_39, pk_un (by omega)]; exact e37
                have e43 : n_39 (14 * k23 + 112) = nI 0 := by rw [en_39, pk_us]
                refine pm_iincX (v := nI 3) (loc' := [some (.ref (B + 54)), some (.int za), some (.int zb), some (.int zc), some (.int zd), some (.int (nI 1)), some (.int (nI k23)), some (.int (nI 3))]) hG dX12_person_137 rfl (nI_1 _) (by decide) (pm_c1b rfl) rfl ?_
                refine pm_goto (tgt := 121) hG dX12_person_140 rfl ?_
                refine pm_iloadi hG dX12_person_121 rfl ?_
                refine pm_bipush (v := nI 14) hG dX12_person_123 (by decide) ?_
                refine pm_icmpN_ge (tgt := 143) hG dX12_person_125 rfl (by omega) (by omega) (fun q => absurd q (by omega)) (fun _ => ?_)
                refine pm_aloadn hG dX12_person_128 rfl ?_
                refine pm_iloadi hG dX12_person_129 rfl ?_
                refine pm_iloadi hG dX12_person_131 rfl ?_
                refine pm_iconst (v := nI 0) hG dX12_person_133 (by decide) ?_
                refine pm_callV (As := [.int (nI k23), .int (nI 3), .int (nI 0)]) (rest := []) hG hR dX12_person_134 (lkX12_97 _ rfl) okV_X12_sets rfl rfl (m_sets (d := 2) (e := 14 * k23 + 113) (by omega) (by omega) (by omega)) rfl rfl hdd (Nat.le_refl _) (Nat.le_refl _) (by decide) (pm_kv (fun σ' cnt' hq => ?_))
                obtain ⟨rfl, rfl⟩ := hq
                obtain ⟨n_44, en_44⟩ : ∃ f : Nat → Int32, f = upd n_39 (14 * k23 + 113) (nI 0) := ⟨_, rfl⟩
                rw [← en_44]
                have hnn_44 := KI.w en_44 hnn_39 (okv_o (show kd (14 * k23 + 113) = (2, 20, false) from (kd_P (k := k23) (c := 3) (by omega) (by omega) (by decide))) (by omega))
                have hrn_44 := NRx.w en_44 hrn_39 (by rw [(show kd (14 * k23 + 113) = (2, 20, false) from (kd_P (k := k23) (c := 3) (by omega) (by omega) (by decide)))])
                have ksn_44 := KS.w en_44 ksn_39 (by unfold tS; omega)
                have e45 : n_44 8 = nI k4 := by rw [en_44, pk_un (by omega)]; exact e40
                have e46 : n_44 0 = nI k19 := by rw [en_44, pk_un (by omega)]; exact e41
                have e47 : n_44 2 = nI (k23 + 1) := by rw [en_44, pk_un (by omega)]; exact e42
                have e48 : n_44 (14 * k23 + 113) = nI 0 := by rw [en_44, pk_us]
                refine pm_iincX (v := nI 4) (loc' := [some (.ref (B + 54)), some (.int za), some (.int zb), some (.int zc), some (.int zd), some (.int (nI 1)), some (.int (nI k23)), some (.int (nI 4))]) hG dX12_person_137 rfl (nI_1 _) (by decide) (pm_c1b rfl) rfl ?_
                refine pm_goto (tgt := 121) hG dX12_person_140 rfl ?_
                refine pm_iloadi hG dX12_person_121 rfl ?_
                refine pm_bipush (v := nI 14) hG dX12_person_123 (by decide) ?_
                refine pm_icmpN_ge (tgt := 143) hG dX12_person_125 rfl (by omega) (by omega) (fun q => absurd q (by omega)) (fun _ => ?_)
                refine pm_aloadn hG dX12_person_128 rfl ?_
                refine pm_iloadi hG dX12_person_129 rfl ?_
                refine pm_iloadi hG dX12_person_131 rfl ?_
                refine pm_iconst (v := nI 0) hG dX12_person_133 (by decide) ?_
                refine pm_callV (As := [.int (nI k23), .int (nI 4), .int (nI 0)]) (rest := []) hG hR dX12_person_134 (lkX12_97 _ rfl) okV_X12_sets rfl rfl (m_sets (d := 2) (e := 14 * k23 + 114) (by omega) (by omega) (by omega)) rfl rfl hdd (Nat.le_refl _) (Nat.le_refl _) (by decide) (pm_kv (fun σ' cnt' hq => ?_))
                obtain ⟨rfl, rfl⟩ := hq
                obtain ⟨n_49, en_49⟩ : ∃ f : Nat → Int32, f = upd n_44 (14 * k23 + 114) (nI 0) := ⟨_, rfl⟩
                rw [← en_49]
                have hnn_49 := KI.w en_49 hnn_44 (okv_o (show kd (14 * k23 + 114) = (2, 10, false) from (kd_P (k := k23) (c := 4) (by omega) (by omega) (by decide))) (by omega))
                have hrn_49 := NRx.w en_49 hrn_44 (by rw [(show kd (14 * k23 + 114) = (2, 10, false) from (kd_P (k := k23) (c := 4) (by omega) (by omega) (by decide)))])
                have ksn_49 := KS.w en_49 ksn_44 (by unfold tS; omega)
                have e50 : n_49 8 = nI k4 := by rw [en_49, pk_un (by omega)]; exact e45
                have e51 : n_49 0 = nI k19 := by rw [en_49, pk_un (by omega)]; exact e46
                have e52 : n_49 2 = nI (k23 + 1) := by rw [en_49, pk_un (by omega)]; exact e47
                have e53 : n_49 (14 * k23 + 114) = nI 0 := by rw [en_49, pk_us]
                refine pm_iincX (v := nI 5) (loc' := [some (.ref (B + 54)), some (.int za), some (.int zb), some (.int zc), some (.int zd), some (.int (nI 1)), some (.int (nI k23)), some (.int (nI 5))]) hG dX12_person_137 rfl (nI_1 _) (by decide) (pm_c1b rfl) rfl ?_
                refine pm_goto (tgt := 121) hG dX12_person_140 rfl ?_
                refine pm_iloadi hG dX12_person_121 rfl ?_
                refine pm_bipush (v := nI 14) hG dX12_person_123 (by decide) ?_
                refine pm_icmpN_ge (tgt := 143) hG dX12_person_125 rfl (by omega) (by omega) (fun q => absurd q (by omega)) (fun _ => ?_)
                refine pm_aloadn hG dX12_person_128 rfl ?_
                refine pm_iloadi hG dX12_person_129 rfl ?_
                refine pm_iloadi hG dX12_person_131 rfl ?_
                refine pm_iconst (v := nI 0) hG dX12_person_133 (by decide) ?_
                refine pm_callV (As := [.int (nI k23), .int (nI 5), .int (nI 0)]) (rest := []) hG hR dX12_person_134 (lkX12_97 _ rfl) okV_X12_sets rfl rfl (m_sets (d := 2) (e := 14 * k23 + 115) (by omega) (by omega) (by omega)) rfl rfl hdd (Nat.le_refl _) (Nat.le_refl _) (by decide) (pm_kv (fun σ' cnt' hq => ?_))
                obtain ⟨rfl, rfl⟩ := hq
                obtain ⟨n_54, en_54⟩ : ∃ f : Nat → Int32, f = upd n_49 (14 * k23 + 115) (nI 0) := ⟨_, rfl⟩
                rw [← en_54]
                have hnn_54 := KI.w en_54 hnn_49 (okv_n (show kd (14 * k23 + 115) = (1, 10, false) from (kd_P (k := k23) (c := 5) (by omega) (by omega) (by decide))) (by omega))
                have hrn_54 := NRx.w en_54 hrn_49 (by rw [(show kd (14 * k23 + 115) = (1, 10, false) from (kd_P (k := k23) (c := 5) (by omega) (by omega) (by decide)))])
                have ksn_54 := KS.w en_54 ksn_49 (by unfold tS; omega)
                have e55 : n_54 8 = nI k4 := by rw [en_54, pk_un (by omega)]; exact e50
                have e56 : n_54 0 = nI k19 := by rw [en_54, pk_un (by omega)]; exact e51
                have e57 : n_54 2 = nI (k23 + 1) := by rw [en_54, pk_un (by omega)]; exact e52
                have e58 : n_54 (14 * k23 + 115) = nI 0 := by rw [en_54, pk_us]
                refine pm_iincX (v := nI 6) (loc' := [some (.ref (B + 54)), some (.int za), some (.int zb), some (.int zc), some (.int zd), some (.int (nI 1)), some (.int (nI k23)), some (.int (nI 6))]) hG dX12_person_137 rfl (nI_1 _) (by decide) (pm_c1b rfl) rfl ?_
                refine pm_goto (tgt := 121) hG dX12_person_140 rfl ?_
                refine pm_iloadi hG dX12_person_121 rfl ?_
                refine pm_bipush (v := nI 14) hG dX12_person_123 (by decide) ?_
                refine pm_icmpN_ge (tgt := 143) hG dX12_person_125 rfl (by omega) (by omega) (fun q => absurd q (by omega)) (fun _ => ?_)
                refine pm_aloadn hG dX12_person_128 rfl ?_
                refine pm_iloadi hG dX12_person_129 rfl ?_
                refine pm_iloadi hG dX12_person_131 rfl ?_
                refine pm_iconst (v := nI 0) hG dX12_person_133 (by decide) ?_
                refine pm_callV (As := [.int (nI k23), .int (nI 6), .int (nI 0)]) (rest := []) hG hR dX12_person_134 (lkX12_97 _ rfl) okV_X12_sets rfl rfl (m_sets (d := 2) (e := 14 * k23 + 116) (by omega) (by omega) (by omega)) rfl rfl hdd (Nat.le_refl _) (Nat.le_refl _) (by decide) (pm_kv (fun σ' cnt' hq => ?_))
                obtain ⟨rfl, rfl⟩ := hq
                obtain ⟨n_59, en_59⟩ : ∃ f : Nat → Int32, f = upd n_54 (14 * k23 + 116) (nI 0) := ⟨_, rfl⟩
                rw [← en_59]
                have hnn_59 := KI.w en_59 hnn_54 (okv_f (show kd (14 * k23 + 116) = (0, 0, false) from (kd_P (k := k23) (c := 6) (by omega) (by omega) (by decide))))
                have hrn_59 := NRx.w en_59 hrn_54 (by rw [(show kd (14 * k23 + 116) = (0, 0, false) from (kd_P (k := k23) (c := 6) (by omega) (by omega) (by decide)))])
                have ksn_59 := KS.w en_59 ksn_54 (by unfold tS; omega)
                have e60 : n_59 8 = nI k4 := by rw [en_59, pk_un (by omega)]; exact e55
                have e61 : n_59 0 = nI k19 := by rw [en_59, pk_un (by omega)]; exact e56
                have e62 : n_59 2 = nI (k23 + 1) := by rw [en_59, pk_un (by omega)]; exact e57
                have e63 : n_59 (14 * k23 + 116) = nI 0 := by rw [en_59, pk_us]
                refine pm_iincX (v := nI 7) (loc' := [some (.ref (B + 54)), some (.int za), some (.int zb), some (.int zc), some (.int zd), some (.int (nI 1)), some (.int (nI k23)), some (.int (nI 7))]) hG dX12_person_137 rfl (nI_1 _) (by decide) (pm_c1b rfl) rfl ?_
                refine pm_goto (tgt := 121) hG dX12_person_140 rfl ?_
                refine pm_iloadi hG dX12_person_121 rfl ?_
                refine pm_bipush (v := nI 14) hG dX12_person_123 (by decide) ?_
                refine pm_icmpN_ge (tgt := 143) hG dX12_person_125 rfl (by omega) (by omega) (fun q => absurd q (by omega)) (fun _ => ?_)
                refine pm_aloadn hG dX12_person_128 rfl ?_
                refine pm_iloadi hG dX12_person_129 rfl ?_
                refine pm_iloadi hG dX12_person_131 rfl ?_
                refine pm_iconst (v := nI 0) hG dX12_person_133 (by decide) ?_
                refine pm_callV (As := [.int (nI k23), .int (nI 7), .int (nI 0)]) (rest := []) hG hR dX12_person_134 (lkX12_97 _ rfl) okV_X12_sets rfl rfl (m_sets (d := 2) (e := 14 * k23 + 117) (by omega) (by omega) (by omega)) rfl rfl hdd (Nat.le_refl _) (Nat.le_refl _) (by decide) (pm_kv (fun σ' cnt' hq => ?_))
                obtain ⟨rfl, rfl⟩ := hq
                obtain ⟨n_64, en_64⟩ : ∃ f : Nat → Int32, f = upd n_59 (14 * k23 + 117) (nI 0) := ⟨_, rfl⟩
                rw [← en_64]
                have hnn_64 := KI.w en_64 hnn_59 (okv_f (show kd (14 * k23 + 117) = (0, 0, false) from (kd_P (k := k23) (c := 7) (by omega) (by omega) (by decide))))
                have hrn_64 := NRx.w en_64 hrn_59 (by rw [(show kd (14 * k23 + 117) = (0, 0, false) from (kd_P (k := k23) (c := 7) (by omega) (by omega) (by decide)))])
                have ksn_64 := KS.w en_64 ksn_59 (by unfold tS; omega)
                have e65 : n_64 8 = nI k4 := by rw [en_64, pk_un (by omega)]; exact e60
                have e66 : n_64 0 = nI k19 := by rw [en_64, pk_un (by omega)]; exact e61
                have e67 : n_64 2 = nI (k23 + 1) := by rw [en_64, pk_un (by omega)]; exact e62
                have e68 : n_64 (14 * k23 + 117) = nI 0 := by rw [en_64, pk_us]
                refine pm_iincX (v := nI 8) (loc' := [some (.ref (B + 54)), some (.int za), some (.int zb), some (.int zc), some (.int zd), some (.int (nI 1)), some (.int (nI k23)), some (.int (nI 8))]) hG dX12_person_137 rfl (nI_1 _) (by decide) (pm_c1b rfl) rfl ?_
                refine pm_goto (tgt := 121) hG dX12_person_140 rfl ?_
                refine pm_iloadi hG dX12_person_121 rfl ?_
                refine pm_bipush (v := nI 14) hG dX12_person_123 (by decide) ?_
                refine pm_icmpN_ge (tgt := 143) hG dX12_person_125 rfl (by omega) (by omega) (fun q => absurd q (by omega)) (fun _ => ?_)
                refine pm_aloadn hG dX12_person_128 rfl ?_
                refine pm_iloadi hG dX12_person_129 rfl ?_
                refine pm_iloadi hG dX12_person_131 rfl ?_
                refine pm_iconst (v := nI 0) hG dX12_person_133 (by decide) ?_
                refine pm_callV (As := [.int (nI k23), .int (nI 8), .int (nI 0)]) (rest := []) hG hR dX12_person_134 (lkX12_97 _ rfl) okV_X12_sets rfl rfl (m_sets (d := 2) (e := 14 * k23 + 118) (by omega) (by omega) (by omega)) rfl rfl hdd (Nat.le_refl _) (Nat.le_refl _) (by decide) (pm_kv (fun σ' cnt' hq => ?_))
                obtain ⟨rfl, rfl⟩ := hq
                obtain ⟨n_69, en_69⟩ : ∃ f : Nat → Int32, f = upd n_64 (14 * k23 + 118) (nI 0) := ⟨_, rfl⟩
                rw [← en_69]
                have hnn_69 := KI.w en_69 hnn_64 (okv_f (show kd (14 * k23 + 118) = (0, 0, false) from (kd_P (k := k23) (c := 8) (by omega) (by omega) (by decide))))
                have hrn_69 := NRx.w en_69 hrn_64 (by rw [(show kd (14 * k23 + 118) = (0, 0, false) from (kd_P (k := k23) (c := 8) (by omega) (by omega) (by decide)))])
                have ksn_69 := KS.w en_69 ksn_64 (by unfold tS; omega)
                have e70 : n_69 8 = nI k4 := by rw [en_69, pk_un (by omega)]; exact e65
                have e71 : n_69 0 = nI k19 := by rw [en_69, pk_un (by omega)]; exact e66
                have e72 : n_69 2 = nI (k23 + 1) := by rw [en_69, pk_un (by omega)]; exact e67
                have e73 : n_69 (14 * k23 + 118) = nI 0 := by rw [en_69, pk_us]
                refine pm_iincX (v := nI 9) (loc' := [some (.ref (B + 54)), some (.int za), some (.int zb), some (.int zc), some (.int zd), some (.int (nI 1)), some (.int (nI k23)), some (.int (nI 9))]) hG dX12_person_137 rfl (nI_1 _) (by decide) (pm_c1b rfl) rfl ?_
                refine pm_goto (tgt := 121) hG dX12_person_140 rfl ?_
                refine pm_iloadi hG dX12_person_121 rfl ?_
                refine pm_bipush (v := nI 14) hG dX12_person_123 (by decide) ?_
                refine pm_icmpN_ge (tgt := 143) hG dX12_person_125 rfl (by omega) (by omega) (fun q => absurd q (by omega)) (fun _ => ?_)
                refine pm_aloadn hG dX12_person_128 rfl ?_
                refine pm_iloadi hG dX12_person_129 rfl ?_
                refine pm_iloadi hG dX12_person_131 rfl ?_
                refine pm_iconst (v := nI 0) hG dX12_person_133 (by decide) ?_
                refine pm_callV (As := [.int (nI k23), .int (nI 9), .int (nI 0)]) (rest := []) hG hR dX12_person_134 (lkX12_97 _ rfl) okV_X12_sets rfl rfl (m_sets (d := 2) (e := 14 * k23 + 119) (by omega) (by omega) (by omega)) rfl rfl hdd (Nat.le_refl _) (Nat.le_refl _) (by decide) (pm_kv (fun σ' cnt' hq => ?_))
                obtain ⟨rfl, rfl⟩ := hq
                obtain ⟨n_74, en_74⟩ : ∃ f : Nat → Int32, f = upd n_69 (14 * k23 + 119) (nI 0) := ⟨_, rfl⟩
                rw [← en_74]
                have hnn_74 := KI.w en_74 hnn_69 (okv_o (show kd (14 * k23 + 119) = (2, 2001, false) from (kd_P (k := k23) (c := 9) (by omega) (by omega) (by decide))) (by omega))
                have hrn_74 := NRx.w en_74 hrn_69 (by rw [(show kd (14 * k23 + 119) = (2, 2001, false) from (kd_P (k := k23) (c := 9) (by omega) (by omega) (by decide)))])
                have ksn_74 := KS.w en_74 ksn_69 (by unfold tS; omega)
                have e75 : n_74 8 = nI k4 := by rw [en_74, pk_un (by omega)]; exact e70
                have e76 : n_74 0 = nI k19 := by rw [en_74, pk_un (by omega)]; exact e71
                have e77 : n_74 2 = nI (k23 + 1) := by rw [en_74, pk_un (by omega)]; exact e72
                have e78 : n_74 (14 * k23 + 119) = nI 0 := by rw [en_74, pk_us]
                refine pm_iincX (v := nI 10) (loc' := [some (.ref (B + 54)), some (.int za), some (.int zb), some (.int zc), some (.int zd), some (.int (nI 1)), some (.int (nI k23)), some (.int (nI 10))]) hG dX12_person_137 rfl (nI_1 _) (by decide) (pm_c1b rfl) rfl ?_
                refine pm_goto (tgt := 121) hG dX12_person_140 rfl ?_
                refine pm_iloadi hG dX12_person_121 rfl ?_
                refine pm_bipush (v := nI 14) hG dX12_person_123 (by decide) ?_
                refine pm_icmpN_ge (tgt := 143) hG dX12_person_125 rfl (by omega) (by omega) (fun q => absurd q (by omega)) (fun _ => ?_)
                refine pm_aloadn hG dX12_person_128 rfl ?_
                refine pm_iloadi hG dX12_person_129 rfl ?_
                refine pm_iloadi hG dX12_person_131 rfl ?_
                refine pm_iconst (v := nI 0) hG dX12_person_133 (by decide) ?_
                refine pm_callV (As := [.int (nI k23), .int (nI 10), .int (nI 0)]) (rest := []) hG hR dX12_person_134 (lkX12_97 _ rfl) okV_X12_sets rfl rfl (m_sets (d := 2) (e := 14 * k23 + 120) (by omega) (by omega) (by omega)) rfl rfl hdd (Nat.le_refl _) (Nat.le_refl _) (by decide) (pm_kv (fun σ' cnt' hq => ?_))
                obtain ⟨rfl, rfl⟩ := hq
                obtain ⟨n_79, en_79⟩ : ∃ f : Nat → Int32, f = upd n_74 (14 * k23 + 120) (nI 0) := ⟨_, rfl⟩
                rw [← en_79]
                have hnn_79 := KI.w en_79 hnn_74 (okv_f (show kd (14 * k23 + 120) = (0, 0, false) from (kd_P (k := k23) (c := 10) (by omega) (by omega) (by decide))))
                have hrn_79 := NRx.w en_79 hrn_74 (by rw [(show kd (14 * k23 + 120) = (0, 0, false) from (kd_P (k := k23) (c := 10) (by omega) (by omega) (by decide)))])
                have ksn_79 := KS.w en_79 ksn_74 (by unfold tS; omega)
                have e80 : n_79 8 = nI k4 := by rw [en_79, pk_un (by omega)]; exact e75
                have e81 : n_79 0 = nI k19 := by rw [en_79, pk_un (by omega)]; exact e76
                have e82 : n_79 2 = nI (k23 + 1) := by rw [en_79, pk_un (by omega)]; exact e77
                have e83 : n_79 (14 * k23 + 120) = nI 0 := by rw [en_79, pk_us]
                refine pm_iincX (v := nI 11) (loc' := [some (.ref (B + 54)), some (.int za), some (.int zb), some (.int zc), some (.int zd), some (.int (nI 1)), some (.int (nI k23)), some (.int (nI 11))]) hG dX12_person_137 rfl (nI_1 _) (by decide) (pm_c1b rfl) rfl ?_
                refine pm_goto (tgt := 121) hG dX12_person_140 rfl ?_
                refine pm_iloadi hG dX12_person_121 rfl ?_
                refine pm_bipush (v := nI 14) hG dX12_person_123 (by decide) ?_
                refine pm_icmpN_ge (tgt := 143) hG dX12_person_125 rfl (by omega) (by omega) (fun q => absurd q (by omega)) (fun _ => ?_)
                refine pm_aloadn hG dX12_person_128 rfl ?_
                refine pm_iloadi hG dX12_person_129 rfl ?_
                refine pm_iloadi hG dX12_person_131 rfl ?_
                refine pm_iconst (v := nI 0) hG dX12_person_133 (by decide) ?_
                refine pm_callV (As := [.int (nI k23), .int (nI 11), .int (nI 0)]) (rest := []) hG hR dX12_person_134 (lkX12_97 _ rfl) okV_X12_sets rfl rfl (m_sets (d := 2) (e := 14 * k23 + 121) (by omega) (by omega) (by omega)) rfl rfl hdd (Nat.le_refl _) (Nat.le_refl _) (by decide) (pm_kv (fun σ' cnt' hq => ?_))
                obtain ⟨rfl, rfl⟩ := hq
                obtain ⟨n_84, en_84⟩ : ∃ f : Nat → Int32, f = upd n_79 (14 * k23 + 121) (nI 0) := ⟨_, rfl⟩
                rw [← en_84]
                have hnn_84 := KI.w en_84 hnn_79 (okv_n (show kd (14 * k23 + 121) = (1, 2, true) from (kd_P (k := k23) (c := 11) (by omega) (by omega) (by decide))) (by omega))
                have hrn_84 := NRx.unseat (p := k23) en_84 hrn_79 (by omega)
                have ksn_84 := KS.w en_84 ksn_79 (by unfold tS; omega)
                have e85 : n_84 8 = nI k4 := by rw [en_84, pk_un (by omega)]; exact e80
                have e86 : n_84 0 = nI k19 := by rw [en_84, pk_un (by omega)]; exact e81
                have e87 : n_84 2 = nI (k23 + 1) := by rw [en_84, pk_un (by omega)]; exact e82
                have e88 : n_84 (14 * k23 + 121) = nI 0 := by rw [en_84, pk_us]
                refine pm_iincX (v := nI 12) (loc' := [some (.ref (B + 54)), some (.int za), some (.int zb), some (.int zc), some (.int zd), some (.int (nI 1)), some (.int (nI k23)), some (.int (nI 12))]) hG dX12_person_137 rfl (nI_1 _) (by decide) (pm_c1b rfl) rfl ?_
                refine pm_goto (tgt := 121) hG dX12_person_140 rfl ?_
                refine pm_iloadi hG dX12_person_121 rfl ?_
                refine pm_bipush (v := nI 14) hG dX12_person_123 (by decide) ?_
                refine pm_icmpN_ge (tgt := 143) hG dX12_person_125 rfl (by omega) (by omega) (fun q => absurd q (by omega)) (fun _ => ?_)
                refine pm_aloadn hG dX12_person_128 rfl ?_
                refine pm_iloadi hG dX12_person_129 rfl ?_
                refine pm_iloadi hG dX12_person_131 rfl ?_
                refine pm_iconst (v := nI 0) hG dX12_person_133 (by decide) ?_
                refine pm_callV (As := [.int (nI k23), .int (nI 12), .int (nI 0)]) (rest := []) hG hR dX12_person_134 (lkX12_97 _ rfl) okV_X12_sets rfl rfl (m_sets (d := 2) (e := 14 * k23 + 122) (by omega) (by omega) (by omega)) rfl rfl hdd (Nat.le_refl _) (Nat.le_refl _) (by decide) (pm_kv (fun σ' cnt' hq => ?_))
                obtain ⟨rfl, rfl⟩ := hq
                obtain ⟨n_89, en_89⟩ : ∃ f : Nat → Int32, f = upd n_84 (14 * k23 + 122) (nI 0) := ⟨_, rfl⟩
                rw [← en_89]
                have hnn_89 := KI.w en_89 hnn_84 (okv_f (show kd (14 * k23 + 122) = (0, 0, false) from (kd_P (k := k23) (c := 12) (by omega) (by omega) (by decide))))
                have hrn_89 := NRx.w en_89 hrn_84 (by rw [(show kd (14 * k23 + 122) = (0, 0, false) from (kd_P (k := k23) (c := 12) (by omega) (by omega) (by decide)))])
                have ksn_89 := KS.w en_89 ksn_84 (by unfold tS; omega)
                have e90 : n_89 8 = nI k4 := by rw [en_89, pk_un (by omega)]; exact e85
                have e91 : n_89 0 = nI k19 := by rw [en_89, pk_un (by omega)]; exact e86
                have e92 : n_89 2 = nI (k23 + 1) := by rw [en_89, pk_un (by omega)]; exact e87
                have e93 : n_89 (14 * k23 + 122) = nI 0 := by rw [en_89, pk_us]
                refine pm_iincX (v := nI 13) (loc' := [some (.ref (B + 54)), some (.int za), some (.int zb), some (.int zc), some (.int zd), some (.int (nI 1)), some (.int (nI k23)), some (.int (nI 13))]) hG dX12_person_137 rfl (nI_1 _) (by decide) (pm_c1b rfl) rfl ?_
                refine pm_goto (tgt := 121) hG dX12_person_140 rfl ?_
                refine pm_iloadi hG dX12_person_121 rfl ?_
                refine pm_bipush (v := nI 14) hG dX12_person_123 (by decide) ?_
                refine pm_icmpN_ge (tgt := 143) hG dX12_person_125 rfl (by omega) (by omega) (fun q => absurd q (by omega)) (fun _ => ?_)
                refine pm_aloadn hG dX12_person_128 rfl ?_
                refine pm_iloadi hG dX12_person_129 rfl ?_
                refine pm_iloadi hG dX12_person_131 rfl ?_
                refine pm_iconst (v := nI 0) hG dX12_person_133 (by decide) ?_
                refine pm_callV (As := [.int (nI k23), .int (nI 13), .int (nI 0)]) (rest := []) hG hR dX12_person_134 (lkX12_97 _ rfl) okV_X12_sets rfl rfl (m_sets (d := 2) (e := 14 * k23 + 123) (by omega) (by omega) (by omega)) rfl rfl hdd (Nat.le_refl _) (Nat.le_refl _) (by decide) (pm_kv (fun σ' cnt' hq => ?_))
                obtain ⟨rfl, rfl⟩ := hq
                obtain ⟨n_94, en_94⟩ : ∃ f : Nat → Int32, f = upd n_89 (14 * k23 + 123) (nI 0) := ⟨_, rfl⟩
                rw [← en_94]
                have hnn_94 := KI.w en_94 hnn_89 (okv_f (show kd (14 * k23 + 123) = (0, 0, false) from (kd_P (k := k23) (c := 13) (by omega) (by omega) (by decide))))
                have hrn_94 := NRx.w en_94 hrn_89 (by rw [(show kd (14 * k23 + 123) = (0, 0, false) from (kd_P (k := k23) (c := 13) (by omega) (by omega) (by decide)))])
                have ksn_94 := KS.w en_94 ksn_89 (by unfold tS; omega)
                have e95 : n_94 8 = nI k4 := by rw [en_94, pk_un (by omega)]; exact e90
                have e96 : n_94 0 = nI k19 := by rw [en_94, pk_un (by omega)]; exact e91
                have e97 : n_94 2 = nI (k23 + 1) := by rw [en_94, pk_un (by omega)]; exact e92
                have e98 : n_94 (14 * k23 + 123) = nI 0 := by rw [en_94, pk_us]
                refine pm_iincX (v := nI 14) (loc' := [some (.ref (B + 54)), some (.int za), some (.int zb), some (.int zc), some (.int zd), some (.int (nI 1)), some (.int (nI k23)), some (.int (nI 14))]) hG dX12_person_137 rfl (nI_1 _) (by decide) (pm_c1b rfl) rfl ?_
                refine pm_goto (tgt := 121) hG dX12_person_140 rfl ?_
                refine pm_iloadi hG dX12_person_121 rfl ?_
                refine pm_bipush (v := nI 14) hG dX12_person_123 (by decide) ?_
                refine pm_icmpN_ge (tgt := 143) hG dX12_person_125 rfl (by omega) (by omega) (fun _ => ?_) (fun q => absurd q (by omega))
                refine pm_aloadn hG dX12_person_143 rfl ?_
                refine pm_iloadi hG dX12_person_144 rfl ?_
                refine pm_iconst (v := nI 0) hG dX12_person_146 (by decide) ?_
                refine pm_iloadn hG dX12_person_147 rfl ?_
                refine pm_top (v := nI k3) ek3 ?_
                refine pm_callV (As := [.int (nI k23), .int (nI 0), .int (nI k3)]) (rest := []) hG hR dX12_person_148 (lkX12_97 _ rfl) okV_X12_sets rfl rfl (m_sets (d := 2) (e := 14 * k23 + 110) (by omega) (by omega) (by omega)) rfl rfl hdd (Nat.le_refl _) (Nat.le_refl _) (by decide) (pm_kv (fun σ' cnt' hq => ?_))
                obtain ⟨rfl, rfl⟩ := hq
                obtain ⟨n_99, en_99⟩ : ∃ f : Nat → Int32, f = upd n_94 (14 * k23 + 110) (nI k3) := ⟨_, rfl⟩
                rw [← en_99]
                have hnn_99 := KI.w en_99 hnn_94 (okv_f (show kd (14 * k23 + 110) = (0, 0, false) from (kd_P (k := k23) (c := 0) (by omega) (by omega) (by decide))))
                have hrn_99 := NRx.w en_99 hrn_94 (by rw [(show kd (14 * k23 + 110) = (0, 0, false) from (kd_P (k := k23) (c := 0) (by omega) (by omega) (by decide)))])
                have ksn_99 := KS.w en_99 ksn_94 (by unfold tS; omega)
                have e100 : n_99 8 = nI k4 := by rw [en_99, pk_un (by omega)]; exact e95
                have e101 : n_99 0 = nI k19 := by rw [en_99, pk_un (by omega)]; exact e96
                have e102 : n_99 2 = nI (k23 + 1) := by rw [en_99, pk_un (by omega)]; exact e97
                have e103 : n_99 (14 * k23 + 110) = nI k3 := by rw [en_99, pk_us]
                refine pm_aloadn hG dX12_person_151 rfl ?_
                refine pm_iloadi hG dX12_person_152 rfl ?_
                refine pm_iconst (v := nI 1) hG dX12_person_154 (by decide) ?_
                refine pm_iloadn hG dX12_person_155 rfl ?_
                refine pm_callV (As := [.int (nI k23), .int (nI 1), .int zb]) (rest := []) hG hR dX12_person_156 (lkX12_97 _ rfl) okV_X12_sets rfl rfl (m_sets (d := 2) (e := 14 * k23 + 111) (by omega) (by omega) (by omega)) rfl rfl hdd (Nat.le_refl _) (Nat.le_refl _) (by decide) (pm_kv (fun σ' cnt' hq => ?_))
                obtain ⟨rfl, rfl⟩ := hq
                obtain ⟨n_104, en_104⟩ : ∃ f : Nat → Int32, f = upd n_99 (14 * k23 + 111) zb := ⟨_, rfl⟩
                rw [← en_104]
                have hnn_104 := KI.w en_104 hnn_99 (okv_f (show kd (14 * k23 + 111) = (0, 0, false) from (kd_P (k := k23) (c := 1) (by omega) (by omega) (by decide))))
                have hrn_104 := NRx.w en_104 hrn_99 (by rw [(show kd (14 * k23 + 111) = (0, 0, false) from (kd_P (k := k23) (c := 1) (by omega) (by omega) (by decide)))])
                have ksn_104 := KS.w en_104 ksn_99 (by unfold tS; omega)
                have e105 : n_104 8 = nI k4 := by rw [en_104, pk_un (by omega)]; exact e100
                have e106 : n_104 0 = nI k19 := by rw [en_104, pk_un (by omega)]; exact e101
                have e107 : n_104 2 = nI (k23 + 1) := by rw [en_104, pk_un (by omega)]; exact e102
                have e108 : n_104 (14 * k23 + 111) = zb := by rw [en_104, pk_us]
                refine pm_aloadn hG dX12_person_159 rfl ?_
                refine pm_iloadi hG dX12_person_160 rfl ?_
                refine pm_iconst (v := nI 2) hG dX12_person_162 (by decide) ?_
                refine pm_iloadn hG dX12_person_163 rfl ?_
                refine pm_top (v := nI k10) ek10 ?_
                refine pm_bipush (v := nI 100) hG dX12_person_164 (by decide) ?_
                refine pm_idivN hG dX12_person_166 (by omega) (by decide) (by decide) ?_
                refine pm_iconst (v := nI 1) hG dX12_person_167 (by decide) ?_
                refine pm_isub hG dX12_person_168 ?_
                refine pm_top (v := (-1)) ek12 ?_
                refine pm_callV (As := [.int (nI k23), .int (nI 2), .int (-1)]) (rest := []) hG hR dX12_person_169 (lkX12_97 _ rfl) okV_X12_sets rfl rfl (m_sets (d := 2) (e := 14 * k23 + 112) (by omega) (by omega) (by omega)) rfl rfl hdd (Nat.le_refl _) (Nat.le_refl _) (by decide) (pm_kv (fun σ' cnt' hq => ?_))
                obtain ⟨rfl, rfl⟩ := hq
                obtain ⟨n_109, en_109⟩ : ∃ f : Nat → Int32, f = upd n_104 (14 * k23 + 112) (-1) := ⟨_, rfl⟩
                rw [← en_109]
                have hnn_109 := KI.w en_109 hnn_104 (okv_m (show kd (14 * k23 + 112) = (2, 20, false) from (kd_P (k := k23) (c := 2) (by omega) (by omega) (by decide))))
                have hrn_109 := NRx.w en_109 hrn_104 (by rw [(show kd (14 * k23 + 112) = (2, 20, false) from (kd_P (k := k23) (c := 2) (by omega) (by omega) (by decide)))])
                have ksn_109 := KS.w en_109 ksn_104 (by unfold tS; omega)
                have e110 : n_109 8 = nI k4 := by rw [en_109, pk_un (by omega)]; exact e105
                have e111 : n_109 0 = nI k19 := by rw [en_109, pk_un (by omega)]; exact e106
                have e112 : n_109 2 = nI (k23 + 1) := by rw [en_109, pk_un (by omega)]; exact e107
                have e113 : n_109 (14 * k23 + 112) = (-1) := by rw [en_109, pk_us]
                refine pm_aloadn hG dX12_person_172 rfl ?_
                refine pm_iloadi hG dX12_person_173 rfl ?_
                refine pm_iconst (v := nI 3) hG dX12_person_175 (by decide) ?_
                refine pm_iloadn hG dX12_person_176 rfl ?_
                refine pm_top (v := nI k10) ek10 ?_
                refine pm_bipush (v := nI 100) hG dX12_person_177 (by decide) ?_
                refine pm_iremM hG dX12_person_179 (by omega) (by decide) (by decide) ?_
                refine pm_iconst (v := nI 1) hG dX12_person_180 (by decide) ?_
                refine pm_isub hG dX12_person_181 ?_
                refine pm_top (v := (-1)) ek16 ?_
                refine pm_callV (As := [.int (nI k23), .int (nI 3), .int (-1)]) (rest := []) hG hR dX12_person_182 (lkX12_97 _ rfl) okV_X12_sets rfl rfl (m_sets (d := 2) (e := 14 * k23 + 113) (by omega) (by omega) (by omega)) rfl rfl hdd (Nat.le_refl _) (Nat.le_refl _) (by decide) (pm_kv (fun σ' cnt' hq => ?_))
                obtain ⟨rfl, rfl⟩ := hq
                obtain ⟨n_114, en_114⟩ : ∃ f : Nat → Int32, f = upd n_109 (14 * k23 + 113) (-1) := ⟨_, rfl⟩
                rw [← en_114]
                have hnn_114 := KI.w en_114 hnn_109 (okv_m (show kd (14 * k23 + 113) = (2, 20, false) from (kd_P (k := k23) (c := 3) (by omega) (by omega) (by decide))))
                have hrn_114 := NRx.w en_114 hrn_109 (by rw [(show kd (14 * k23 + 113) = (2, 20, false) from (kd_P (k := k23) (c := 3) (by omega) (by omega) (by decide)))])
                have ksn_114 := KS.w en_114 ksn_109 (by unfold tS; omega)
                have e115 : n_114 8 = nI k4 := by rw [en_114, pk_un (by omega)]; exact e110
                have e116 : n_114 0 = nI k19 := by rw [en_114, pk_un (by omega)]; exact e111
                have e117 : n_114 2 = nI (k23 + 1) := by rw [en_114, pk_un (by omega)]; exact e112
                have e118 : n_114 (14 * k23 + 113) = (-1) := by rw [en_114, pk_us]
                refine pm_aloadn hG dX12_person_185 rfl ?_
                refine pm_iloadi hG dX12_person_186 rfl ?_
                refine pm_iconst (v := nI 4) hG dX12_person_188 (by decide) ?_
                refine pm_iloadi hG dX12_person_189 rfl ?_
                refine pm_top (v := nI k22) ek22 ?_
                refine pm_callV (As := [.int (nI k23), .int (nI 4), .int (nI k22)]) (rest := []) hG hR dX12_person_191 (lkX12_97 _ rfl) okV_X12_sets rfl rfl (m_sets (d := 2) (e := 14 * k23 + 114) (by omega) (by omega) (by omega)) rfl rfl hdd (Nat.le_refl _) (Nat.le_refl _) (by decide) (pm_kv (fun σ' cnt' hq => ?_))
                obtain ⟨rfl, rfl⟩ := hq
                obtain ⟨n_119, en_119⟩ : ∃ f : Nat → Int32, f = upd n_114 (14 * k23 + 114) (nI k22) := ⟨_, rfl⟩
                rw [← en_119]
                have hnn_119 := KI.w en_119 hnn_114 (okv_o (show kd (14 * k23 + 114) = (2, 10, false) from (kd_P (k := k23) (c := 4) (by omega) (by omega) (by decide))) (by omega))
                have hrn_119 := NRx.w en_119 hrn_114 (by rw [(show kd (14 * k23 + 114) = (2, 10, false) from (kd_P (k := k23) (c := 4) (by omega) (by omega) (by decide)))])
                have ksn_119 := KS.w en_119 ksn_114 (by unfold tS; omega)
                have e120 : n_119 8 = nI k4 := by rw [en_119, pk_un (by omega)]; exact e115
                have e121 : n_119 0 = nI k19 := by rw [en_119, pk_un (by omega)]; exact e116
                have e122 : n_119 2 = nI (k23 + 1) := by rw [en_119, pk_un (by omega)]; exact e117
                have e123 : n_119 (14 * k23 + 114) = nI k22 := by rw [en_119, pk_us]
                refine pm_aloadn hG dX12_person_194 rfl ?_
                refine pm_iloadi hG dX12_person_195 rfl ?_
                refine pm_bipush (v := nI 9) hG dX12_person_197 (by decide) ?_
                refine pm_iconst (v := (-1)) hG dX12_person_199 (by decide) ?_
                refine pm_callV (As := [.int (nI k23), .int (nI 9), .int (-1)]) (rest := []) hG hR dX12_person_200 (lkX12_97 _ rfl) okV_X12_sets rfl rfl (m_sets (d := 2) (e := 14 * k23 + 119) (by omega) (by omega) (by omega)) rfl rfl hdd (Nat.le_refl _) (Nat.le_refl _) (by decide) (pm_kv (fun σ' cnt' hq => ?_))
                obtain ⟨rfl, rfl⟩ := hq
                obtain ⟨n_124, en_124⟩ : ∃ f : Nat → Int32, f = upd n_119 (14 * k23 + 119) (-1) := ⟨_, rfl⟩
                rw [← en_124]
                have hnn_124 := KI.w en_124 hnn_119 (okv_m (show kd (14 * k23 + 119) = (2, 2001, false) from (kd_P (k := k23) (c := 9) (by omega) (by omega) (by decide))))
                have hrn_124 := NRx.w en_124 hrn_119 (by rw [(show kd (14 * k23 + 119) = (2, 2001, false) from (kd_P (k := k23) (c := 9) (by omega) (by omega) (by decide)))])
                have ksn_124 := KS.w en_124 ksn_119 (by unfold tS; omega)
                have e125 : n_124 8 = nI k4 := by rw [en_124, pk_un (by omega)]; exact e120
                have e126 : n_124 0 = nI k19 := by rw [en_124, pk_un (by omega)]; exact e121
                have e127 : n_124 2 = nI (k23 + 1) := by rw [en_124, pk_un (by omega)]; exact e122
                have e128 : n_124 (14 * k23 + 119) = (-1) := by rw [en_124, pk_us]
                refine pm_aloadn hG dX12_person_203 rfl ?_
                refine pm_iloadi hG dX12_person_204 rfl ?_
                refine pm_bipush (v := nI 10) hG dX12_person_206 (by decide) ?_
                refine pm_iconst (v := (-1)) hG dX12_person_208 (by decide) ?_
                refine pm_callV (As := [.int (nI k23), .int (nI 10), .int (-1)]) (rest := []) hG hR dX12_person_209 (lkX12_97 _ rfl) okV_X12_sets rfl rfl (m_sets (d := 2) (e := 14 * k23 + 120) (by omega) (by omega) (by omega)) rfl rfl hdd (Nat.le_refl _) (Nat.le_refl _) (by decide) (pm_kv (fun σ' cnt' hq => ?_))
                obtain ⟨rfl, rfl⟩ := hq
                obtain ⟨n_129, en_129⟩ : ∃ f : Nat → Int32, f = upd n_124 (14 * k23 + 120) (-1) := ⟨_, rfl⟩
                rw [← en_129]
                have hnn_129 := KI.w en_129 hnn_124 (okv_f (show kd (14 * k23 + 120) = (0, 0, false) from (kd_P (k := k23) (c := 10) (by omega) (by omega) (by decide))))
                have hrn_129 := NRx.w en_129 hrn_124 (by rw [(show kd (14 * k23 + 120) = (0, 0, false) from (kd_P (k := k23) (c := 10) (by omega) (by omega) (by decide)))])
                have ksn_129 := KS.w en_129 ksn_124 (by unfold tS; omega)
                have e130 : n_129 8 = nI k4 := by rw [en_129, pk_un (by omega)]; exact e125
                have e131 : n_129 0 = nI k19 := by rw [en_129, pk_un (by omega)]; exact e126
                have e132 : n_129 2 = nI (k23 + 1) := by rw [en_129, pk_un (by omega)]; exact e127
                have e133 : n_129 (14 * k23 + 120) = (-1) := by rw [en_129, pk_us]
                refine pm_aloadn hG dX12_person_212 rfl ?_
                refine pm_iloadi hG dX12_person_213 rfl ?_
                refine pm_bipush (v := nI 12) hG dX12_person_215 (by decide) ?_
                refine pm_iconst (v := nI 1) hG dX12_person_217 (by decide) ?_
                refine pm_callV (As := [.int (nI k23), .int (nI 12), .int (nI 1)]) (rest := []) hG hR dX12_person_218 (lkX12_97 _ rfl) okV_X12_sets rfl rfl (m_sets (d := 2) (e := 14 * k23 + 122) (by omega) (by omega) (by omega)) rfl rfl hdd (Nat.le_refl _) (Nat.le_refl _) (by decide) (pm_kv (fun σ' cnt' hq => ?_))
                obtain ⟨rfl, rfl⟩ := hq
                obtain ⟨n_134, en_134⟩ : ∃ f : Nat → Int32, f = upd n_129 (14 * k23 + 122) (nI 1) := ⟨_, rfl⟩
                rw [← en_134]
                have hnn_134 := KI.w en_134 hnn_129 (okv_f (show kd (14 * k23 + 122) = (0, 0, false) from (kd_P (k := k23) (c := 12) (by omega) (by omega) (by decide))))
                have hrn_134 := NRx.w en_134 hrn_129 (by rw [(show kd (14 * k23 + 122) = (0, 0, false) from (kd_P (k := k23) (c := 12) (by omega) (by omega) (by decide)))])
                have ksn_134 := KS.w en_134 ksn_129 (by unfold tS; omega)
                have e135 : n_134 8 = nI k4 := by rw [en_134, pk_un (by omega)]; exact e130
                have e136 : n_134 0 = nI k19 := by rw [en_134, pk_un (by omega)]; exact e131
                have e137 : n_134 2 = nI (k23 + 1) := by rw [en_134, pk_un (by omega)]; exact e132
                have e138 : n_134 (14 * k23 + 122) = nI 1 := by rw [en_134, pk_us]
                refine pm_iloadi hG dX12_person_221 rfl ?_
                exact pm_iret hG hF dX12_person_223 rfl (Nat.le_refl _) (Nat.le_refl _) ⟨_, rfl, ⟨_, _, _, rfl, hnn_134, hrn_134, ksn_134⟩, rfl⟩
              · refine pm_aloadn hG dX12_person_102 rfl ?_
                refine pm_iconst (v := nI 4) hG dX12_person_103 (by decide) ?_
                refine pm_callV (As := [.int (nI 4)]) (rest := []) hG hR dX12_person_104 (lkX12_80 _ rfl) okV_X12_finds rfl rfl (m_finds (d := 2) (by decide) hn hz (by omega)) rfl rfl hdd (Nat.le_refl _) (Nat.le_refl _) (by decide) (pm_ki (fun v139 σ' cnt' hq => ?_))
                obtain ⟨⟨I140, A140, rfl⟩, rfl, fv139⟩ := hq
                exact pm_iret hG hF dX12_person_107 rfl (Nat.le_refl _) (Nat.le_refl _) ⟨_, rfl, ⟨_, _, _, rfl, hn, hr, KS.rf⟩, rfl⟩
            · refine pm_ifN_eq (tgt := 73) hG dX12_person_66 rfl (by omega) (fun _ => ?_) (fun q => absurd q (by omega))
              refine pm_iconst (v := nI 0) hG dX12_person_73 (by decide) ?_
              refine pm_istoreXi (loc' := [some (.ref (B + 54)), some (.int za), some (.int zb), some (.int zc), some (.int zd), some (.int (nI 0)), none, none]) hG dX12_person_74 (by decide) (pm_c1b rfl) rfl ?_
              refine pm_iloadi hG dX12_person_76 rfl ?_
              refine pm_ifN_ne (tgt := 87) hG dX12_person_78 rfl (by omega) (fun q => absurd q (by omega)) (fun _ => ?_)
              refine pm_aloadn hG dX12_person_81 rfl ?_
              refine pm_iconst (v := nI 1) hG dX12_person_82 (by decide) ?_
              refine pm_callV (As := [.int (nI 1)]) (rest := []) hG hR dX12_person_83 (lkX12_80 _ rfl) okV_X12_finds rfl rfl (m_finds (d := 2) (by decide) hn hz (by omega)) rfl rfl hdd (Nat.le_refl _) (Nat.le_refl _) (by decide) (pm_ki (fun v141 σ' cnt' hq => ?_))
              obtain ⟨⟨I142, A142, rfl⟩, rfl, fv141⟩ := hq
              exact pm_iret hG hF dX12_person_86 rfl (Nat.le_refl _) (Nat.le_refl _) ⟨_, rfl, ⟨_, _, _, rfl, hn, hr, KS.rf⟩, rfl⟩
          · refine pm_ifN_eq (tgt := 73) hG dX12_person_57 rfl (by omega) (fun q => absurd q (by omega)) (fun _ => ?_)
            refine pm_aloadn hG dX12_person_60 rfl ?_
            refine pm_iloadi hG dX12_person_61 rfl ?_
            obtain ⟨k143, hk143, ek143⟩ := KI.nat hn (show kd 0 = (1, 11, true) by decide)
            refine pm_callV (As := [.int zd]) (rest := []) hG hR dX12_person_63 (lkX12_84 _ rfl) okV_X12_isTown rfl rfl (m_isTown (d := 2) (by decide) ek143 (by omega)) rfl rfl hdd (Nat.le_refl _) (Nat.le_refl _) (by decide) (pm_ki (fun v144 σ' cnt' hq => ?_))
            obtain ⟨hq, rfl, rfl⟩ := hq
            rcases hq with ⟨rfl, k146, hk146, ek146⟩ | rfl
            · refine pm_ifN_eq (tgt := 73) hG dX12_person_66 rfl (by omega) (fun q => absurd q (by omega)) (fun _ => ?_)
              refine pm_iconst (v := nI 1) hG dX12_person_69 (by decide) ?_
              refine pm_goto (tgt := 74) hG dX12_person_70 rfl ?_
              refine pm_istoreXi (loc' := [some (.ref (B + 54)), some (.int za), some (.int zb), some (.int zc), some (.int zd), some (.int (nI 1)), none, none]) hG dX12_person_74 (by decide) (pm_c1b rfl) rfl ?_
              refine pm_iloadi hG dX12_person_76 rfl ?_
              refine pm_ifN_ne (tgt := 87) hG dX12_person_78 rfl (by omega) (fun _ => ?_) (fun q => absurd q (by omega))
              refine pm_aloadn hG dX12_person_87 rfl ?_
              refine pm_getf hG dX12_person_88 (flX12_7 _ rfl) rfl rfl ?_
              refine pm_iconst (v := nI 2) hG dX12_person_91 (by decide) ?_
              refine pm_ialdN hG dX12_person_92 rfl (by decide) (by omega) ?_
              obtain ⟨k147, hk147, ek147⟩ := KI.nat hn (show kd 2 = (1, 21, true) by decide)
              refine pm_top (v := nI k147) ek147 ?_
              refine pm_istoreXi (loc' := [some (.ref (B + 54)), some (.int za), some (.int zb), some (.int zc), some (.int zd), some (.int (nI 1)), some (.int (nI k147)), none]) hG dX12_person_93 (by decide) (pm_c1b rfl) rfl ?_
              refine pm_iloadi hG dX12_person_95 rfl ?_
              refine pm_bipush (v := nI 20) hG dX12_person_97 (by decide) ?_
              refine pm_icmpN_ne (tgt := 108) hG dX12_person_99 rfl (by omega) (by omega) (fun c148 => ?_) (fun c148 => ?_)
              · refine pm_aloadn hG dX12_person_108 rfl ?_
                refine pm_getf hG dX12_person_109 (flX12_7 _ rfl) rfl rfl ?_
                refine pm_iconst (v := nI 2) hG dX12_person_112 (by decide) ?_
                refine pm_dup2 hG dX12_person_113 rfl rfl ?_
                refine pm_ialdN hG dX12_person_114 rfl (by decide) (by omega) ?_
                refine pm_top (v := nI k147) ek147 ?_
                refine pm_iconst (v := nI 1) hG dX12_person_115 (by decide) ?_
                refine pm_iaddN (c := k147 + 1) hG dX12_person_116 (by omega) ?_
                refine pm_iastN hG dX12_person_117 rfl (by decide) (by omega) ?_
                refine mdn_now (fun n_149 en_149 => ?_)
                have hnn_149 := KI.w en_149 hn (okv_n (show kd 2 = (1, 21, true) by decide) (by omega))
                have hrn_149 := NRx.pers en_149 hr ek143 (by omega) ek147 (by omega)
                have ksn_149 := KS.w en_149 KS.rf (by unfold tS; omega)
                have e150 : n_149 8 = nI k4 := by rw [en_149, pk_un (by omega)]; exact ek4
                have e151 : n_149 0 = nI k143 := by rw [en_149, pk_un (by omega)]; exact ek143
                have e152 : n_149 2 = nI (k147 + 1) := by rw [en_149, pk_us]
                refine pm_iconst (v := nI 0) hG dX12_person_118 (by decide) ?_
                refine pm_istoreXi (loc' := [some (.ref (B + 54)), some (.int za), some (.int zb), some (.int zc), some (.int zd), some (.int (nI 1)), some (.int (nI k147)), some (.int (nI 0))]) hG dX12_person_119 (by decide) (pm_c1b rfl) rfl ?_
                refine pm_iloadi hG dX12_person_121 rfl ?_
                refine pm_bipush (v := nI 14) hG dX12_person_123 (by decide) ?_
                refine pm_icmpN_ge (tgt := 143) hG dX12_person_125 rfl (by omega) (by omega) (fun q => absurd q (by omega)) (fun _ => ?_)
                refine pm_aloadn hG dX12_person_128 rfl ?_
                refine pm_iloadi hG dX12_person_129 rfl ?_
                refine pm_iloadi hG dX12_person_131 rfl ?_
                refine pm_iconst (v := nI 0) hG dX12_person_133 (by decide) ?_
                refine pm_callV (As := [.int (nI k147), .int (nI 0), .int (nI 0)]) (rest := []) hG hR dX12_person_134 (lkX12_97 _ rfl) okV_X12_sets rfl rfl (m_sets (d := 2) (e := 14 * k147 + 110) (by omega) (by omega) (by omega)) rfl rfl hdd (Nat.le_refl _) (Nat.le_refl _) (by decide) (pm_kv (fun σ' cnt' hq => ?_))
                obtain ⟨rfl, rfl⟩ := hq
                obtain ⟨n_153, en_153⟩ : ∃ f : Nat → Int32, f = upd n_149 (14 * k147 + 110) (nI 0) := ⟨_, rfl⟩
                rw [← en_153]
                have hnn_153 := KI.w en_153 hnn_149 (okv_f (show kd (14 * k147 + 110) = (0, 0, false) from (kd_P (k := k147) (c := 0) (by omega) (by omega) (by decide))))
                have hrn_153 := NRx.w en_153 hrn_149 (by rw [(show kd (14 * k147 + 110) = (0, 0, false) from (kd_P (k := k147) (c := 0) (by omega) (by omega) (by decide)))])
                have ksn_153 := KS.w en_153 ksn_149 (by unfold tS; omega)
                have e154 : n_153 8 = nI k4 := by rw [en_153, pk_un (by omega)]; exact e150
                have e155 : n_153 0 = nI k143 := by rw [en_153, pk_un (by omega)]; exact e151
                have e156 : n_153 2 = nI (k147 + 1) := by rw [en_153, pk_un (by omega)]; exact e152
                have e157 : n_153 (14 * k147 + 110) = nI 0 := by rw [en_153, pk_us]
                refine pm_iincX (v := nI 1) (loc' := [some (.ref (B + 54)), some (.int za), some (.int zb), some (.int zc), some (.int zd), some (.int (nI 1)), some (.int (nI k147)), some (.int (nI 1))]) hG dX12_person_137 rfl (nI_1 _) (by decide) (pm_c1b rfl) rfl ?_
                refine pm_goto (tgt := 121) hG dX12_person_140 rfl ?_
                refine pm_iloadi hG dX12_person_121 rfl ?_
                refine pm_bipush (v := nI 14) hG dX12_person_123 (by decide) ?_
                refine pm_icmpN_ge (tgt := 143) hG dX12_person_125 rfl (by omega) (by omega) (fun q => absurd q (by omega)) (fun _ => ?_)
                refine pm_aloadn hG dX12_person_128 rfl ?_
                refine pm_iloadi hG dX12_person_129 rfl ?_
                refine pm_iloadi hG dX12_person_131 rfl ?_
                refine pm_iconst (v := nI 0) hG dX12_person_133 (by decide) ?_
                refine pm_callV (As := [.int (nI k147), .int (nI 1), .int (nI 0)]) (rest := []) hG hR dX12_person_134 (lkX12_97 _ rfl) okV_X12_sets rfl rfl (m_sets (d := 2) (e := 14 * k147 + 111) (by omega) (by omega) (by omega)) rfl rfl hdd (Nat.le_refl _) (Nat.le_refl _) (by decide) (pm_kv (fun σ' cnt' hq => ?_))
                obtain ⟨rfl, rfl⟩ := hq
                obtain ⟨n_158, en_158⟩ : ∃ f : Nat → Int32, f = upd n_153 (14 * k147 + 111) (nI 0) := ⟨_, rfl⟩
                rw [← en_158]
                have hnn_158 := KI.w en_158 hnn_153 (okv_f (show kd (14 * k147 + 111) = (0, 0, false) from (kd_P (k := k147) (c := 1) (by omega) (by omega) (by decide))))
                have hrn_158 := NRx.w en_158 hrn_153 (by rw [(show kd (14 * k147 + 111) = (0, 0, false) from (kd_P (k := k147) (c := 1) (by omega) (by omega) (by decide)))])
                have ksn_158 := KS.w en_158 ksn_153 (by unfold tS; omega)
                have e159 : n_158 8 = nI k4 := by rw [en_158, pk_un (by omega)]; exact e154
                have e160 : n_158 0 = nI k143 := by rw [en_158, pk_un (by omega)]; exact e155
                have e161 : n_158 2 = nI (k147 + 1) := by rw [en_158, pk_un (by omega)]; exact e156
                have e162 : n_158 (14 * k147 + 111) = nI 0 := by rw [en_158, pk_us]
                refine pm_iincX (v := nI 2) (loc' := [some (.ref (B + 54)), some (.int za), some (.int zb), some (.int zc), some (.int zd), some (.int (nI 1)), some (.int (nI k147)), some (.int (nI 2))]) hG dX12_person_137 rfl (nI_1 _) (by decide) (pm_c1b rfl) rfl ?_
                refine pm_goto (tgt := 121) hG dX12_person_140 rfl ?_
                refine pm_iloadi hG dX12_person_121 rfl ?_
                refine pm_bipush (v := nI 14) hG dX12_person_123 (by decide) ?_
                refine pm_icmpN_ge (tgt := 143) hG dX12_person_125 rfl (by omega) (by omega) (fun q => absurd q (by omega)) (fun _ => ?_)
                refine pm_aloadn hG dX12_person_128 rfl ?_
                refine pm_iloadi hG dX12_person_129 rfl ?_
                refine pm_iloadi hG dX12_person_131 rfl ?_
                refine pm_iconst (v := nI 0) hG dX12_person_133 (by decide) ?_
                refine pm_callV (As := [.int (nI k147), .int (nI 2), .int (nI 0)]) (rest := []) hG hR dX12_person_134 (lkX12_97 _ rfl) okV_X12_sets rfl rfl (m_sets (d := 2) (e := 14 * k147 + 112) (by omega) (by omega) (by omega)) rfl rfl hdd (Nat.le_refl _) (Nat.le_refl _) (by decide) (pm_kv (fun σ' cnt' hq => ?_))
                obtain ⟨rfl, rfl⟩ := hq
                obtain ⟨n_163, en_163⟩ : ∃ f : Nat → Int32, f = upd n_158 (14 * k147 + 112) (nI 0) := ⟨_, rfl⟩
                rw [← en_163]
                have hnn_163 := KI.w en_163 hnn_158 (okv_o (show kd (14 * k147 + 112) = (2, 20, false) from (kd_P (k := k147) (c := 2) (by omega) (by omega) (by decide))) (by omega))
                have hrn_163 := NRx.w en_163 hrn_158 (by rw [(show kd (14 * k147 + 112) = (2, 20, false) from (kd_P (k := k147) (c := 2) (by omega) (by omega) (by decide)))])
                have ksn_163 := KS.w en_163 ksn_158 (by unfold tS; omega)
                have e164 : n_163 8 = nI k4 := by rw [en_163, pk_un (by omega)]; exact e159
                have e165 : n_163 0 = nI k143 := by rw [en_163, pk_un (by omega)]; exact e160
                have e166 : n_163 2 = nI (k147 + 1) := by rw [en_163, pk_un (by omega)]; exact e161
                have e167 : n_163 (14 * k147 + 112) = nI 0 := by rw [en_163, pk_us]
                refine pm_iincX (v := nI 3) (loc' := [some (.ref (B + 54)), some (.int za), some (.int zb), some (.int zc), some (.int zd), some (.int (nI 1)), some (.int (nI k147)), some (.int (nI 3))]) hG dX12_person_137 rfl (nI_1 _) (by decide) (pm_c1b rfl) rfl ?_
                refine pm_goto (tgt := 121) hG dX12_person_140 rfl ?_
                refine pm_iloadi hG dX12_person_121 rfl ?_
                refine pm_bipush (v := nI 14) hG dX12_person_123 (by decide) ?_
                refine pm_icmpN_ge (tgt := 143) hG dX12_person_125 rfl (by omega) (by omega) (fun q => absurd q (by omega)) (fun _ => ?_)
                refine pm_aloadn hG dX12_person_128 rfl ?_
                refine pm_iloadi hG dX12_person_129 rfl ?_
                refine pm_iloadi hG dX12_person_131 rfl ?_
                refine pm_iconst (v := nI 0) hG dX12_person_133 (by decide) ?_
                refine pm_callV (As := [.int (nI k147), .int (nI 3), .int (nI 0)]) (rest := []) hG hR dX12_person_134 (lkX12_97 _ rfl) okV_X12_sets rfl rfl (m_sets (d := 2) (e := 14 * k147 + 113) (by omega) (by omega) (by omega)) rfl rfl hdd (Nat.le_refl _) (Nat.le_refl _) (by decide) (pm_kv (fun σ' cnt' hq => ?_))
                obtain ⟨rfl, rfl⟩ := hq
                obtain ⟨n_168, en_168⟩ : ∃ f : Nat → Int32, f = upd n_163 (14 * k147 + 113) (nI 0) := ⟨_, rfl⟩
                rw [← en_168]
                have hnn_168 := KI.w en_168 hnn_163 (okv_o (show kd (14 * k147 + 113) = (2, 20, false) from (kd_P (k := k147) (c := 3) (by omega) (by omega) (by decide))) (by omega))
                have hrn_168 := NRx.w en_168 hrn_163 (by rw [(show kd (14 * k147 + 113) = (2, 20, false) from (kd_P (k := k147) (c := 3) (by omega) (by omega) (by decide)))])
                have ksn_168 := KS.w en_168 ksn_163 (by unfold tS; omega)
                have e169 : n_168 8 = nI k4 := by rw [en_168, pk_un (by omega)]; exact e164
                have e170 : n_168 0 = nI k143 := by rw [en_168, pk_un (by omega)]; exact e165
                have e171 : n_168 2 = nI (k147 + 1) := by rw [en_168, pk_un (by omega)]; exact e166
                have e172 : n_168 (14 * k147 + 113) = nI 0 := by rw [en_168, pk_us]
                refine pm_iincX (v := nI 4) (loc' := [some (.ref (B + 54)), some (.int za), some (.int zb), some (.int zc), some (.int zd), some (.int (nI 1)), some (.int (nI k147)), some (.int (nI 4))]) hG dX12_person_137 rfl (nI_1 _) (by decide) (pm_c1b rfl) rfl ?_
                refine pm_goto (tgt := 121) hG dX12_person_140 rfl ?_
                refine pm_iloadi hG dX12_person_121 rfl ?_
                refine pm_bipush (v := nI 14) hG dX12_person_123 (by decide) ?_
                refine pm_icmpN_ge (tgt := 143) hG dX12_person_125 rfl (by omega) (by omega) (fun q => absurd q (by omega)) (fun _ => ?_)
                refine pm_aloadn hG dX12_person_128 rfl ?_
                refine pm_iloadi hG dX12_person_129 rfl ?_
                refine pm_iloadi hG dX12_person_131 rfl ?_
                refine pm_iconst (v := nI 0) hG dX12_person_133 (by decide) ?_
                refine pm_callV (As := [.int (nI k147), .int (nI 4), .int (nI 0)]) (rest := []) hG hR dX12_person_134 (lkX12_97 _ rfl) okV_X12_sets rfl rfl (m_sets (d := 2) (e := 14 * k147 + 114) (by omega) (by omega) (by omega)) rfl rfl hdd (Nat.le_refl _) (Nat.le_refl _) (by decide) (pm_kv (fun σ' cnt' hq => ?_))
                obtain ⟨rfl, rfl⟩ := hq
                obtain ⟨n_173, en_173⟩ : ∃ f : Nat → Int32, f = upd n_168 (14 * k147 + 114) (nI 0) := ⟨_, rfl⟩
                rw [← en_173]
                have hnn_173 := KI.w en_173 hnn_168 (okv_o (show kd (14 * k147 + 114) = (2, 10, false) from (kd_P (k := k147) (c := 4) (by omega) (by omega) (by decide))) (by omega))
                have hrn_173 := NRx.w en_173 hrn_168 (by rw [(show kd (14 * k147 + 114) = (2, 10, false) from (kd_P (k := k147) (c := 4) (by omega) (by omega) (by decide)))])
                have ksn_173 := KS.w en_173 ksn_168 (by unfold tS; omega)
                have e174 : n_173 8 = nI k4 := by rw [en_173, pk_un (by omega)]; exact e169
                have e175 : n_173 0 = nI k143 := by rw [en_173, pk_un (by omega)]; exact e170
                have e176 : n_173 2 = nI (k147 + 1) := by rw [en_173, pk_un (by omega)]; exact e171
                have e177 : n_173 (14 * k147 + 114) = nI 0 := by rw [en_173, pk_us]
                refine pm_iincX (v := nI 5) (loc' := [some (.ref (B + 54)), some (.int za), some (.int zb), some (.int zc), some (.int zd), some (.int (nI 1)), some (.int (nI k147)), some (.int (nI 5))]) hG dX12_person_137 rfl (nI_1 _) (by decide) (pm_c1b rfl) rfl ?_
                refine pm_goto (tgt := 121) hG dX12_person_140 rfl ?_
                refine pm_iloadi hG dX12_person_121 rfl ?_
                refine pm_bipush (v := nI 14) hG dX12_person_123 (by decide) ?_
                refine pm_icmpN_ge (tgt := 143) hG dX12_person_125 rfl (by omega) (by omega) (fun q => absurd q (by omega)) (fun _ => ?_)
                refine pm_aloadn hG dX12_person_128 rfl ?_
                refine pm_iloadi hG dX12_person_129 rfl ?_
                refine pm_iloadi hG dX12_person_131 rfl ?_
                refine pm_iconst (v := nI 0) hG dX12_person_133 (by decide) ?_
                refine pm_callV (As := [.int (nI k147), .int (nI 5), .int (nI 0)]) (rest := []) hG hR dX12_person_134 (lkX12_97 _ rfl) okV_X12_sets rfl rfl (m_sets (d := 2) (e := 14 * k147 + 115) (by omega) (by omega) (by omega)) rfl rfl hdd (Nat.le_refl _) (Nat.le_refl _) (by decide) (pm_kv (fun σ' cnt' hq => ?_))
                obtain ⟨rfl, rfl⟩ := hq
                obtain ⟨n_178, en_178⟩ : ∃ f : Nat → Int32, f = upd n_173 (14 * k147 + 115) (nI 0) := ⟨_, rfl⟩
                rw [← en_178]
                have hnn_178 := KI.w en_178 hnn_173 (okv_n (show kd (14 * k147 + 115) = (1, 10, false) from (kd_P (k := k147) (c := 5) (by omega) (by omega) (by decide))) (by omega))
                have hrn_178 := NRx.w en_178 hrn_173 (by rw [(show kd (14 * k147 + 115) = (1, 10, false) from (kd_P (k := k147) (c := 5) (by omega) (by omega) (by decide)))])
                have ksn_178 := KS.w en_178 ksn_173 (by unfold tS; omega)
                have e179 : n_178 8 = nI k4 := by rw [en_178, pk_un (by omega)]; exact e174
                have e180 : n_178 0 = nI k143 := by rw [en_178, pk_un (by omega)]; exact e175
                have e181 : n_178 2 = nI (k147 + 1) := by rw [en_178, pk_un (by omega)]; exact e176
                have e182 : n_178 (14 * k147 + 115) = nI 0 := by rw [en_178, pk_us]
                refine pm_iincX (v := nI 6) (loc' := [some (.ref (B + 54)), some (.int za), some (.int zb), some (.int zc), some (.int zd), some (.int (nI 1)), some (.int (nI k147)), some (.int (nI 6))]) hG dX12_person_137 rfl (nI_1 _) (by decide) (pm_c1b rfl) rfl ?_
                refine pm_goto (tgt := 121) hG dX12_person_140 rfl ?_
                refine pm_iloadi hG dX12_person_121 rfl ?_
                refine pm_bipush (v := nI 14) hG dX12_person_123 (by decide) ?_
                refine pm_icmpN_ge (tgt := 143) hG dX12_person_125 rfl (by omega) (by omega) (fun q => absurd q (by omega)) (fun _ => ?_)
                refine pm_aloadn hG dX12_person_128 rfl ?_
                refine pm_iloadi hG dX12_person_129 rfl ?_
                refine pm_iloadi hG dX12_person_131 rfl ?_
                refine pm_iconst (v := nI 0) hG dX12_person_133 (by decide) ?_
                refine pm_callV (As := [.int (nI k147), .int (nI 6), .int (nI 0)]) (rest := []) hG hR dX12_person_134 (lkX12_97 _ rfl) okV_X12_sets rfl rfl (m_sets (d := 2) (e := 14 * k147 + 116) (by omega) (by omega) (by omega)) rfl rfl hdd (Nat.le_refl _) (Nat.le_refl _) (by decide) (pm_kv (fun σ' cnt' hq => ?_))
                obtain ⟨rfl, rfl⟩ := hq
                obtain ⟨n_183, en_183⟩ : ∃ f : Nat → Int32, f = upd n_178 (14 * k147 + 116) (nI 0) := ⟨_, rfl⟩
                rw [← en_183]
                have hnn_183 := KI.w en_183 hnn_178 (okv_f (show kd (14 * k147 + 116) = (0, 0, false) from (kd_P (k := k147) (c := 6) (by omega) (by omega) (by decide))))
                have hrn_183 := NRx.w en_183 hrn_178 (by rw [(show kd (14 * k147 + 116) = (0, 0, false) from (kd_P (k := k147) (c := 6) (by omega) (by omega) (by decide)))])
                have ksn_183 := KS.w en_183 ksn_178 (by unfold tS; omega)
                have e184 : n_183 8 = nI k4 := by rw [en_183, pk_un (by omega)]; exact e179
                have e185 : n_183 0 = nI k143 := by rw [en_183, pk_un (by omega)]; exact e180
                have e186 : n_183 2 = nI (k147 + 1) := by rw [en_183, pk_un (by omega)]; exact e181
                have e187 : n_183 (14 * k147 + 116) = nI 0 := by rw [en_183, pk_us]
                refine pm_iincX (v := nI 7) (loc' := [some (.ref (B + 54)), some (.int za), some (.int zb), some (.int zc), some (.int zd), some (.int (nI 1)), some (.int (nI k147)), some (.int (nI 7))]) hG dX12_person_137 rfl (nI_1 _) (by decide) (pm_c1b rfl) rfl ?_
                refine pm_goto (tgt := 121) hG dX12_person_140 rfl ?_
                refine pm_iloadi hG dX12_person_121 rfl ?_
                refine pm_bipush (v := nI 14) hG dX12_person_123 (by decide) ?_
                refine pm_icmpN_ge (tgt := 143) hG dX12_person_125 rfl (by omega) (by omega) (fun q => absurd q (by omega)) (fun _ => ?_)
                refine pm_aloadn hG dX12_person_128 rfl ?_
                refine pm_iloadi hG dX12_person_129 rfl ?_
                refine pm_iloadi hG dX12_person_131 rfl ?_
                refine pm_iconst (v := nI 0) hG dX12_person_133 (by decide) ?_
                refine pm_callV (As := [.int (nI k147), .int (nI 7), .int (nI 0)]) (rest := []) hG hR dX12_person_134 (lkX12_97 _ rfl) okV_X12_sets rfl rfl (m_sets (d := 2) (e := 14 * k147 + 117) (by omega) (by omega) (by omega)) rfl rfl hdd (Nat.le_refl _) (Nat.le_refl _) (by decide) (pm_kv (fun σ' cnt' hq => ?_))
                obtain ⟨rfl, rfl⟩ := hq
                obtain ⟨n_188, en_188⟩ : ∃ f : Nat → Int32, f = upd n_183 (14 * k147 + 117) (nI 0) := ⟨_, rfl⟩
                rw [← en_188]
                have hnn_188 := KI.w en_188 hnn_183 (okv_f (show kd (14 * k147 + 117) = (0, 0, false) from (kd_P (k := k147) (c := 7) (by omega) (by omega) (by decide))))
                have hrn_188 := NRx.w en_188 hrn_183 (by rw [(show kd (14 * k147 + 117) = (0, 0, false) from (kd_P (k := k147) (c := 7) (by omega) (by omega) (by decide)))])
                have ksn_188 := KS.w en_188 ksn_183 (by unfold tS; omega)
                have e189 : n_188 8 = nI k4 := by rw [en_188, pk_un (by omega)]; exact e184
                have e190 : n_188 0 = nI k143 := by rw [en_188, pk_un (by omega)]; exact e185
                have e191 : n_188 2 = nI (k147 + 1) := by rw [en_188, pk_un (by omega)]; exact e186
                have e192 : n_188 (14 * k147 + 117) = nI 0 := by rw [en_188, pk_us]
                refine pm_iincX (v := nI 8) (loc' := [some (.ref (B + 54)), some (.int za), some (.int zb), some (.int zc), some (.int zd), some (.int (nI 1)), some (.int (nI k147)), some (.int (nI 8))]) hG dX12_person_137 rfl (nI_1 _) (by decide) (pm_c1b rfl) rfl ?_
                refine pm_goto (tgt := 121) hG dX12_person_140 rfl ?_
                refine pm_iloadi hG dX12_person_121 rfl ?_
                refine pm_bipush (v := nI 14) hG dX12_person_123 (by decide) ?_
                refine pm_icmpN_ge (tgt := 143) hG dX12_person_125 rfl (by omega) (by omega) (fun q => absurd q (by omega)) (fun _ => ?_)
                refine pm_aloadn hG dX12_person_128 rfl ?_
                refine pm_iloadi hG dX12_person_129 rfl ?_
                refine pm_iloadi hG dX12_person_131 rfl ?_
                refine pm_iconst (v := nI 0) hG dX12_person_133 (by decide) ?_
                refine pm_callV (As := [.int (nI k147), .int (nI 8), .int (nI 0)]) (rest := []) hG hR dX12_person_134 (lkX12_97 _ rfl) okV_X12_sets rfl rfl (m_sets (d := 2) (e := 14 * k147 + 118) (by omega) (by omega) (by omega)) rfl rfl hdd (Nat.le_refl _) (Nat.le_refl _) (by decide) (pm_kv (fun σ' cnt' hq => ?_))
                obtain ⟨rfl, rfl⟩ := hq
                obtain ⟨n_193, en_193⟩ : ∃ f : Nat → Int32, f = upd n_188 (14 * k147 + 118) (nI 0) := ⟨_, rfl⟩
                rw [← en_193]
                have hnn_193 := KI.w en_193 hnn_188 (okv_f (show kd (14 * k147 + 118) = (0, 0, false) from (kd_P (k := k147) (c := 8) (by omega) (by omega) (by decide))))
                have hrn_193 := NRx.w en_193 hrn_188 (by rw [(show kd (14 * k147 + 118) = (0, 0, false) from (kd_P (k := k147) (c := 8) (by omega) (by omega) (by decide)))])
                have ksn_193 := KS.w en_193 ksn_188 (by unfold tS; omega)
                have e194 : n_193 8 = nI k4 := by rw [en_193, pk_un (by omega)]; exact e189
                have e195 : n_193 0 = nI k143 := by rw [en_193, pk_un (by omega)]; exact e190
                have e196 : n_193 2 = nI (k147 + 1) := by rw [en_193, pk_un (by omega)]; exact e191
                have e197 : n_193 (14 * k147 + 118) = nI 0 := by rw [en_193, pk_us]
                refine pm_iincX (v := nI 9) (loc' := [some (.ref (B + 54)), some (.int za), some (.int zb), some (.int zc), some (.int zd), some (.int (nI 1)), some (.int (nI k147)), some (.int (nI 9))]) hG dX12_person_137 rfl (nI_1 _) (by decide) (pm_c1b rfl) rfl ?_
                refine pm_goto (tgt := 121) hG dX12_person_140 rfl ?_
                refine pm_iloadi hG dX12_person_121 rfl ?_
                refine pm_bipush (v := nI 14) hG dX12_person_123 (by decide) ?_
                refine pm_icmpN_ge (tgt := 143) hG dX12_person_125 rfl (by omega) (by omega) (fun q => absurd q (by omega)) (fun _ => ?_)
                refine pm_aloadn hG dX12_person_128 rfl ?_
                refine pm_iloadi hG dX12_person_129 rfl ?_
                refine pm_iloadi hG dX12_person_131 rfl ?_
                refine pm_iconst (v := nI 0) hG dX12_person_133 (by decide) ?_
                refine pm_callV (As := [.int (nI k147), .int (nI 9), .int (nI 0)]) (rest := []) hG hR dX12_person_134 (lkX12_97 _ rfl) okV_X12_sets rfl rfl (m_sets (d := 2) (e := 14 * k147 + 119) (by omega) (by omega) (by omega)) rfl rfl hdd (Nat.le_refl _) (Nat.le_refl _) (by decide) (pm_kv (fun σ' cnt' hq => ?_))
                obtain ⟨rfl, rfl⟩ := hq
                obtain ⟨n_198, en_198⟩ : ∃ f : Nat → Int32, f = upd n_193 (14 * k147 + 119) (nI 0) := ⟨_, rfl⟩
                rw [← en_198]
                have hnn_198 := KI.w en_198 hnn_193 (okv_o (show kd (14 * k147 + 119) = (2, 2001, false) from (kd_P (k := k147) (c := 9) (by omega) (by omega) (by decide))) (by omega))
                have hrn_198 := NRx.w en_198 hrn_193 (by rw [(show kd (14 * k147 + 119) = (2, 2001, false) from (kd_P (k := k147) (c := 9) (by omega) (by omega) (by decide)))])
                have ksn_198 := KS.w en_198 ksn_193 (by unfold tS; omega)
                have e199 : n_198 8 = nI k4 := by rw [en_198, pk_un (by omega)]; exact e194
                have e200 : n_198 0 = nI k143 := by rw [en_198, pk_un (by omega)]; exact e195
                have e201 : n_198 2 = nI (k147 + 1) := by rw [en_198, pk_un (by omega)]; exact e196
                have e202 : n_198 (14 * k147 + 119) = nI 0 := by rw [en_198, pk_us]
                refine pm_iincX (v := nI 10) (loc' := [some (.ref (B + 54)), some (.int za), some (.int zb), some (.int zc), some (.int zd), some (.int (nI 1)), some (.int (nI k147)), some (.int (nI 10))]) hG dX12_person_137 rfl (nI_1 _) (by decide) (pm_c1b rfl) rfl ?_
                refine pm_goto (tgt := 121) hG dX12_person_140 rfl ?_
                refine pm_iloadi hG dX12_person_121 rfl ?_
                refine pm_bipush (v := nI 14) hG dX12_person_123 (by decide) ?_
                refine pm_icmpN_ge (tgt := 143) hG dX12_person_125 rfl (by omega) (by omega) (fun q => absurd q (by omega)) (fun _ => ?_)
                refine pm_aloadn hG dX12_person_128 rfl ?_
                refine pm_iloadi hG dX12_person_129 rfl ?_
                refine pm_iloadi hG dX12_person_131 rfl ?_
                refine pm_iconst (v := nI 0) hG dX12_person_133 (by decide) ?_
                refine pm_callV (As := [.int (nI k147), .int (nI 10), .int (nI 0)]) (rest := []) hG hR dX12_person_134 (lkX12_97 _ rfl) okV_X12_sets rfl rfl (m_sets (d := 2) (e := 14 * k147 + 120) (by omega) (by omega) (by omega)) rfl rfl hdd (Nat.le_refl _) (Nat.le_refl _) (by decide) (pm_kv (fun σ' cnt' hq => ?_))
                obtain ⟨rfl, rfl⟩ := hq
                obtain ⟨n_203, en_203⟩ : ∃ f : Nat → Int32, f = upd n_198 (14 * k147 + 120) (nI 0) := ⟨_, rfl⟩
                rw [← en_203]
                have hnn_203 := KI.w en_203 hnn_198 (okv_f (show kd (14 * k147 + 120) = (0, 0, false) from (kd_P (k := k147) (c := 10) (by omega) (by omega) (by decide))))
                have hrn_203 := NRx.w en_203 hrn_198 (by rw [(show kd (14 * k147 + 120) = (0, 0, false) from (kd_P (k := k147) (c := 10) (by omega) (by omega) (by decide)))])
                have ksn_203 := KS.w en_203 ksn_198 (by unfold tS; omega)
                have e204 : n_203 8 = nI k4 := by rw [en_203, pk_un (by omega)]; exact e199
                have e205 : n_203 0 = nI k143 := by rw [en_203, pk_un (by omega)]; exact e200
                have e206 : n_203 2 = nI (k147 + 1) := by rw [en_203, pk_un (by omega)]; exact e201
                have e207 : n_203 (14 * k147 + 120) = nI 0 := by rw [en_203, pk_us]
                refine pm_iincX (v := nI 11) (loc' := [some (.ref (B + 54)), some (.int za), some (.int zb), some (.int zc), some (.int zd), some (.int (nI 1)), some (.int (nI k147)), some (.int (nI 11))]) hG dX12_person_137 rfl (nI_1 _) (by decide) (pm_c1b rfl) rfl ?_
                refine pm_goto (tgt := 121) hG dX12_person_140 rfl ?_
                refine pm_iloadi hG dX12_person_121 rfl ?_
                refine pm_bipush (v := nI 14) hG dX12_person_123 (by decide) ?_
                refine pm_icmpN_ge (tgt := 143) hG dX12_person_125 rfl (by omega) (by omega) (fun q => absurd q (by omega)) (fun _ => ?_)
                refine pm_aloadn hG dX12_person_128 rfl ?_
                refine pm_iloadi hG dX12_person_129 rfl ?_
                refine pm_iloadi hG dX12_person_131 rfl ?_
                refine pm_iconst (v := nI 0) hG dX12_person_133 (by decide) ?_
                refine pm_callV (As := [.int (nI k147), .int (nI 11), .int (nI 0)]) (rest := []) hG hR dX12_person_134 (lkX12_97 _ rfl) okV_X12_sets rfl rfl (m_sets (d := 2) (e := 14 * k147 + 121) (by omega) (by omega) (by omega)) rfl rfl hdd (Nat.le_refl _) (Nat.le_refl _) (by decide) (pm_kv (fun σ' cnt' hq => ?_))
                obtain ⟨rfl, rfl⟩ := hq
                obtain ⟨n_208, en_208⟩ : ∃ f : Nat → Int32, f = upd n_203 (14 * k147 + 121) (nI 0) := ⟨_, rfl⟩
                rw [← en_208]
                have hnn_208 := KI.w en_208 hnn_203 (okv_n (show kd (14 * k147 + 121) = (1, 2, true) from (kd_P (k := k147) (c := 11) (by omega) (by omega) (by decide))) (by omega))
                have hrn_208 := NRx.unseat (p := k147) en_208 hrn_203 (by omega)
                have ksn_208 := KS.w en_208 ksn_203 (by unfold tS; omega)
                have e209 : n_208 8 = nI k4 := by rw [en_208, pk_un (by omega)]; exact e204
                have e210 : n_208 0 = nI k143 := by rw [en_208, pk_un (by omega)]; exact e205
                have e211 : n_208 2 = nI (k147 + 1) := by rw [en_208, pk_un (by omega)]; exact e206
                have e212 : n_208 (14 * k147 + 121) = nI 0 := by rw [en_208, pk_us]
                refine pm_iincX (v := nI 12) (loc' := [some (.ref (B + 54)), some (.int za), some (.int zb), some (.int zc), some (.int zd), some (.int (nI 1)), some (.int (nI k147)), some (.int (nI 12))]) hG dX12_person_137 rfl (nI_1 _) (by decide) (pm_c1b rfl) rfl ?_
                refine pm_goto (tgt := 121) hG dX12_person_140 rfl ?_
                refine pm_iloadi hG dX12_person_121 rfl ?_
                refine pm_bipush (v := nI 14) hG dX12_person_123 (by decide) ?_
                refine pm_icmpN_ge (tgt := 143) hG dX12_person_125 rfl (by omega) (by omega) (fun q => absurd q (by omega)) (fun _ => ?_)
                refine pm_aloadn hG dX12_person_128 rfl ?_
                refine pm_iloadi hG dX12_person_129 rfl ?_
                refine pm_iloadi hG dX12_person_131 rfl ?_
                refine pm_iconst (v := nI 0) hG dX12_person_133 (by decide) ?_
                refine pm_callV (As := [.int (nI k147), .int (nI 12), .int (nI 0)]) (rest := []) hG hR dX12_person_134 (lkX12_97 _ rfl) okV_X12_sets rfl rfl (m_sets (d := 2) (e := 14 * k147 + 122) (by omega) (by omega) (by omega)) rfl rfl hdd (Nat.le_refl _) (Nat.le_refl _) (by decide) (pm_kv (fun σ' cnt' hq => ?_))
                obtain ⟨rfl, rfl⟩ := hq
                obtain ⟨n_213, en_213⟩ : ∃ f : Nat → Int32, f = upd n_208 (14 * k147 + 122) (nI 0) := ⟨_, rfl⟩
                rw [← en_213]
                have hnn_213 := KI.w en_213 hnn_208 (okv_f (show kd (14 * k147 + 122) = (0, 0, false) from (kd_P (k := k147) (c := 12) (by omega) (by omega) (by decide))))
                have hrn_213 := NRx.w en_213 hrn_208 (by rw [(show kd (14 * k147 + 122) = (0, 0, false) from (kd_P (k := k147) (c := 12) (by omega) (by omega) (by decide)))])
                have ksn_213 := KS.w en_213 ksn_208 (by unfold tS; omega)
                have e214 : n_213 8 = nI k4 := by rw [en_213, pk_un (by omega)]; exact e209
                have e215 : n_213 0 = nI k143 := by rw [en_213, pk_un (by omega)]; exact e210
                have e216 : n_213 2 = nI (k147 + 1) := by rw [en_213, pk_un (by omega)]; exact e211
                have e217 : n_213 (14 * k147 + 122) = nI 0 := by rw [en_213, pk_us]
                refine pm_iincX (v := nI 13) (loc' := [some (.ref (B + 54)), some (.int za), some (.int zb), some (.int zc), some (.int zd), some (.int (nI 1)), some (.int (nI k147)), some (.int (nI 13))]) hG dX12_person_137 rfl (nI_1 _) (by decide) (pm_c1b rfl) rfl ?_
                refine pm_goto (tgt := 121) hG dX12_person_140 rfl ?_
                refine pm_iloadi hG dX12_person_121 rfl ?_
                refine pm_bipush (v := nI 14) hG dX12_person_123 (by decide) ?_
                refine pm_icmpN_ge (tgt := 143) hG dX12_person_125 rfl (by omega) (by omega) (fun q => absurd q (by omega)) (fun _ => ?_)
                refine pm_aloadn hG dX12_person_128 rfl ?_
                refine pm_iloadi hG dX12_person_129 rfl ?_
                refine pm_iloadi hG dX12_person_131 rfl ?_
                refine pm_iconst (v := nI 0) hG dX12_person_133 (by decide) ?_
                refine pm_callV (As := [.int (nI k147), .int (nI 13), .int (nI 0)]) (rest := []) hG hR dX12_person_134 (lkX12_97 _ rfl) okV_X12_sets rfl rfl (m_sets (d := 2) (e := 14 * k147 + 123) (by omega) (by omega) (by omega)) rfl rfl hdd (Nat.le_refl _) (Nat.le_refl _) (by decide) (pm_kv (fun σ' cnt' hq => ?_))
                obtain ⟨rfl, rfl⟩ := hq
                obtain ⟨n_218, en_218⟩ : ∃ f : Nat → Int32, f = upd n_213 (14 * k147 + 123) (nI 0) := ⟨_, rfl⟩
                rw [← en_218]
                have hnn_218 := KI.w en_218 hnn_213 (okv_f (show kd (14 * k147 + 123) = (0, 0, false) from (kd_P (k := k147) (c := 13) (by omega) (by omega) (by decide))))
                have hrn_218 := NRx.w en_218 hrn_213 (by rw [(show kd (14 * k147 + 123) = (0, 0, false) from (kd_P (k := k147) (c := 13) (by omega) (by omega) (by decide)))])
                have ksn_218 := KS.w en_218 ksn_213 (by unfold tS; omega)
                have e219 : n_218 8 = nI k4 := by rw [en_218, pk_un (by omega)]; exact e214
                have e220 : n_218 0 = nI k143 := by rw [en_218, pk_un (by omega)]; exact e215
                have e221 : n_218 2 = nI (k147 + 1) := by rw [en_218, pk_un (by omega)]; exact e216
                have e222 : n_218 (14 * k147 + 123) = nI 0 := by rw [en_218, pk_us]
                refine pm_iincX (v := nI 14) (loc' := [some (.ref (B + 54)), some (.int za), some (.int zb), some (.int zc), some (.int zd), some (.int (nI 1)), some (.int (nI k147)), some (.int (nI 14))]) hG dX12_person_137 rfl (nI_1 _) (by decide) (pm_c1b rfl) rfl ?_
                refine pm_goto (tgt := 121) hG dX12_person_140 rfl ?_
                refine pm_iloadi hG dX12_person_121 rfl ?_
                refine pm_bipush (v := nI 14) hG dX12_person_123 (by decide) ?_
                refine pm_icmpN_ge (tgt := 143) hG dX12_person_125 rfl (by omega) (by omega) (fun _ => ?_) (fun q => absurd q (by omega))
                refine pm_aloadn hG dX12_person_143 rfl ?_
                refine pm_iloadi hG dX12_person_144 rfl ?_
                refine pm_iconst (v := nI 0) hG dX12_person_146 (by decide) ?_
                refine pm_iloadn hG dX12_person_147 rfl ?_
                refine pm_top (v := nI k3) ek3 ?_
                refine pm_callV (As := [.int (nI k147), .int (nI 0), .int (nI k3)]) (rest := []) hG hR dX12_person_148 (lkX12_97 _ rfl) okV_X12_sets rfl rfl (m_sets (d := 2) (e := 14 * k147 + 110) (by omega) (by omega) (by omega)) rfl rfl hdd (Nat.le_refl _) (Nat.le_refl _) (by decide) (pm_kv (fun σ' cnt' hq => ?_))
                obtain ⟨rfl, rfl⟩ := hq
                obtain ⟨n_223, en_223⟩ : ∃ f : Nat → Int32, f = upd n_218 (14 * k147 + 110) (nI k3) := ⟨_, rfl⟩
                rw [← en_223]
                have hnn_223 := KI.w en_223 hnn_218 (okv_f (show kd (14 * k147 + 110) = (0, 0, false) from (kd_P (k := k147) (c := 0) (by omega) (by omega) (by decide))))
                have hrn_223 := NRx.w en_223 hrn_218 (by rw [(show kd (14 * k147 + 110) = (0, 0, false) from (kd_P (k := k147) (c := 0) (by omega) (by omega) (by decide)))])
                have ksn_223 := KS.w en_223 ksn_218 (by unfold tS; omega)
                have e224 : n_223 8 = nI k4 := by rw [en_223, pk_un (by omega)]; exact e219
                have e225 : n_223 0 = nI k143 := by rw [en_223, pk_un (by omega)]; exact e220
                have e226 : n_223 2 = nI (k147 + 1) := by rw [en_223, pk_un (by omega)]; exact e221
                have e227 : n_223 (14 * k147 + 110) = nI k3 := by rw [en_223, pk_us]
                refine pm_aloadn hG dX12_person_151 rfl ?_
                refine pm_iloadi hG dX12_person_152 rfl ?_
                refine pm_iconst (v := nI 1) hG dX12_person_154 (by decide) ?_
                refine pm_iloadn hG dX12_person_155 rfl ?_
                refine pm_callV (As := [.int (nI k147), .int (nI 1), .int zb]) (rest := []) hG hR dX12_person_156 (lkX12_97 _ rfl) okV_X12_sets rfl rfl (m_sets (d := 2) (e := 14 * k147 + 111) (by omega) (by omega) (by omega)) rfl rfl hdd (Nat.le_refl _) (Nat.le_refl _) (by decide) (pm_kv (fun σ' cnt' hq => ?_))
                obtain ⟨rfl, rfl⟩ := hq
                obtain ⟨n_228, en_228⟩ : ∃ f : Nat → Int32, f = upd n_223 (14 * k147 + 111) zb := ⟨_, rfl⟩
                rw [← en_228]
                have hnn_228 := KI.w en_228 hnn_223 (okv_f (show kd (14 * k147 + 111) = (0, 0, false) from (kd_P (k := k147) (c := 1) (by omega) (by omega) (by decide))))
                have hrn_228 := NRx.w en_228 hrn_223 (by rw [(show kd (14 * k147 + 111) = (0, 0, false) from (kd_P (k := k147) (c := 1) (by omega) (by omega) (by decide)))])
                have ksn_228 := KS.w en_228 ksn_223 (by unfold tS; omega)
                have e229 : n_228 8 = nI k4 := by rw [en_228, pk_un (by omega)]; exact e224
                have e230 : n_228 0 = nI k143 := by rw [en_228, pk_un (by omega)]; exact e225
                have e231 : n_228 2 = nI (k147 + 1) := by rw [en_228, pk_un (by omega)]; exact e226
                have e232 : n_228 (14 * k147 + 111) = zb := by rw [en_228, pk_us]
                refine pm_aloadn hG dX12_person_159 rfl ?_
                refine pm_iloadi hG dX12_person_160 rfl ?_
                refine pm_iconst (v := nI 2) hG dX12_person_162 (by decide) ?_
                refine pm_iloadn hG dX12_person_163 rfl ?_
                refine pm_top (v := nI k10) ek10 ?_
                refine pm_bipush (v := nI 100) hG dX12_person_164 (by decide) ?_
                refine pm_idivN hG dX12_person_166 (by omega) (by decide) (by decide) ?_
                refine pm_iconst (v := nI 1) hG dX12_person_167 (by decide) ?_
                refine pm_isub hG dX12_person_168 ?_
                refine pm_top (v := (-1)) ek12 ?_
                refine pm_callV (As := [.int (nI k147), .int (nI 2), .int (-1)]) (rest := []) hG hR dX12_person_169 (lkX12_97 _ rfl) okV_X12_sets rfl rfl (m_sets (d := 2) (e := 14 * k147 + 112) (by omega) (by omega) (by omega)) rfl rfl hdd (Nat.le_refl _) (Nat.le_refl _) (by decide) (pm_kv (fun σ' cnt' hq => ?_))
                obtain ⟨rfl, rfl⟩ := hq
                obtain ⟨n_233, en_233⟩ : ∃ f : Nat → Int32, f = upd n_228 (14 * k147 + 112) (-1) := ⟨_, rfl⟩
                rw [← en_233]
                have hnn_233 := KI.w en_233 hnn_228 (okv_m (show kd (14 * k147 + 112) = (2, 20, false) from (kd_P (k := k147) (c := 2) (by omega) (by omega) (by decide))))
                have hrn_233 := NRx.w en_233 hrn_228 (by rw [(show kd (14 * k147 + 112) = (2, 20, false) from (kd_P (k := k147) (c := 2) (by omega) (by omega) (by decide)))])
                have ksn_233 := KS.w en_233 ksn_228 (by unfold tS; omega)
                have e234 : n_233 8 = nI k4 := by rw [en_233, pk_un (by omega)]; exact e229
                have e235 : n_233 0 = nI k143 := by rw [en_233, pk_un (by omega)]; exact e230
                have e236 : n_233 2 = nI (k147 + 1) := by rw [en_233, pk_un (by omega)]; exact e231
                have e237 : n_233 (14 * k147 + 112) = (-1) := by rw [en_233, pk_us]
                refine pm_aloadn hG dX12_person_172 rfl ?_
                refine pm_iloadi hG dX12_person_173 rfl ?_
                refine pm_iconst (v := nI 3) hG dX12_person_175 (by decide) ?_
                refine pm_iloadn hG dX12_person_176 rfl ?_
                refine pm_top (v := nI k10) ek10 ?_
                refine pm_bipush (v := nI 100) hG dX12_person_177 (by decide) ?_
                refine pm_iremM hG dX12_person_179 (by omega) (by decide) (by decide) ?_
                refine pm_iconst (v := nI 1) hG dX12_person_180 (by decide) ?_
                refine pm_isub hG dX12_person_181 ?_
                refine pm_top (v := nI k16) ek16 ?_
                refine pm_callV (As := [.int (nI k147), .int (nI 3), .int (nI k16)]) (rest := []) hG hR dX12_person_182 (lkX12_97 _ rfl) okV_X12_sets rfl rfl (m_sets (d := 2) (e := 14 * k147 + 113) (by omega) (by omega) (by omega)) rfl rfl hdd (Nat.le_refl _) (Nat.le_refl _) (by decide) (pm_kv (fun σ' cnt' hq => ?_))
                obtain ⟨rfl, rfl⟩ := hq
                obtain ⟨n_238, en_238⟩ : ∃ f : Nat → Int32, f = upd n_233 (14 * k147 + 113) (nI k16) := ⟨_, rfl⟩
                rw [← en_238]
                have hnn_238 := KI.w en_238 hnn_233 (okv_o (show kd (14 * k147 + 113) = (2, 20, false) from (kd_P (k := k147) (c := 3) (by omega) (by omega) (by decide))) (by omega))
                have hrn_238 := NRx.w en_238 hrn_233 (by rw [(show kd (14 * k147 + 113) = (2, 20, false) from (kd_P (k := k147) (c := 3) (by omega) (by omega) (by decide)))])
                have ksn_238 := KS.w en_238 ksn_233 (by unfold tS; omega)
                have e239 : n_238 8 = nI k4 := by rw [en_238, pk_un (by omega)]; exact e234
                have e240 : n_238 0 = nI k143 := by rw [en_238, pk_un (by omega)]; exact e235
                have e241 : n_238 2 = nI (k147 + 1) := by rw [en_238, pk_un (by omega)]; exact e236
                have e242 : n_238 (14 * k147 + 113) = nI k16 := by rw [en_238, pk_us]
                refine pm_aloadn hG dX12_person_185 rfl ?_
                refine pm_iloadi hG dX12_person_186 rfl ?_
                refine pm_iconst (v := nI 4) hG dX12_person_188 (by decide) ?_
                refine pm_iloadi hG dX12_person_189 rfl ?_
                refine pm_top (v := nI k146) ek146 ?_
                refine pm_callV (As := [.int (nI k147), .int (nI 4), .int (nI k146)]) (rest := []) hG hR dX12_person_191 (lkX12_97 _ rfl) okV_X12_sets rfl rfl (m_sets (d := 2) (e := 14 * k147 + 114) (by omega) (by omega) (by omega)) rfl rfl hdd (Nat.le_refl _) (Nat.le_refl _) (by decide) (pm_kv (fun σ' cnt' hq => ?_))
                obtain ⟨rfl, rfl⟩ := hq
                obtain ⟨n_243, en_243⟩ : ∃ f : Nat → Int32, f = upd n_238 (14 * k147 + 114) (nI k146) := ⟨_, rfl⟩
                rw [← en_243]
                have hnn_243 := KI.w en_243 hnn_238 (okv_o (show kd (14 * k147 + 114) = (2, 10, false) from (kd_P (k := k147) (c := 4) (by omega) (by omega) (by decide))) (by omega))
                have hrn_243 := NRx.w en_243 hrn_238 (by rw [(show kd (14 * k147 + 114) = (2, 10, false) from (kd_P (k := k147) (c := 4) (by omega) (by omega) (by decide)))])
                have ksn_243 := KS.w en_243 ksn_238 (by unfold tS; omega)
                have e244 : n_243 8 = nI k4 := by rw [en_243, pk_un (by omega)]; exact e239
                have e245 : n_243 0 = nI k143 := by rw [en_243, pk_un (by omega)]; exact e240
                have e246 : n_243 2 = nI (k147 + 1) := by rw [en_243, pk_un (by omega)]; exact e241
                have e247 : n_243 (14 * k147 + 114) = nI k146 := by rw [en_243, pk_us]
                refine pm_aloadn hG dX12_person_194 rfl ?_
                refine pm_iloadi hG dX12_person_195 rfl ?_
                refine pm_bipush (v := nI 9) hG dX12_person_197 (by decide) ?_
                refine pm_iconst (v := (-1)) hG dX12_person_199 (by decide) ?_
                refine pm_callV (As := [.int (nI k147), .int (nI 9), .int (-1)]) (rest := []) hG hR dX12_person_200 (lkX12_97 _ rfl) okV_X12_sets rfl rfl (m_sets (d := 2) (e := 14 * k147 + 119) (by omega) (by omega) (by omega)) rfl rfl hdd (Nat.le_refl _) (Nat.le_refl _) (by decide) (pm_kv (fun σ' cnt' hq => ?_))
                obtain ⟨rfl, rfl⟩ := hq
                obtain ⟨n_248, en_248⟩ : ∃ f : Nat → Int32, f = upd n_243 (14 * k147 + 119) (-1) := ⟨_, rfl⟩
                rw [← en_248]
                have hnn_248 := KI.w en_248 hnn_243 (okv_m (show kd (14 * k147 + 119) = (2, 2001, false) from (kd_P (k := k147) (c := 9) (by omega) (by omega) (by decide))))
                have hrn_248 := NRx.w en_248 hrn_243 (by rw [(show kd (14 * k147 + 119) = (2, 2001, false) from (kd_P (k := k147) (c := 9) (by omega) (by omega) (by decide)))])
                have ksn_248 := KS.w en_248 ksn_243 (by unfold tS; omega)
                have e249 : n_248 8 = nI k4 := by rw [en_248, pk_un (by omega)]; exact e244
                have e250 : n_248 0 = nI k143 := by rw [en_248, pk_un (by omega)]; exact e245
                have e251 : n_248 2 = nI (k147 + 1) := by rw [en_248, pk_un (by omega)]; exact e246
                have e252 : n_248 (14 * k147 + 119) = (-1) := by rw [en_248, pk_us]
                refine pm_aloadn hG dX12_person_203 rfl ?_
                refine pm_iloadi hG dX12_person_204 rfl ?_
                refine pm_bipush (v := nI 10) hG dX12_person_206 (by decide) ?_
                refine pm_iconst (v := (-1)) hG dX12_person_208 (by decide) ?_
                refine pm_callV (As := [.int (nI k147), .int (nI 10), .int (-1)]) (rest := []) hG hR dX12_person_209 (lkX12_97 _ rfl) okV_X12_sets rfl rfl (m_sets (d := 2) (e := 14 * k147 + 120) (by omega) (by omega) (by omega)) rfl rfl hdd (Nat.le_refl _) (Nat.le_refl _) (by decide) (pm_kv (fun σ' cnt' hq => ?_))
                obtain ⟨rfl, rfl⟩ := hq
                obtain ⟨n_253, en_253⟩ : ∃ f : Nat → Int32, f = upd n_248 (14 * k147 + 120) (-1) := ⟨_, rfl⟩
                rw [← en_253]
                have hnn_253 := KI.w en_253 hnn_248 (okv_f (show kd (14 * k147 + 120) = (0, 0, false) from (kd_P (k := k147) (c := 10) (by omega) (by omega) (by decide))))
                have hrn_253 := NRx.w en_253 hrn_248 (by rw [(show kd (14 * k147 + 120) = (0, 0, false) from (kd_P (k := k147) (c := 10) (by omega) (by omega) (by decide)))])
                have ksn_253 := KS.w en_253 ksn_248 (by unfold tS; omega)
                have e254 : n_253 8 = nI k4 := by rw [en_253, pk_un (by omega)]; exact e249
                have e255 : n_253 0 = nI k143 := by rw [en_253, pk_un (by omega)]; exact e250
                have e256 : n_253 2 = nI (k147 + 1) := by rw [en_253, pk_un (by omega)]; exact e251
                have e257 : n_253 (14 * k147 + 120) = (-1) := by rw [en_253, pk_us]
                refine pm_aloadn hG dX12_person_212 rfl ?_
                refine pm_iloadi hG dX12_person_213 rfl ?_
                refine pm_bipush (v := nI 12) hG dX12_person_215 (by decide) ?_
                refine pm_iconst (v := nI 1) hG dX12_person_217 (by decide) ?_
                refine pm_callV (As := [.int (nI k147), .int (nI 12), .int (nI 1)]) (rest := []) hG hR dX12_person_218 (lkX12_97 _ rfl) okV_X12_sets rfl rfl (m_sets (d := 2) (e := 14 * k147 + 122) (by omega) (by omega) (by omega)) rfl rfl hdd (Nat.le_refl _) (Nat.le_refl _) (by decide) (pm_kv (fun σ' cnt' hq => ?_))
                obtain ⟨rfl, rfl⟩ := hq
                obtain ⟨n_258, en_258⟩ : ∃ f : Nat → Int32, f = upd n_253 (14 * k147 + 122) (nI 1) := ⟨_, rfl⟩
                rw [← en_258]
                have hnn_258 := KI.w en_258 hnn_253 (okv_f (show kd (14 * k147 + 122) = (0, 0, false) from (kd_P (k := k147) (c := 12) (by omega) (by omega) (by decide))))
                have hrn_258 := NRx.w en_258 hrn_253 (by rw [(show kd (14 * k147 + 122) = (0, 0, false) from (kd_P (k := k147) (c := 12) (by omega) (by omega) (by decide)))])
                have ksn_258 := KS.w en_258 ksn_253 (by unfold tS; omega)
                have e259 : n_258 8 = nI k4 := by rw [en_258, pk_un (by omega)]; exact e254
                have e260 : n_258 0 = nI k143 := by rw [en_258, pk_un (by omega)]; exact e255
                have e261 : n_258 2 = nI (k147 + 1) := by rw [en_258, pk_un (by omega)]; exact e256
                have e262 : n_258 (14 * k147 + 122) = nI 1 := by rw [en_258, pk_us]
                refine pm_iloadi hG dX12_person_221 rfl ?_
                exact pm_iret hG hF dX12_person_223 rfl (Nat.le_refl _) (Nat.le_refl _) ⟨_, rfl, ⟨_, _, _, rfl, hnn_258, hrn_258, ksn_258⟩, rfl⟩
              · refine pm_aloadn hG dX12_person_102 rfl ?_
                refine pm_iconst (v := nI 4) hG dX12_person_103 (by decide) ?_
                refine pm_callV (As := [.int (nI 4)]) (rest := []) hG hR dX12_person_104 (lkX12_80 _ rfl) okV_X12_finds rfl rfl (m_finds (d := 2) (by decide) hn hz (by omega)) rfl rfl hdd (Nat.le_refl _) (Nat.le_refl _) (by decide) (pm_ki (fun v263 σ' cnt' hq => ?_))
                obtain ⟨⟨I264, A264, rfl⟩, rfl, fv263⟩ := hq
                exact pm_iret hG hF dX12_person_107 rfl (Nat.le_refl _) (Nat.le_refl _) ⟨_, rfl, ⟨_, _, _, rfl, hn, hr, KS.rf⟩, rfl⟩
            · refine pm_ifN_eq (tgt := 73) hG dX12_person_66 rfl (by omega) (fun _ => ?_) (fun q => absurd q (by omega))
              refine pm_iconst (v := nI 0) hG dX12_person_73 (by decide) ?_
              refine pm_istoreXi (loc' := [some (.ref (B + 54)), some (.int za), some (.int zb), some (.int zc), some (.int zd), some (.int (nI 0)), none, none]) hG dX12_person_74 (by decide) (pm_c1b rfl) rfl ?_
              refine pm_iloadi hG dX12_person_76 rfl ?_
              refine pm_ifN_ne (tgt := 87) hG dX12_person_78 rfl (by omega) (fun q => absurd q (by omega)) (fun _ => ?_)
              refine pm_aloadn hG dX12_person_81 rfl ?_
              refine pm_iconst (v := nI 1) hG dX12_person_82 (by decide) ?_
              refine pm_callV (As := [.int (nI 1)]) (rest := []) hG hR dX12_person_83 (lkX12_80 _ rfl) okV_X12_finds rfl rfl (m_finds (d := 2) (by decide) hn hz (by omega)) rfl rfl hdd (Nat.le_refl _) (Nat.le_refl _) (by decide) (pm_ki (fun v265 σ' cnt' hq => ?_))
              obtain ⟨⟨I266, A266, rfl⟩, rfl, fv265⟩ := hq
              exact pm_iret hG hF dX12_person_86 rfl (Nat.le_refl _) (Nat.le_refl _) ⟨_, rfl, ⟨_, _, _, rfl, hn, hr, KS.rf⟩, rfl⟩
        · refine pm_ifN_eq (tgt := 73) hG dX12_person_42 rfl (by omega) (fun q => absurd q (by omega)) (fun _ => ?_)
          refine pm_aloadn hG dX12_person_45 rfl ?_
          refine pm_iloadn hG dX12_person_46 rfl ?_
          refine pm_top (v := nI k10) ek10 ?_
          refine pm_bipush (v := nI 100) hG dX12_person_47 (by decide) ?_
          refine pm_iremM hG dX12_person_49 (by omega) (by decide) (by decide) ?_
          refine pm_iconst (v := nI 1) hG dX12_person_50 (by decide) ?_
          refine pm_isub hG dX12_person_51 ?_
          refine pm_iconst (v := nI 0) hG dX12_person_52 (by decide) ?_
          refine pm_iloadn hG dX12_person_53 rfl ?_
          refine pm_callV (As := [.int ((nI ((k10 % 100))) - (nI 1)), .int (nI 0), .int zb]) (rest := []) hG hR dX12_person_54 (lkX12_94 _ rfl) okV_X12_isParent rfl rfl (m_isParent (d := 2) (by decide) hn hz) rfl rfl hdd (Nat.le_refl _) (Nat.le_refl _) (by decide) (pm_ki (fun v267 σ' cnt' hq => ?_))
          obtain ⟨rfl, rfl, hq⟩ := hq
          rcases hq with rfl | ⟨rfl, ek268 | ⟨k268, hk268, ek268⟩⟩
          · refine pm_ifN_eq (tgt := 73) hG dX12_person_57 rfl (by omega) (fun _ => ?_) (fun q => absurd q (by omega))
            refine pm_iconst (v := nI 0) hG dX12_person_73 (by decide) ?_
            refine pm_istoreXi (loc' := [some (.ref (B + 54)), some (.int za), some (.int zb), some (.int zc), some (.int zd), some (.int (nI 0)), none, none]) hG dX12_person_74 (by decide) (pm_c1b rfl) rfl ?_
            refine pm_iloadi hG dX12_person_76 rfl ?_
            refine pm_ifN_ne (tgt := 87) hG dX12_person_78 rfl (by omega) (fun q => absurd q (by omega)) (fun _ => ?_)
            refine pm_aloadn hG dX12_person_81 rfl ?_
            refine pm_iconst (v := nI 1) hG dX12_person_82 (by decide) ?_
            refine pm_callV (As := [.int (nI 1)]) (rest := []) hG hR dX12_person_83 (lkX12_80 _ rfl) okV_X12_finds rfl rfl (m_finds (d := 2) (by decide) hn hz (by omega)) rfl rfl hdd (Nat.le_refl _) (Nat.le_refl _) (by decide) (pm_ki (fun v269 σ' cnt' hq => ?_))
            obtain ⟨⟨I270, A270, rfl⟩, rfl, fv269⟩ := hq
            exact pm_iret hG hF dX12_person_86 rfl (Nat.le_refl _) (Nat.le_refl _) ⟨_, rfl, ⟨_, _, _, rfl, hn, hr, KS.rf⟩, rfl⟩
          · refine pm_ifN_eq (tgt := 73) hG dX12_person_57 rfl (by omega) (fun q => absurd q (by omega)) (fun _ => ?_)
            refine pm_aloadn hG dX12_person_60 rfl ?_
            refine pm_iloadi hG dX12_person_61 rfl ?_
            obtain ⟨k271, hk271, ek271⟩ := KI.nat hn (show kd 0 = (1, 11, true) by decide)
            refine pm_callV (As := [.int zd]) (rest := []) hG hR dX12_person_63 (lkX12_84 _ rfl) okV_X12_isTown rfl rfl (m_isTown (d := 2) (by decide) ek271 (by omega)) rfl rfl hdd (Nat.le_refl _) (Nat.le_refl _) (by decide) (pm_ki (fun v272 σ' cnt' hq => ?_))
            obtain ⟨hq, rfl, rfl⟩ := hq
            rcases hq with ⟨rfl, k274, hk274, ek274⟩ | rfl
            · refine pm_ifN_eq (tgt := 73) hG dX12_person_66 rfl (by omega) (fun q => absurd q (by omega)) (fun _ => ?_)
              refine pm_iconst (v := nI 1) hG dX12_person_69 (by decide) ?_
              refine pm_goto (tgt := 74) hG dX12_person_70 rfl ?_
              refine pm_istoreXi (loc' := [some (.ref (B + 54)), some (.int za), some (.int zb), some (.int zc), some (.int zd), some (.int (nI 1)), none, none]) hG dX12_person_74 (by decide) (pm_c1b rfl) rfl ?_
              refine pm_iloadi hG dX12_person_76 rfl ?_
              refine pm_ifN_ne (tgt := 87) hG dX12_person_78 rfl (by omega) (fun _ => ?_) (fun q => absurd q (by omega))
              refine pm_aloadn hG dX12_person_87 rfl ?_
              refine pm_getf hG dX12_person_88 (flX12_7 _ rfl) rfl rfl ?_
              refine pm_iconst (v := nI 2) hG dX12_person_91 (by decide) ?_
              refine pm_ialdN hG dX12_person_92 rfl (by decide) (by omega) ?_
              obtain ⟨k275, hk275, ek275⟩ := KI.nat hn (show kd 2 = (1, 21, true) by decide)
              refine pm_top (v := nI k275) ek275 ?_
              refine pm_istoreXi (loc' := [some (.ref (B + 54)), some (.int za), some (.int zb), some (.int zc), some (.int zd), some (.int (nI 1)), some (.int (nI k275)), none]) hG dX12_person_93 (by decide) (pm_c1b rfl) rfl ?_
              refine pm_iloadi hG dX12_person_95 rfl ?_
              refine pm_bipush (v := nI 20) hG dX12_person_97 (by decide) ?_
              refine pm_icmpN_ne (tgt := 108) hG dX12_person_99 rfl (by omega) (by omega) (fun c276 => ?_) (fun c276 => ?_)
              · refine pm_aloadn hG dX12_person_108 rfl ?_
                refine pm_getf hG dX12_person_109 (flX12_7 _ rfl) rfl rfl ?_
                refine pm_iconst (v := nI 2) hG dX12_person_112 (by decide) ?_
                refine pm_dup2 hG dX12_person_113 rfl rfl ?_
                refine pm_ialdN hG dX12_person_114 rfl (by decide) (by omega) ?_
                refine pm_top (v := nI k275) ek275 ?_
                refine pm_iconst (v := nI 1) hG dX12_person_115 (by decide) ?_
                refine pm_iaddN (c := k275 + 1) hG dX12_person_116 (by omega) ?_
                refine pm_iastN hG dX12_person_117 rfl (by decide) (by omega) ?_
                refine mdn_now (fun n_277 en_277 => ?_)
                have hnn_277 := KI.w en_277 hn (okv_n (show kd 2 = (1, 21, true) by decide) (by omega))
                have hrn_277 := NRx.pers en_277 hr ek271 (by omega) ek275 (by omega)
                have ksn_277 := KS.w en_277 KS.rf (by unfold tS; omega)
                have e278 : n_277 8 = nI k4 := by rw [en_277, pk_un (by omega)]; exact ek4
                have e279 : n_277 0 = nI k271 := by rw [en_277, pk_un (by omega)]; exact ek271
                have e280 : n_277 2 = nI (k275 + 1) := by rw [en_277, pk_us]
                refine pm_iconst (v := nI 0) hG dX12_person_118 (by decide) ?_
                refine pm_istoreXi (loc' := [some (.ref (B + 54)), some (.int za), some (.int zb), some (.int zc), some (.int zd), some (.int (nI 1)), some (.int (nI k275)), some (.int (nI 0))]) hG dX12_person_119 (by decide) (pm_c1b rfl) rfl ?_
                refine pm_iloadi hG dX12_person_121 rfl ?_
                refine pm_bipush (v := nI 14) hG dX12_person_123 (by decide) ?_
                refine pm_icmpN_ge (tgt := 143) hG dX12_person_125 rfl (by omega) (by omega) (fun q => absurd q (by omega)) (fun _ => ?_)
                refine pm_aloadn hG dX12_person_128 rfl ?_
                refine pm_iloadi hG dX12_person_129 rfl ?_
                refine pm_iloadi hG dX12_person_131 rfl ?_
                refine pm_iconst (v := nI 0) hG dX12_person_133 (by decide) ?_
                refine pm_callV (As := [.int (nI k275), .int (nI 0), .int (nI 0)]) (rest := []) hG hR dX12_person_134 (lkX12_97 _ rfl) okV_X12_sets rfl rfl (m_sets (d := 2) (e := 14 * k275 + 110) (by omega) (by omega) (by omega)) rfl rfl hdd (Nat.le_refl _) (Nat.le_refl _) (by decide) (pm_kv (fun σ' cnt' hq => ?_))
                obtain ⟨rfl, rfl⟩ := hq
                obtain ⟨n_281, en_281⟩ : ∃ f : Nat → Int32, f = upd n_277 (14 * k275 + 110) (nI 0) := ⟨_, rfl⟩
                rw [← en_281]
                have hnn_281 := KI.w en_281 hnn_277 (okv_f (show kd (14 * k275 + 110) = (0, 0, false) from (kd_P (k := k275) (c := 0) (by omega) (by omega) (by decide))))
                have hrn_281 := NRx.w en_281 hrn_277 (by rw [(show kd (14 * k275 + 110) = (0, 0, false) from (kd_P (k := k275) (c := 0) (by omega) (by omega) (by decide)))])
                have ksn_281 := KS.w en_281 ksn_277 (by unfold tS; omega)
                have e282 : n_281 8 = nI k4 := by rw [en_281, pk_un (by omega)]; exact e278
                have e283 : n_281 0 = nI k271 := by rw [en_281, pk_un (by omega)]; exact e279
                have e284 : n_281 2 = nI (k275 + 1) := by rw [en_281, pk_un (by omega)]; exact e280
                have e285 : n_281 (14 * k275 + 110) = nI 0 := by rw [en_281, pk_us]
                refine pm_iincX (v := nI 1) (loc' := [some (.ref (B + 54)), some (.int za), some (.int zb), some (.int zc), some (.int zd), some (.int (nI 1)), some (.int (nI k275)), some (.int (nI 1))]) hG dX12_person_137 rfl (nI_1 _) (by decide) (pm_c1b rfl) rfl ?_
                refine pm_goto (tgt := 121) hG dX12_person_140 rfl ?_
                refine pm_iloadi hG dX12_person_121 rfl ?_
                refine pm_bipush (v := nI 14) hG dX12_person_123 (by decide) ?_
                refine pm_icmpN_ge (tgt := 143) hG dX12_person_125 rfl (by omega) (by omega) (fun q => absurd q (by omega)) (fun _ => ?_)
                refine pm_aloadn hG dX12_person_128 rfl ?_
                refine pm_iloadi hG dX12_person_129 rfl ?_
                refine pm_iloadi hG dX12_person_131 rfl ?_
                refine pm_iconst (v := nI 0) hG dX12_person_133 (by decide) ?_
                refine pm_callV (As := [.int (nI k275), .int (nI 1), .int (nI 0)]) (rest := []) hG hR dX12_person_134 (lkX12_97 _ rfl) okV_X12_sets rfl rfl (m_sets (d := 2) (e := 14 * k275 + 111) (by omega) (by omega) (by omega)) rfl rfl hdd (Nat.le_refl _) (Nat.le_refl _) (by decide) (pm_kv (fun σ' cnt' hq => ?_))
                obtain ⟨rfl, rfl⟩ := hq
                obtain ⟨n_286, en_286⟩ : ∃ f : Nat → Int32, f = upd n_281 (14 * k275 + 111) (nI 0) := ⟨_, rfl⟩
                rw [← en_286]
                have hnn_286 := KI.w en_286 hnn_281 (okv_f (show kd (14 * k275 + 111) = (0, 0, false) from (kd_P (k := k275) (c := 1) (by omega) (by omega) (by decide))))
                have hrn_286 := NRx.w en_286 hrn_281 (by rw [(show kd (14 * k275 + 111) = (0, 0, false) from (kd_P (k := k275) (c := 1) (by omega) (by omega) (by decide)))])
                have ksn_286 := KS.w en_286 ksn_281 (by unfold tS; omega)
                have e287 : n_286 8 = nI k4 := by rw [en_286, pk_un (by omega)]; exact e282
                have e288 : n_286 0 = nI k271 := by rw [en_286, pk_un (by omega)]; exact e283
                have e289 : n_286 2 = nI (k275 + 1) := by rw [en_286, pk_un (by omega)]; exact e284
                have e290 : n_286 (14 * k275 + 111) = nI 0 := by rw [en_286, pk_us]
                refine pm_iincX (v := nI 2) (loc' := [some (.ref (B + 54)), some (.int za), some (.int zb), some (.int zc), some (.int zd), some (.int (nI 1)), some (.int (nI k275)), some (.int (nI 2))]) hG dX12_person_137 rfl (nI_1 _) (by decide) (pm_c1b rfl) rfl ?_
                refine pm_goto (tgt := 121) hG dX12_person_140 rfl ?_
                refine pm_iloadi hG dX12_person_121 rfl ?_
                refine pm_bipush (v := nI 14) hG dX12_person_123 (by decide) ?_
                refine pm_icmpN_ge (tgt := 143) hG dX12_person_125 rfl (by omega) (by omega) (fun q => absurd q (by omega)) (fun _ => ?_)
                refine pm_aloadn hG dX12_person_128 rfl ?_
                refine pm_iloadi hG dX12_person_129 rfl ?_
                refine pm_iloadi hG dX12_person_131 rfl ?_
                refine pm_iconst (v := nI 0) hG dX12_person_133 (by decide) ?_
                refine pm_callV (As := [.int (nI k275), .int (nI 2), .int (nI 0)]) (rest := []) hG hR dX12_person_134 (lkX12_97 _ rfl) okV_X12_sets rfl rfl (m_sets (d := 2) (e := 14 * k275 + 112) (by omega) (by omega) (by omega)) rfl rfl hdd (Nat.le_refl _) (Nat.le_refl _) (by decide) (pm_kv (fun σ' cnt' hq => ?_))
                obtain ⟨rfl, rfl⟩ := hq
                obtain ⟨n_291, en_291⟩ : ∃ f : Nat → Int32, f = upd n_286 (14 * k275 + 112) (nI 0) := ⟨_, rfl⟩
                rw [← en_291]
                have hnn_291 := KI.w en_291 hnn_286 (okv_o (show kd (14 * k275 + 112) = (2, 20, false) from (kd_P (k := k275) (c := 2) (by omega) (by omega) (by decide))) (by omega))
                have hrn_291 := NRx.w en_291 hrn_286 (by rw [(show kd (14 * k275 + 112) = (2, 20, false) from (kd_P (k := k275) (c := 2) (by omega) (by omega) (by decide)))])
                have ksn_291 := KS.w en_291 ksn_286 (by unfold tS; omega)
                have e292 : n_291 8 = nI k4 := by rw [en_291, pk_un (by omega)]; exact e287
                have e293 : n_291 0 = nI k271 := by rw [en_291, pk_un (by omega)]; exact e288
                have e294 : n_291 2 = nI (k275 + 1) := by rw [en_291, pk_un (by omega)]; exact e289
                have e295 : n_291 (14 * k275 + 112) = nI 0 := by rw [en_291, pk_us]
                refine pm_iincX (v := nI 3) (loc' := [some (.ref (B + 54)), some (.int za), some (.int zb), some (.int zc), some (.int zd), some (.int (nI 1)), some (.int (nI k275)), some (.int (nI 3))]) hG dX12_person_137 rfl (nI_1 _) (by decide) (pm_c1b rfl) rfl ?_
                refine pm_goto (tgt := 121) hG dX12_person_140 rfl ?_
                refine pm_iloadi hG dX12_person_121 rfl ?_
                refine pm_bipush (v := nI 14) hG dX12_person_123 (by decide) ?_
                refine pm_icmpN_ge (tgt := 143) hG dX12_person_125 rfl (by omega) (by omega) (fun q => absurd q (by omega)) (fun _ => ?_)
                refine pm_aloadn hG dX12_person_128 rfl ?_
                refine pm_iloadi hG dX12_person_129 rfl ?_
                refine pm_iloadi hG dX12_person_131 rfl ?_
                refine pm_iconst (v := nI 0) hG dX12_person_133 (by decide) ?_
                refine pm_callV (As := [.int (nI k275), .int (nI 3), .int (nI 0)]) (rest := []) hG hR dX12_person_134 (lkX12_97 _ rfl) okV_X12_sets rfl rfl (m_sets (d := 2) (e := 14 * k275 + 113) (by omega) (by omega) (by omega)) rfl rfl hdd (Nat.le_refl _) (Nat.le_refl _) (by decide) (pm_kv (fun σ' cnt' hq => ?_))
                obtain ⟨rfl, rfl⟩ := hq
                obtain ⟨n_296, en_296⟩ : ∃ f : Nat → Int32, f = upd n_291 (14 * k275 + 113) (nI 0) := ⟨_, rfl⟩
                rw [← en_296]
                have hnn_296 := KI.w en_296 hnn_291 (okv_o (show kd (14 * k275 + 113) = (2, 20, false) from (kd_P (k := k275) (c := 3) (by omega) (by omega) (by decide))) (by omega))
                have hrn_296 := NRx.w en_296 hrn_291 (by rw [(show kd (14 * k275 + 113) = (2, 20, false) from (kd_P (k := k275) (c := 3) (by omega) (by omega) (by decide)))])
                have ksn_296 := KS.w en_296 ksn_291 (by unfold tS; omega)
                have e297 : n_296 8 = nI k4 := by rw [en_296, pk_un (by omega)]; exact e292
                have e298 : n_296 0 = nI k271 := by rw [en_296, pk_un (by omega)]; exact e293
                have e299 : n_296 2 = nI (k275 + 1) := by rw [en_296, pk_un (by omega)]; exact e294
                have e300 : n_296 (14 * k275 + 113) = nI 0 := by rw [en_296, pk_us]
                refine pm_iincX (v := nI 4) (loc' := [some (.ref (B + 54)), some (.int za), some (.int zb), some (.int zc), some (.int zd), some (.int (nI 1)), some (.int (nI k275)), some (.int (nI 4))]) hG dX12_person_137 rfl (nI_1 _) (by decide) (pm_c1b rfl) rfl ?_
                refine pm_goto (tgt := 121) hG dX12_person_140 rfl ?_
                refine pm_iloadi hG dX12_person_121 rfl ?_
                refine pm_bipush (v := nI 14) hG dX12_person_123 (by decide) ?_
                refine pm_icmpN_ge (tgt := 143) hG dX12_person_125 rfl (by omega) (by omega) (fun q => absurd q (by omega)) (fun _ => ?_)
                refine pm_aloadn hG dX12_person_128 rfl ?_
                refine pm_iloadi hG dX12_person_129 rfl ?_
                refine pm_iloadi hG dX12_person_131 rfl ?_
                refine pm_iconst (v := nI 0) hG dX12_person_133 (by decide) ?_
                refine pm_callV (As := [.int (nI k275), .int (nI 4), .int (nI 0)]) (rest := []) hG hR dX12_person_134 (lkX12_97 _ rfl) okV_X12_sets rfl rfl (m_sets (d := 2) (e := 14 * k275 + 114) (by omega) (by omega) (by omega)) rfl rfl hdd (Nat.le_refl _) (Nat.le_refl _) (by decide) (pm_kv (fun σ' cnt' hq => ?_))
                obtain ⟨rfl, rfl⟩ := hq
                obtain ⟨n_301, en_301⟩ : ∃ f : Nat → Int32, f = upd n_296 (14 * k275 + 114) (nI 0) := ⟨_, rfl⟩
                rw [← en_301]
                have hnn_301 := KI.w en_301 hnn_296 (okv_o (show kd (14 * k275 + 114) = (2, 10, false) from (kd_P (k := k275) (c := 4) (by omega) (by omega) (by decide))) (by omega))
                have hrn_301 := NRx.w en_301 hrn_296 (by rw [(show kd (14 * k275 + 114) = (2, 10, false) from (kd_P (k := k275) (c := 4) (by omega) (by omega) (by decide)))])
                have ksn_301 := KS.w en_301 ksn_296 (by unfold tS; omega)
                have e302 : n_301 8 = nI k4 := by rw [en_301, pk_un (by omega)]; exact e297
                have e303 : n_301 0 = nI k271 := by rw [en_301, pk_un (by omega)]; exact e298
                have e304 : n_301 2 = nI (k275 + 1) := by rw [en_301, pk_un (by omega)]; exact e299
                have e305 : n_301 (14 * k275 + 114) = nI 0 := by rw [en_301, pk_us]
                refine pm_iincX (v := nI 5) (loc' := [some (.ref (B + 54)), some (.int za), some (.int zb), some (.int zc), some (.int zd), some (.int (nI 1)), some (.int (nI k275)), some (.int (nI 5))]) hG dX12_person_137 rfl (nI_1 _) (by decide) (pm_c1b rfl) rfl ?_
                refine pm_goto (tgt := 121) hG dX12_person_140 rfl ?_
                refine pm_iloadi hG dX12_person_121 rfl ?_
                refine pm_bipush (v := nI 14) hG dX12_person_123 (by decide) ?_
                refine pm_icmpN_ge (tgt := 143) hG dX12_person_125 rfl (by omega) (by omega) (fun q => absurd q (by omega)) (fun _ => ?_)
                refine pm_aloadn hG dX12_person_128 rfl ?_
                refine pm_iloadi hG dX12_person_129 rfl ?_
                refine pm_iloadi hG dX12_person_131 rfl ?_
                refine pm_iconst (v := nI 0) hG dX12_person_133 (by decide) ?_
                refine pm_callV (As := [.int (nI k275), .int (nI 5), .int (nI 0)]) (rest := []) hG hR dX12_person_134 (lkX12_97 _ rfl) okV_X12_sets rfl rfl (m_sets (d := 2) (e := 14 * k275 + 115) (by omega) (by omega) (by omega)) rfl rfl hdd (Nat.le_refl _) (Nat.le_refl _) (by decide) (pm_kv (fun σ' cnt' hq => ?_))
                obtain ⟨rfl, rfl⟩ := hq
                obtain ⟨n_306, en_306⟩ : ∃ f : Nat → Int32, f = upd n_301 (14 * k275 + 115) (nI 0) := ⟨_, rfl⟩
                rw [← en_306]
                have hnn_306 := KI.w en_306 hnn_301 (okv_n (show kd (14 * k275 + 115) = (1, 10, false) from (kd_P (k := k275) (c := 5) (by omega) (by omega) (by decide))) (by omega))
                have hrn_306 := NRx.w en_306 hrn_301 (by rw [(show kd (14 * k275 + 115) = (1, 10, false) from (kd_P (k := k275) (c := 5) (by omega) (by omega) (by decide)))])
                have ksn_306 := KS.w en_306 ksn_301 (by unfold tS; omega)
                have e307 : n_306 8 = nI k4 := by rw [en_306, pk_un (by omega)]; exact e302
                have e308 : n_306 0 = nI k271 := by rw [en_306, pk_un (by omega)]; exact e303
                have e309 : n_306 2 = nI (k275 + 1) := by rw [en_306, pk_un (by omega)]; exact e304
                have e310 : n_306 (14 * k275 + 115) = nI 0 := by rw [en_306, pk_us]
                refine pm_iincX (v := nI 6) (loc' := [some (.ref (B + 54)), some (.int za), some (.int zb), some (.int zc), some (.int zd), some (.int (nI 1)), some (.int (nI k275)), some (.int (nI 6))]) hG dX12_person_137 rfl (nI_1 _) (by decide) (pm_c1b rfl) rfl ?_
                refine pm_goto (tgt := 121) hG dX12_person_140 rfl ?_
                refine pm_iloadi hG dX12_person_121 rfl ?_
                refine pm_bipush (v := nI 14) hG dX12_person_123 (by decide) ?_
                refine pm_icmpN_ge (tgt := 143) hG dX12_person_125 rfl (by omega) (by omega) (fun q => absurd q (by omega)) (fun _ => ?_)
                refine pm_aloadn hG dX12_person_128 rfl ?_
                refine pm_iloadi hG dX12_person_129 rfl ?_
                refine pm_iloadi hG dX12_person_131 rfl ?_
                refine pm_iconst (v := nI 0) hG dX12_person_133 (by decide) ?_
                refine pm_callV (As := [.int (nI k275), .int (nI 6), .int (nI 0)]) (rest := []) hG hR dX12_person_134 (lkX12_97 _ rfl) okV_X12_sets rfl rfl (m_sets (d := 2) (e := 14 * k275 + 116) (by omega) (by omega) (by omega)) rfl rfl hdd (Nat.le_refl _) (Nat.le_refl _) (by decide) (pm_kv (fun σ' cnt' hq => ?_))
                obtain ⟨rfl, rfl⟩ := hq
                obtain ⟨n_311, en_311⟩ : ∃ f : Nat → Int32, f = upd n_306 (14 * k275 + 116) (nI 0) := ⟨_, rfl⟩
                rw [← en_311]
                have hnn_311 := KI.w en_311 hnn_306 (okv_f (show kd (14 * k275 + 116) = (0, 0, false) from (kd_P (k := k275) (c := 6) (by omega) (by omega) (by decide))))
                have hrn_311 := NRx.w en_311 hrn_306 (by rw [(show kd (14 * k275 + 116) = (0, 0, false) from (kd_P (k := k275) (c := 6) (by omega) (by omega) (by decide)))])
                have ksn_311 := KS.w en_311 ksn_306 (by unfold tS; omega)
                have e312 : n_311 8 = nI k4 := by rw [en_311, pk_un (by omega)]; exact e307
                have e313 : n_311 0 = nI k271 := by rw [en_311, pk_un (by omega)]; exact e308
                have e314 : n_311 2 = nI (k275 + 1) := by rw [en_311, pk_un (by omega)]; exact e309
                have e315 : n_311 (14 * k275 + 116) = nI 0 := by rw [en_311, pk_us]
                refine pm_iincX (v := nI 7) (loc' := [some (.ref (B + 54)), some (.int za), some (.int zb), some (.int zc), some (.int zd), some (.int (nI 1)), some (.int (nI k275)), some (.int (nI 7))]) hG dX12_person_137 rfl (nI_1 _) (by decide) (pm_c1b rfl) rfl ?_
                refine pm_goto (tgt := 121) hG dX12_person_140 rfl ?_
                refine pm_iloadi hG dX12_person_121 rfl ?_
                refine pm_bipush (v := nI 14) hG dX12_person_123 (by decide) ?_
                refine pm_icmpN_ge (tgt := 143) hG dX12_person_125 rfl (by omega) (by omega) (fun q => absurd q (by omega)) (fun _ => ?_)
                refine pm_aloadn hG dX12_person_128 rfl ?_
                refine pm_iloadi hG dX12_person_129 rfl ?_
                refine pm_iloadi hG dX12_person_131 rfl ?_
                refine pm_iconst (v := nI 0) hG dX12_person_133 (by decide) ?_
                refine pm_callV (As := [.int (nI k275), .int (nI 7), .int (nI 0)]) (rest := []) hG hR dX12_person_134 (lkX12_97 _ rfl) okV_X12_sets rfl rfl (m_sets (d := 2) (e := 14 * k275 + 117) (by omega) (by omega) (by omega)) rfl rfl hdd (Nat.le_refl _) (Nat.le_refl _) (by decide) (pm_kv (fun σ' cnt' hq => ?_))
                obtain ⟨rfl, rfl⟩ := hq
                obtain ⟨n_316, en_316⟩ : ∃ f : Nat → Int32, f = upd n_311 (14 * k275 + 117) (nI 0) := ⟨_, rfl⟩
                rw [← en_316]
                have hnn_316 := KI.w en_316 hnn_311 (okv_f (show kd (14 * k275 + 117) = (0, 0, false) from (kd_P (k := k275) (c := 7) (by omega) (by omega) (by decide))))
                have hrn_316 := NRx.w en_316 hrn_311 (by rw [(show kd (14 * k275 + 117) = (0, 0, false) from (kd_P (k := k275) (c := 7) (by omega) (by omega) (by decide)))])
                have ksn_316 := KS.w en_316 ksn_311 (by unfold tS; omega)
                have e317 : n_316 8 = nI k4 := by rw [en_316, pk_un (by omega)]; exact e312
                have e318 : n_316 0 = nI k271 := by rw [en_316, pk_un (by omega)]; exact e313
                have e319 : n_316 2 = nI (k275 + 1) := by rw [en_316, pk_un (by omega)]; exact e314
                have e320 : n_316 (14 * k275 + 117) = nI 0 := by rw [en_316, pk_us]
                refine pm_iincX (v := nI 8) (loc' := [some (.ref (B + 54)), some (.int za), some (.int zb), some (.int zc), some (.int zd), some (.int (nI 1)), some (.int (nI k275)), some (.int (nI 8))]) hG dX12_person_137 rfl (nI_1 _) (by decide) (pm_c1b rfl) rfl ?_
                refine pm_goto (tgt := 121) hG dX12_person_140 rfl ?_
                refine pm_iloadi hG dX12_person_121 rfl ?_
                refine pm_bipush (v := nI 14) hG dX12_person_123 (by decide) ?_
                refine pm_icmpN_ge (tgt := 143) hG dX12_person_125 rfl (by omega) (by omega) (fun q => absurd q (by omega)) (fun _ => ?_)
                refine pm_aloadn hG dX12_person_128 rfl ?_
                refine pm_iloadi hG dX12_person_129 rfl ?_
                refine pm_iloadi hG dX12_person_131 rfl ?_
                refine pm_iconst (v := nI 0) hG dX12_person_133 (by decide) ?_
                refine pm_callV (As := [.int (nI k275), .int (nI 8), .int (nI 0)]) (rest := []) hG hR dX12_person_134 (lkX12_97 _ rfl) okV_X12_sets rfl rfl (m_sets (d := 2) (e := 14 * k275 + 118) (by omega) (by omega) (by omega)) rfl rfl hdd (Nat.le_refl _) (Nat.le_refl _) (by decide) (pm_kv (fun σ' cnt' hq => ?_))
                obtain ⟨rfl, rfl⟩ := hq
                obtain ⟨n_321, en_321⟩ : ∃ f : Nat → Int32, f = upd n_316 (14 * k275 + 118) (nI 0) := ⟨_, rfl⟩
                rw [← en_321]
                have hnn_321 := KI.w en_321 hnn_316 (okv_f (show kd (14 * k275 + 118) = (0, 0, false) from (kd_P (k := k275) (c := 8) (by omega) (by omega) (by decide))))
                have hrn_321 := NRx.w en_321 hrn_316 (by rw [(show kd (14 * k275 + 118) = (0, 0, false) from (kd_P (k := k275) (c := 8) (by omega) (by omega) (by decide)))])
                have ksn_321 := KS.w en_321 ksn_316 (by unfold tS; omega)
                have e322 : n_321 8 = nI k4 := by rw [en_321, pk_un (by omega)]; exact e317
                have e323 : n_321 0 = nI k271 := by rw [en_321, pk_un (by omega)]; exact e318
                have e324 : n_321 2 = nI (k275 + 1) := by rw [en_321, pk_un (by omega)]; exact e319
                have e325 : n_321 (14 * k275 + 118) = nI 0 := by rw [en_321, pk_us]
                refine pm_iincX (v := nI 9) (loc' := [some (.ref (B + 54)), some (.int za), some (.int zb), some (.int zc), some (.int zd), some (.int (nI 1)), some (.int (nI k275)), some (.int (nI 9))]) hG dX12_person_137 rfl (nI_1 _) (by decide) (pm_c1b rfl) rfl ?_
                refine pm_goto (tgt := 121) hG dX12_person_140 rfl ?_
                refine pm_iloadi hG dX12_person_121 rfl ?_
                refine pm_bipush (v := nI 14) hG dX12_person_123 (by decide) ?_
                refine pm_icmpN_ge (tgt := 143) hG dX12_person_125 rfl (by omega) (by omega) (fun q => absurd q (by omega)) (fun _ => ?_)
                refine pm_aloadn hG dX12_person_128 rfl ?_
                refine pm_iloadi hG dX12_person_129 rfl ?_
                refine pm_iloadi hG dX12_person_131 rfl ?_
                refine pm_iconst (v := nI 0) hG dX12_person_133 (by decide) ?_
                refine pm_callV (As := [.int (nI k275), .int (nI 9), .int (nI 0)]) (rest := []) hG hR dX12_person_134 (lkX12_97 _ rfl) okV_X12_sets rfl rfl (m_sets (d := 2) (e := 14 * k275 + 119) (by omega) (by omega) (by omega)) rfl rfl hdd (Nat.le_refl _) (Nat.le_refl _) (by decide) (pm_kv (fun σ' cnt' hq => ?_))
                obtain ⟨rfl, rfl⟩ := hq
                obtain ⟨n_326, en_326⟩ : ∃ f : Nat → Int32, f = upd n_321 (14 * k275 + 119) (nI 0) := ⟨_, rfl⟩
                rw [← en_326]
                have hnn_326 := KI.w en_326 hnn_321 (okv_o (show kd (14 * k275 + 119) = (2, 2001, false) from (kd_P (k := k275) (c := 9) (by omega) (by omega) (by decide))) (by omega))
                have hrn_326 := NRx.w en_326 hrn_321 (by rw [(show kd (14 * k275 + 119) = (2, 2001, false) from (kd_P (k := k275) (c := 9) (by omega) (by omega) (by decide)))])
                have ksn_326 := KS.w en_326 ksn_321 (by unfold tS; omega)
                have e327 : n_326 8 = nI k4 := by rw [en_326, pk_un (by omega)]; exact e322
                have e328 : n_326 0 = nI k271 := by rw [en_326, pk_un (by omega)]; exact e323
                have e329 : n_326 2 = nI (k275 + 1) := by rw [en_326, pk_un (by omega)]; exact e324
                have e330 : n_326 (14 * k275 + 119) = nI 0 := by rw [en_326, pk_us]
                refine pm_iincX (v := nI 10) (loc' := [some (.ref (B + 54)), some (.int za), some (.int zb), some (.int zc), some (.int zd), some (.int (nI 1)), some (.int (nI k275)), some (.int (nI 10))]) hG dX12_person_137 rfl (nI_1 _) (by decide) (pm_c1b rfl) rfl ?_
                refine pm_goto (tgt := 121) hG dX12_person_140 rfl ?_
                refine pm_iloadi hG dX12_person_121 rfl ?_
                refine pm_bipush (v := nI 14) hG dX12_person_123 (by decide) ?_
                refine pm_icmpN_ge (tgt := 143) hG dX12_person_125 rfl (by omega) (by omega) (fun q => absurd q (by omega)) (fun _ => ?_)
                refine pm_aloadn hG dX12_person_128 rfl ?_
                refine pm_iloadi hG dX12_person_129 rfl ?_
                refine pm_iloadi hG dX12_person_131 rfl ?_
                refine pm_iconst (v := nI 0) hG dX12_person_133 (by decide) ?_
                refine pm_callV (As := [.int (nI k275), .int (nI 10), .int (nI 0)]) (rest := []) hG hR dX12_person_134 (lkX12_97 _ rfl) okV_X12_sets rfl rfl (m_sets (d := 2) (e := 14 * k275 + 120) (by omega) (by omega) (by omega)) rfl rfl hdd (Nat.le_refl _) (Nat.le_refl _) (by decide) (pm_kv (fun σ' cnt' hq => ?_))
                obtain ⟨rfl, rfl⟩ := hq
                obtain ⟨n_331, en_331⟩ : ∃ f : Nat → Int32, f = upd n_326 (14 * k275 + 120) (nI 0) := ⟨_, rfl⟩
                rw [← en_331]
                have hnn_331 := KI.w en_331 hnn_326 (okv_f (show kd (14 * k275 + 120) = (0, 0, false) from (kd_P (k := k275) (c := 10) (by omega) (by omega) (by decide))))
                have hrn_331 := NRx.w en_331 hrn_326 (by rw [(show kd (14 * k275 + 120) = (0, 0, false) from (kd_P (k := k275) (c := 10) (by omega) (by omega) (by decide)))])
                have ksn_331 := KS.w en_331 ksn_326 (by unfold tS; omega)
                have e332 : n_331 8 = nI k4 := by rw [en_331, pk_un (by omega)]; exact e327
                have e333 : n_331 0 = nI k271 := by rw [en_331, pk_un (by omega)]; exact e328
                have e334 : n_331 2 = nI (k275 + 1) := by rw [en_331, pk_un (by omega)]; exact e329
                have e335 : n_331 (14 * k275 + 120) = nI 0 := by rw [en_331, pk_us]
                refine pm_iincX (v := nI 11) (loc' := [some (.ref (B + 54)), some (.int za), some (.int zb), some (.int zc), some (.int zd), some (.int (nI 1)), some (.int (nI k275)), some (.int (nI 11))]) hG dX12_person_137 rfl (nI_1 _) (by decide) (pm_c1b rfl) rfl ?_
                refine pm_goto (tgt := 121) hG dX12_person_140 rfl ?_
                refine pm_iloadi hG dX12_person_121 rfl ?_
                refine pm_bipush (v := nI 14) hG dX12_person_123 (by decide) ?_
                refine pm_icmpN_ge (tgt := 143) hG dX12_person_125 rfl (by omega) (by omega) (fun q => absurd q (by omega)) (fun _ => ?_)
                refine pm_aloadn hG dX12_person_128 rfl ?_
                refine pm_iloadi hG dX12_person_129 rfl ?_
                refine pm_iloadi hG dX12_person_131 rfl ?_
                refine pm_iconst (v := nI 0) hG dX12_person_133 (by decide) ?_
                refine pm_callV (As := [.int (nI k275), .int (nI 11), .int (nI 0)]) (rest := []) hG hR dX12_person_134 (lkX12_97 _ rfl) okV_X12_sets rfl rfl (m_sets (d := 2) (e := 14 * k275 + 121) (by omega) (by omega) (by omega)) rfl rfl hdd (Nat.le_refl _) (Nat.le_refl _) (by decide) (pm_kv (fun σ' cnt' hq => ?_))
                obtain ⟨rfl, rfl⟩ := hq
                obtain ⟨n_336, en_336⟩ : ∃ f : Nat → Int32, f = upd n_331 (14 * k275 + 121) (nI 0) := ⟨_, rfl⟩
                rw [← en_336]
                have hnn_336 := KI.w en_336 hnn_331 (okv_n (show kd (14 * k275 + 121) = (1, 2, true) from (kd_P (k := k275) (c := 11) (by omega) (by omega) (by decide))) (by omega))
                have hrn_336 := NRx.unseat (p := k275) en_336 hrn_331 (by omega)
                have ksn_336 := KS.w en_336 ksn_331 (by unfold tS; omega)
                have e337 : n_336 8 = nI k4 := by rw [en_336, pk_un (by omega)]; exact e332
                have e338 : n_336 0 = nI k271 := by rw [en_336, pk_un (by omega)]; exact e333
                have e339 : n_336 2 = nI (k275 + 1) := by rw [en_336, pk_un (by omega)]; exact e334
                have e340 : n_336 (14 * k275 + 121) = nI 0 := by rw [en_336, pk_us]
                refine pm_iincX (v := nI 12) (loc' := [some (.ref (B + 54)), some (.int za), some (.int zb), some (.int zc), some (.int zd), some (.int (nI 1)), some (.int (nI k275)), some (.int (nI 12))]) hG dX12_person_137 rfl (nI_1 _) (by decide) (pm_c1b rfl) rfl ?_
                refine pm_goto (tgt := 121) hG dX12_person_140 rfl ?_
                refine pm_iloadi hG dX12_person_121 rfl ?_
                refine pm_bipush (v := nI 14) hG dX12_person_123 (by decide) ?_
                refine pm_icmpN_ge (tgt := 143) hG dX12_person_125 rfl (by omega) (by omega) (fun q => absurd q (by omega)) (fun _ => ?_)
                refine pm_aloadn hG dX12_person_128 rfl ?_
                refine pm_iloadi hG dX12_person_129 rfl ?_
                refine pm_iloadi hG dX12_person_131 rfl ?_
                refine pm_iconst (v := nI 0) hG dX12_person_133 (by decide) ?_
                refine pm_callV (As := [.int (nI k275), .int (nI 12), .int (nI 0)]) (rest := []) hG hR dX12_person_134 (lkX12_97 _ rfl) okV_X12_sets rfl rfl (m_sets (d := 2) (e := 14 * k275 + 122) (by omega) (by omega) (by omega)) rfl rfl hdd (Nat.le_refl _) (Nat.le_refl _) (by decide) (pm_kv (fun σ' cnt' hq => ?_))
                obtain ⟨rfl, rfl⟩ := hq
                obtain ⟨n_341, en_341⟩ : ∃ f : Nat → Int32, f = upd n_336 (14 * k275 + 122) (nI 0) := ⟨_, rfl⟩
                rw [← en_341]
                have hnn_341 := KI.w en_341 hnn_336 (okv_f (show kd (14 * k275 + 122) = (0, 0, false) from (kd_P (k := k275) (c := 12) (by omega) (by omega) (by decide))))
                have hrn_341 := NRx.w en_341 hrn_336 (by rw [(show kd (14 * k275 + 122) = (0, 0, false) from (kd_P (k := k275) (c := 12) (by omega) (by omega) (by decide)))])
                have ksn_341 := KS.w en_341 ksn_336 (by unfold tS; omega)
                have e342 : n_341 8 = nI k4 := by rw [en_341, pk_un (by omega)]; exact e337
                have e343 : n_341 0 = nI k271 := by rw [en_341, pk_un (by omega)]; exact e338
                have e344 : n_341 2 = nI (k275 + 1) := by rw [en_341, pk_un (by omega)]; exact e339
                have e345 : n_341 (14 * k275 + 122) = nI 0 := by rw [en_341, pk_us]
                refine pm_iincX (v := nI 13) (loc' := [some (.ref (B + 54)), some (.int za), some (.int zb), some (.int zc), some (.int zd), some (.int (nI 1)), some (.int (nI k275)), some (.int (nI 13))]) hG dX12_person_137 rfl (nI_1 _) (by decide) (pm_c1b rfl) rfl ?_
                refine pm_goto (tgt := 121) hG dX12_person_140 rfl ?_
                refine pm_iloadi hG dX12_person_121 rfl ?_
                refine pm_bipush (v := nI 14) hG dX12_person_123 (by decide) ?_
                refine pm_icmpN_ge (tgt := 143) hG dX12_person_125 rfl (by omega) (by omega) (fun q => absurd q (by omega)) (fun _ => ?_)
                refine pm_aloadn hG dX12_person_128 rfl ?_
                refine pm_iloadi hG dX12_person_129 rfl ?_
                refine pm_iloadi hG dX12_person_131 rfl ?_
                refine pm_iconst (v := nI 0) hG dX12_person_133 (by decide) ?_
                refine pm_callV (As := [.int (nI k275), .int (nI 13), .int (nI 0)]) (rest := []) hG hR dX12_person_134 (lkX12_97 _ rfl) okV_X12_sets rfl rfl (m_sets (d := 2) (e := 14 * k275 + 123) (by omega) (by omega) (by omega)) rfl rfl hdd (Nat.le_refl _) (Nat.le_refl _) (by decide) (pm_kv (fun σ' cnt' hq => ?_))
                obtain ⟨rfl, rfl⟩ := hq
                obtain ⟨n_346, en_346⟩ : ∃ f : Nat → Int32, f = upd n_341 (14 * k275 + 123) (nI 0) := ⟨_, rfl⟩
                rw [← en_346]
                have hnn_346 := KI.w en_346 hnn_341 (okv_f (show kd (14 * k275 + 123) = (0, 0, false) from (kd_P (k := k275) (c := 13) (by omega) (by omega) (by decide))))
                have hrn_346 := NRx.w en_346 hrn_341 (by rw [(show kd (14 * k275 + 123) = (0, 0, false) from (kd_P (k := k275) (c := 13) (by omega) (by omega) (by decide)))])
                have ksn_346 := KS.w en_346 ksn_341 (by unfold tS; omega)
                have e347 : n_346 8 = nI k4 := by rw [en_346, pk_un (by omega)]; exact e342
                have e348 : n_346 0 = nI k271 := by rw [en_346, pk_un (by omega)]; exact e343
                have e349 : n_346 2 = nI (k275 + 1) := by rw [en_346, pk_un (by omega)]; exact e344
                have e350 : n_346 (14 * k275 + 123) = nI 0 := by rw [en_346, pk_us]
                refine pm_iincX (v := nI 14) (loc' := [some (.ref (B + 54)), some (.int za), some (.int zb), some (.int zc), some (.int zd), some (.int (nI 1)), some (.int (nI k275)), some (.int (nI 14))]) hG dX12_person_137 rfl (nI_1 _) (by decide) (pm_c1b rfl) rfl ?_
                refine pm_goto (tgt := 121) hG dX12_person_140 rfl ?_
                refine pm_iloadi hG dX12_person_121 rfl ?_
                refine pm_bipush (v := nI 14) hG dX12_person_123 (by decide) ?_
                refine pm_icmpN_ge (tgt := 143) hG dX12_person_125 rfl (by omega) (by omega) (fun _ => ?_) (fun q => absurd q (by omega))
                refine pm_aloadn hG dX12_person_143 rfl ?_
                refine pm_iloadi hG dX12_person_144 rfl ?_
                refine pm_iconst (v := nI 0) hG dX12_person_146 (by decide) ?_
                refine pm_iloadn hG dX12_person_147 rfl ?_
                refine pm_top (v := nI k3) ek3 ?_
                refine pm_callV (As := [.int (nI k275), .int (nI 0), .int (nI k3)]) (rest := []) hG hR dX12_person_148 (lkX12_97 _ rfl) okV_X12_sets rfl rfl (m_sets (d := 2) (e := 14 * k275 + 110) (by omega) (by omega) (by omega)) rfl rfl hdd (Nat.le_refl _) (Nat.le_refl _) (by decide) (pm_kv (fun σ' cnt' hq => ?_))
                obtain ⟨rfl, rfl⟩ := hq
                obtain ⟨n_351, en_351⟩ : ∃ f : Nat → Int32, f = upd n_346 (14 * k275 + 110) (nI k3) := ⟨_, rfl⟩
                rw [← en_351]
                have hnn_351 := KI.w en_351 hnn_346 (okv_f (show kd (14 * k275 + 110) = (0, 0, false) from (kd_P (k := k275) (c := 0) (by omega) (by omega) (by decide))))
                have hrn_351 := NRx.w en_351 hrn_346 (by rw [(show kd (14 * k275 + 110) = (0, 0, false) from (kd_P (k := k275) (c := 0) (by omega) (by omega) (by decide)))])
                have ksn_351 := KS.w en_351 ksn_346 (by unfold tS; omega)
                have e352 : n_351 8 = nI k4 := by rw [en_351, pk_un (by omega)]; exact e347
                have e353 : n_351 0 = nI k271 := by rw [en_351, pk_un (by omega)]; exact e348
                have e354 : n_351 2 = nI (k275 + 1) := by rw [en_351, pk_un (by omega)]; exact e349
                have e355 : n_351 (14 * k275 + 110) = nI k3 := by rw [en_351, pk_us]
                refine pm_aloadn hG dX12_person_151 rfl ?_
                refine pm_iloadi hG dX12_person_152 rfl ?_
                refine pm_iconst (v := nI 1) hG dX12_person_154 (by decide) ?_
                refine pm_iloadn hG dX12_person_155 rfl ?_
                refine pm_callV (As := [.int (nI k275), .int (nI 1), .int zb]) (rest := []) hG hR dX12_person_156 (lkX12_97 _ rfl) okV_X12_sets rfl rfl (m_sets (d := 2) (e := 14 * k275 + 111) (by omega) (by omega) (by omega)) rfl rfl hdd (Nat.le_refl _) (Nat.le_refl _) (by decide) (pm_kv (fun σ' cnt' hq => ?_))
                obtain ⟨rfl, rfl⟩ := hq
                obtain ⟨n_356, en_356⟩ : ∃ f : Nat → Int32, f = upd n_351 (14 * k275 + 111) zb := ⟨_, rfl⟩
                rw [← en_356]
                have hnn_356 := KI.w en_356 hnn_351 (okv_f (show kd (14 * k275 + 111) = (0, 0, false) from (kd_P (k := k275) (c := 1) (by omega) (by omega) (by decide))))
                have hrn_356 := NRx.w en_356 hrn_351 (by rw [(show kd (14 * k275 + 111) = (0, 0, false) from (kd_P (k := k275) (c := 1) (by omega) (by omega) (by decide)))])
                have ksn_356 := KS.w en_356 ksn_351 (by unfold tS; omega)
                have e357 : n_356 8 = nI k4 := by rw [en_356, pk_un (by omega)]; exact e352
                have e358 : n_356 0 = nI k271 := by rw [en_356, pk_un (by omega)]; exact e353
                have e359 : n_356 2 = nI (k275 + 1) := by rw [en_356, pk_un (by omega)]; exact e354
                have e360 : n_356 (14 * k275 + 111) = zb := by rw [en_356, pk_us]
                refine pm_aloadn hG dX12_person_159 rfl ?_
                refine pm_iloadi hG dX12_person_160 rfl ?_
                refine pm_iconst (v := nI 2) hG dX12_person_162 (by decide) ?_
                refine pm_iloadn hG dX12_person_163 rfl ?_
                refine pm_top (v := nI k10) ek10 ?_
                refine pm_bipush (v := nI 100) hG dX12_person_164 (by decide) ?_
                refine pm_idivN hG dX12_person_166 (by omega) (by decide) (by decide) ?_
                refine pm_iconst (v := nI 1) hG dX12_person_167 (by decide) ?_
                refine pm_isub hG dX12_person_168 ?_
                refine pm_top (v := nI k12) ek12 ?_
                refine pm_callV (As := [.int (nI k275), .int (nI 2), .int (nI k12)]) (rest := []) hG hR dX12_person_169 (lkX12_97 _ rfl) okV_X12_sets rfl rfl (m_sets (d := 2) (e := 14 * k275 + 112) (by omega) (by omega) (by omega)) rfl rfl hdd (Nat.le_refl _) (Nat.le_refl _) (by decide) (pm_kv (fun σ' cnt' hq => ?_))
                obtain ⟨rfl, rfl⟩ := hq
                obtain ⟨n_361, en_361⟩ : ∃ f : Nat → Int32, f = upd n_356 (14 * k275 + 112) (nI k12) := ⟨_, rfl⟩
                rw [← en_361]
                have hnn_361 := KI.w en_361 hnn_356 (okv_o (show kd (14 * k275 + 112) = (2, 20, false) from (kd_P (k := k275) (c := 2) (by omega) (by omega) (by decide))) (by omega))
                have hrn_361 := NRx.w en_361 hrn_356 (by rw [(show kd (14 * k275 + 112) = (2, 20, false) from (kd_P (k := k275) (c := 2) (by omega) (by omega) (by decide)))])
                have ksn_361 := KS.w en_361 ksn_356 (by unfold tS; omega)
                have e362 : n_361 8 = nI k4 := by rw [en_361, pk_un (by omega)]; exact e357
                have e363 : n_361 0 = nI k271 := by rw [en_361, pk_un (by omega)]; exact e358
                have e364 : n_361 2 = nI (k275 + 1) := by rw [en_361, pk_un (by omega)]; exact e359
                have e365 : n_361 (14 * k275 + 112) = nI k12 := by rw [en_361, pk_us]
                refine pm_aloadn hG dX12_person_172 rfl ?_
                refine pm_iloadi hG dX12_person_173 rfl ?_
                refine pm_iconst (v := nI 3) hG dX12_person_175 (by decide) ?_
                refine pm_iloadn hG dX12_person_176 rfl ?_
                refine pm_top (v := nI k10) ek10 ?_
                refine pm_bipush (v := nI 100) hG dX12_person_177 (by decide) ?_
                refine pm_iremM hG dX12_person_179 (by omega) (by decide) (by decide) ?_
                refine pm_iconst (v := nI 1) hG dX12_person_180 (by decide) ?_
                refine pm_isub hG dX12_person_181 ?_
                refine pm_top (v := (-1)) ek268 ?_
                refine pm_callV (As := [.int (nI k275), .int (nI 3), .int (-1)]) (rest := []) hG hR dX12_person_182 (lkX12_97 _ rfl) okV_X12_sets rfl rfl (m_sets (d := 2) (e := 14 * k275 + 113) (by omega) (by omega) (by omega)) rfl rfl hdd (Nat.le_refl _) (Nat.le_refl _) (by decide) (pm_kv (fun σ' cnt' hq => ?_))
                obtain ⟨rfl, rfl⟩ := hq
                obtain ⟨n_366, en_366⟩ : ∃ f : Nat → Int32, f = upd n_361 (14 * k275 + 113) (-1) := ⟨_, rfl⟩
                rw [← en_366]
                have hnn_366 := KI.w en_366 hnn_361 (okv_m (show kd (14 * k275 + 113) = (2, 20, false) from (kd_P (k := k275) (c := 3) (by omega) (by omega) (by decide))))
                have hrn_366 := NRx.w en_366 hrn_361 (by rw [(show kd (14 * k275 + 113) = (2, 20, false) from (kd_P (k := k275) (c := 3) (by omega) (by omega) (by decide)))])
                have ksn_366 := KS.w en_366 ksn_361 (by unfold tS; omega)
                have e367 : n_366 8 = nI k4 := by rw [en_366, pk_un (by omega)]; exact e362
                have e368 : n_366 0 = nI k271 := by rw [en_366, pk_un (by omega)]; exact e363
                have e369 : n_366 2 = nI (k275 + 1) := by rw [en_366, pk_un (by omega)]; exact e364
                have e370 : n_366 (14 * k275 + 113) = (-1) := by rw [en_366, pk_us]
                refine pm_aloadn hG dX12_person_185 rfl ?_
                refine pm_iloadi hG dX12_person_186 rfl ?_
                refine pm_iconst (v := nI 4) hG dX12_person_188 (by decide) ?_
                refine pm_iloadi hG dX12_person_189 rfl ?_
                refine pm_top (v := nI k274) ek274 ?_
                refine pm_callV (As := [.int (nI k275), .int (nI 4), .int (nI k274)]) (rest := []) hG hR dX12_person_191 (lkX12_97 _ rfl) okV_X12_sets rfl rfl (m_sets (d := 2) (e := 14 * k275 + 114) (by omega) (by omega) (by omega)) rfl rfl hdd (Nat.le_refl _) (Nat.le_refl _) (by decide) (pm_kv (fun σ' cnt' hq => ?_))
                obtain ⟨rfl, rfl⟩ := hq
                obtain ⟨n_371, en_371⟩ : ∃ f : Nat → Int32, f = upd n_366 (14 * k275 + 114) (nI k274) := ⟨_, rfl⟩
                rw [← en_371]
                have hnn_371 := KI.w en_371 hnn_366 (okv_o (show kd (14 * k275 + 114) = (2, 10, false) from (kd_P (k := k275) (c := 4) (by omega) (by omega) (by decide))) (by omega))
                have hrn_371 := NRx.w en_371 hrn_366 (by rw [(show kd (14 * k275 + 114) = (2, 10, false) from (kd_P (k := k275) (c := 4) (by omega) (by omega) (by decide)))])
                have ksn_371 := KS.w en_371 ksn_366 (by unfold tS; omega)
                have e372 : n_371 8 = nI k4 := by rw [en_371, pk_un (by omega)]; exact e367
                have e373 : n_371 0 = nI k271 := by rw [en_371, pk_un (by omega)]; exact e368
                have e374 : n_371 2 = nI (k275 + 1) := by rw [en_371, pk_un (by omega)]; exact e369
                have e375 : n_371 (14 * k275 + 114) = nI k274 := by rw [en_371, pk_us]
                refine pm_aloadn hG dX12_person_194 rfl ?_
                refine pm_iloadi hG dX12_person_195 rfl ?_
                refine pm_bipush (v := nI 9) hG dX12_person_197 (by decide) ?_
                refine pm_iconst (v := (-1)) hG dX12_person_199 (by decide) ?_
                refine pm_callV (As := [.int (nI k275), .int (nI 9), .int (-1)]) (rest := []) hG hR dX12_person_200 (lkX12_97 _ rfl) okV_X12_sets rfl rfl (m_sets (d := 2) (e := 14 * k275 + 119) (by omega) (by omega) (by omega)) rfl rfl hdd (Nat.le_refl _) (Nat.le_refl _) (by decide) (pm_kv (fun σ' cnt' hq => ?_))
                obtain ⟨rfl, rfl⟩ := hq
                obtain ⟨n_376, en_376⟩ : ∃ f : Nat → Int32, f = upd n_371 (14 * k275 + 119) (-1) := ⟨_, rfl⟩
                rw [← en_376]
                have hnn_376 := KI.w en_376 hnn_371 (okv_m (show kd (14 * k275 + 119) = (2, 2001, false) from (kd_P (k := k275) (c := 9) (by omega) (by omega) (by decide))))
                have hrn_376 := NRx.w en_376 hrn_371 (by rw [(show kd (14 * k275 + 119) = (2, 2001, false) from (kd_P (k := k275) (c := 9) (by omega) (by omega) (by decide)))])
                have ksn_376 := KS.w en_376 ksn_371 (by unfold tS; omega)
                have e377 : n_376 8 = nI k4 := by rw [en_376, pk_un (by omega)]; exact e372
                have e378 : n_376 0 = nI k271 := by rw [en_376, pk_un (by omega)]; exact e373
                have e379 : n_376 2 = nI (k275 + 1) := by rw [en_376, pk_un (by omega)]; exact e374
                have e380 : n_376 (14 * k275 + 119) = (-1) := by rw [en_376, pk_us]
                refine pm_aloadn hG dX12_person_203 rfl ?_
                refine pm_iloadi hG dX12_person_204 rfl ?_
                refine pm_bipush (v := nI 10) hG dX12_person_206 (by decide) ?_
                refine pm_iconst (v := (-1)) hG dX12_person_208 (by decide) ?_
                refine pm_callV (As := [.int (nI k275), .int (nI 10), .int (-1)]) (rest := []) hG hR dX12_person_209 (lkX12_97 _ rfl) okV_X12_sets rfl rfl (m_sets (d := 2) (e := 14 * k275 + 120) (by omega) (by omega) (by omega)) rfl rfl hdd (Nat.le_refl _) (Nat.le_refl _) (by decide) (pm_kv (fun σ' cnt' hq => ?_))
                obtain ⟨rfl, rfl⟩ := hq
                obtain ⟨n_381, en_381⟩ : ∃ f : Nat → Int32, f = upd n_376 (14 * k275 + 120) (-1) := ⟨_, rfl⟩
                rw [← en_381]
                have hnn_381 := KI.w en_381 hnn_376 (okv_f (show kd (14 * k275 + 120) = (0, 0, false) from (kd_P (k := k275) (c := 10) (by omega) (by omega) (by decide))))
                have hrn_381 := NRx.w en_381 hrn_376 (by rw [(show kd (14 * k275 + 120) = (0, 0, false) from (kd_P (k := k275) (c := 10) (by omega) (by omega) (by decide)))])
                have ksn_381 := KS.w en_381 ksn_376 (by unfold tS; omega)
                have e382 : n_381 8 = nI k4 := by rw [en_381, pk_un (by omega)]; exact e377
                have e383 : n_381 0 = nI k271 := by rw [en_381, pk_un (by omega)]; exact e378
                have e384 : n_381 2 = nI (k275 + 1) := by rw [en_381, pk_un (by omega)]; exact e379
                have e385 : n_381 (14 * k275 + 120) = (-1) := by rw [en_381, pk_us]
                refine pm_aloadn hG dX12_person_212 rfl ?_
                refine pm_iloadi hG dX12_person_213 rfl ?_
                refine pm_bipush (v := nI 12) hG dX12_person_215 (by decide) ?_
                refine pm_iconst (v := nI 1) hG dX12_person_217 (by decide) ?_
                refine pm_callV (As := [.int (nI k275), .int (nI 12), .int (nI 1)]) (rest := []) hG hR dX12_person_218 (lkX12_97 _ rfl) okV_X12_sets rfl rfl (m_sets (d := 2) (e := 14 * k275 + 122) (by omega) (by omega) (by omega)) rfl rfl hdd (Nat.le_refl _) (Nat.le_refl _) (by decide) (pm_kv (fun σ' cnt' hq => ?_))
                obtain ⟨rfl, rfl⟩ := hq
                obtain ⟨n_386, en_386⟩ : ∃ f : Nat → Int32, f = upd n_381 (14 * k275 + 122) (nI 1) := ⟨_, rfl⟩
                rw [← en_386]
                have hnn_386 := KI.w en_386 hnn_381 (okv_f (show kd (14 * k275 + 122) = (0, 0, false) from (kd_P (k := k275) (c := 12) (by omega) (by omega) (by decide))))
                have hrn_386 := NRx.w en_386 hrn_381 (by rw [(show kd (14 * k275 + 122) = (0, 0, false) from (kd_P (k := k275) (c := 12) (by omega) (by omega) (by decide)))])
                have ksn_386 := KS.w en_386 ksn_381 (by unfold tS; omega)
                have e387 : n_386 8 = nI k4 := by rw [en_386, pk_un (by omega)]; exact e382
                have e388 : n_386 0 = nI k271 := by rw [en_386, pk_un (by omega)]; exact e383
                have e389 : n_386 2 = nI (k275 + 1) := by rw [en_386, pk_un (by omega)]; exact e384
                have e390 : n_386 (14 * k275 + 122) = nI 1 := by rw [en_386, pk_us]
                refine pm_iloadi hG dX12_person_221 rfl ?_
                exact pm_iret hG hF dX12_person_223 rfl (Nat.le_refl _) (Nat.le_refl _) ⟨_, rfl, ⟨_, _, _, rfl, hnn_386, hrn_386, ksn_386⟩, rfl⟩
              · refine pm_aloadn hG dX12_person_102 rfl ?_
                refine pm_iconst (v := nI 4) hG dX12_person_103 (by decide) ?_
                refine pm_callV (As := [.int (nI 4)]) (rest := []) hG hR dX12_person_104 (lkX12_80 _ rfl) okV_X12_finds rfl rfl (m_finds (d := 2) (by decide) hn hz (by omega)) rfl rfl hdd (Nat.le_refl _) (Nat.le_refl _) (by decide) (pm_ki (fun v391 σ' cnt' hq => ?_))
                obtain ⟨⟨I392, A392, rfl⟩, rfl, fv391⟩ := hq
                exact pm_iret hG hF dX12_person_107 rfl (Nat.le_refl _) (Nat.le_refl _) ⟨_, rfl, ⟨_, _, _, rfl, hn, hr, KS.rf⟩, rfl⟩
            · refine pm_ifN_eq (tgt := 73) hG dX12_person_66 rfl (by omega) (fun _ => ?_) (fun q => absurd q (by omega))
              refine pm_iconst (v := nI 0) hG dX12_person_73 (by decide) ?_
              refine pm_istoreXi (loc' := [some (.ref (B + 54)), some (.int za), some (.int zb), some (.int zc), some (.int zd), some (.int (nI 0)), none, none]) hG dX12_person_74 (by decide) (pm_c1b rfl) rfl ?_
              refine pm_iloadi hG dX12_person_76 rfl ?_
              refine pm_ifN_ne (tgt := 87) hG dX12_person_78 rfl (by omega) (fun q => absurd q (by omega)) (fun _ => ?_)
              refine pm_aloadn hG dX12_person_81 rfl ?_
              refine pm_iconst (v := nI 1) hG dX12_person_82 (by decide) ?_
              refine pm_callV (As := [.int (nI 1)]) (rest := []) hG hR dX12_person_83 (lkX12_80 _ rfl) okV_X12_finds rfl rfl (m_finds (d := 2) (by decide) hn hz (by omega)) rfl rfl hdd (Nat.le_refl _) (Nat.le_refl _) (by decide) (pm_ki (fun v393 σ' cnt' hq => ?_))
              obtain ⟨⟨I394, A394, rfl⟩, rfl, fv393⟩ := hq
              exact pm_iret hG hF dX12_person_86 rfl (Nat.le_refl _) (Nat.le_refl _) ⟨_, rfl, ⟨_, _, _, rfl, hn, hr, KS.rf⟩, rfl⟩
          · refine pm_ifN_eq (tgt := 73) hG dX12_person_57 rfl (by omega) (fun q => absurd q (by omega)) (fun _ => ?_)
            refine pm_aloadn hG dX12_person_60 rfl ?_
            refine pm_iloadi hG dX12_person_61 rfl ?_
            obtain ⟨k395, hk395, ek395⟩ := KI.nat hn (show kd 0 = (1, 11, true) by decide)
            refine pm_callV (As := [.int zd]) (rest := []) hG hR dX12_person_63 (lkX12_84 _ rfl) okV_X12_isTown rfl rfl (m_isTown (d := 2) (by decide) ek395 (by omega)) rfl rfl hdd (Nat.le_refl _) (Nat.le_refl _) (by decide) (pm_ki (fun v396 σ' cnt' hq => ?_))
            obtain ⟨hq, rfl, rfl⟩ := hq
            rcases hq with ⟨rfl, k398, hk398, ek398⟩ | rfl
            · refine pm_ifN_eq (tgt := 73) hG dX12_person_66 rfl (by omega) (fun q => absurd q (by omega)) (fun _ => ?_)
              refine pm_iconst (v := nI 1) hG dX12_person_69 (by decide) ?_
              refine pm_goto (tgt := 74) hG dX12_person_70 rfl ?_
              refine pm_istoreXi (loc' := [some (.ref (B + 54)), some (.int za), some (.int zb), some (.int zc), some (.int zd), some (.int (nI 1)), none, none]) hG dX12_person_74 (by decide) (pm_c1b rfl) rfl ?_
              refine pm_iloadi hG dX12_person_76 rfl ?_
              refine pm_ifN_ne (tgt := 87) hG dX12_person_78 rfl (by omega) (fun _ => ?_) (fun q => absurd q (by omega))
              refine pm_aloadn hG dX12_person_87 rfl ?_
              refine pm_getf hG dX12_person_88 (flX12_7 _ rfl) rfl rfl ?_
              refine pm_iconst (v := nI 2) hG dX12_person_91 (by decide) ?_
              refine pm_ialdN hG dX12_person_92 rfl (by decide) (by omega) ?_
              obtain ⟨k399, hk399, ek399⟩ := KI.nat hn (show kd 2 = (1, 21, true) by decide)
              refine pm_top (v := nI k399) ek399 ?_
              refine pm_istoreXi (loc' := [some (.ref (B + 54)), some (.int za), some (.int zb), some (.int zc), some (.int zd), some (.int (nI 1)), some (.int (nI k399)), none]) hG dX12_person_93 (by decide) (pm_c1b rfl) rfl ?_
              refine pm_iloadi hG dX12_person_95 rfl ?_
              refine pm_bipush (v := nI 20) hG dX12_person_97 (by decide) ?_
              refine pm_icmpN_ne (tgt := 108) hG dX12_person_99 rfl (by omega) (by omega) (fun c400 => ?_) (fun c400 => ?_)
              · refine pm_aloadn hG dX12_person_108 rfl ?_
                refine pm_getf hG dX12_person_109 (flX12_7 _ rfl) rfl rfl ?_
                refine pm_iconst (v := nI 2) hG dX12_person_112 (by decide) ?_
                refine pm_dup2 hG dX12_person_113 rfl rfl ?_
                refine pm_ialdN hG dX12_person_114 rfl (by decide) (by omega) ?_
                refine pm_top (v := nI k399) ek399 ?_
                refine pm_iconst (v := nI 1) hG dX12_person_115 (by decide) ?_
                refine pm_iaddN (c := k399 + 1) hG dX12_person_116 (by omega) ?_
                refine pm_iastN hG dX12_person_117 rfl (by decide) (by omega) ?_
                refine mdn_now (fun n_401 en_401 => ?_)
                have hnn_401 := KI.w en_401 hn (okv_n (show kd 2 = (1, 21, true) by decide) (by omega))
                have hrn_401 := NRx.pers en_401 hr ek395 (by omega) ek399 (by omega)
                have ksn_401 := KS.w en_401 KS.rf (by unfold tS; omega)
                have e402 : n_401 8 = nI k4 := by rw [en_401, pk_un (by omega)]; exact ek4
                have e403 : n_401 0 = nI k395 := by rw [en_401, pk_un (by omega)]; exact ek395
                have e404 : n_401 2 = nI (k399 + 1) := by rw [en_401, pk_us]
                refine pm_iconst (v := nI 0) hG dX12_person_118 (by decide) ?_
                refine pm_istoreXi (loc' := [some (.ref (B + 54)), some (.int za), some (.int zb), some (.int zc), some (.int zd), some (.int (nI 1)), some (.int (nI k399)), some (.int (nI 0))]) hG dX12_person_119 (by decide) (pm_c1b rfl) rfl ?_
                refine pm_iloadi hG dX12_person_121 rfl ?_
                refine pm_bipush (v := nI 14) hG dX12_person_123 (by decide) ?_
                refine pm_icmpN_ge (tgt := 143) hG dX12_person_125 rfl (by omega) (by omega) (fun q => absurd q (by omega)) (fun _ => ?_)
                refine pm_aloadn hG dX12_person_128 rfl ?_
                refine pm_iloadi hG dX12_person_129 rfl ?_
                refine pm_iloadi hG dX12_person_131 rfl ?_
                refine pm_iconst (v := nI 0) hG dX12_person_133 (by decide) ?_
                refine pm_callV (As := [.int (nI k399), .int (nI 0), .int (nI 0)]) (rest := []) hG hR dX12_person_134 (lkX12_97 _ rfl) okV_X12_sets rfl rfl (m_sets (d := 2) (e := 14 * k399 + 110) (by omega) (by omega) (by omega)) rfl rfl hdd (Nat.le_refl _) (Nat.le_refl _) (by decide) (pm_kv (fun σ' cnt' hq => ?_))
                obtain ⟨rfl, rfl⟩ := hq
                obtain ⟨n_405, en_405⟩ : ∃ f : Nat → Int32, f = upd n_401 (14 * k399 + 110) (nI 0) := ⟨_, rfl⟩
                rw [← en_405]
                have hnn_405 := KI.w en_405 hnn_401 (okv_f (show kd (14 * k399 + 110) = (0, 0, false) from (kd_P (k := k399) (c := 0) (by omega) (by omega) (by decide))))
                have hrn_405 := NRx.w en_405 hrn_401 (by rw [(show kd (14 * k399 + 110) = (0, 0, false) from (kd_P (k := k399) (c := 0) (by omega) (by omega) (by decide)))])
                have ksn_405 := KS.w en_405 ksn_401 (by unfold tS; omega)
                have e406 : n_405 8 = nI k4 := by rw [en_405, pk_un (by omega)]; exact e402
                have e407 : n_405 0 = nI k395 := by rw [en_405, pk_un (by omega)]; exact e403
                have e408 : n_405 2 = nI (k399 + 1) := by rw [en_405, pk_un (by omega)]; exact e404
                have e409 : n_405 (14 * k399 + 110) = nI 0 := by rw [en_405, pk_us]
                refine pm_iincX (v := nI 1) (loc' := [some (.ref (B + 54)), some (.int za), some (.int zb), some (.int zc), some (.int zd), some (.int (nI 1)), some (.int (nI k399)), some (.int (nI 1))]) hG dX12_person_137 rfl (nI_1 _) (by decide) (pm_c1b rfl) rfl ?_
                refine pm_goto (tgt := 121) hG dX12_person_140 rfl ?_
                refine pm_iloadi hG dX12_person_121 rfl ?_
                refine pm_bipush (v := nI 14) hG dX12_person_123 (by decide) ?_
                refine pm_icmpN_ge (tgt := 143) hG dX12_person_125 rfl (by omega) (by omega) (fun q => absurd q (by omega)) (fun _ => ?_)
                refine pm_aloadn hG dX12_person_128 rfl ?_
                refine pm_iloadi hG dX12_person_129 rfl ?_
                refine pm_iloadi hG dX12_person_131 rfl ?_
                refine pm_iconst (v := nI 0) hG dX12_person_133 (by decide) ?_
                refine pm_callV (As := [.int (nI k399), .int (nI 1), .int (nI 0)]) (rest := []) hG hR dX12_person_134 (lkX12_97 _ rfl) okV_X12_sets rfl rfl (m_sets (d := 2) (e := 14 * k399 + 111) (by omega) (by omega) (by omega)) rfl rfl hdd (Nat.le_refl _) (Nat.le_refl _) (by decide) (pm_kv (fun σ' cnt' hq => ?_))
                obtain ⟨rfl, rfl⟩ := hq
                obtain ⟨n_410, en_410⟩ : ∃ f : Nat → Int32, f = upd n_405 (14 * k399 + 111) (nI 0) := ⟨_, rfl⟩
                rw [← en_410]
                have hnn_410 := KI.w en_410 hnn_405 (okv_f (show kd (14 * k399 + 111) = (0, 0, false) from (kd_P (k := k399) (c := 1) (by omega) (by omega) (by decide))))
                have hrn_410 := NRx.w en_410 hrn_405 (by rw [(show kd (14 * k399 + 111) = (0, 0, false) from (kd_P (k := k399) (c := 1) (by omega) (by omega) (by decide)))])
                have ksn_410 := KS.w en_410 ksn_405 (by unfold tS; omega)
                have e411 : n_410 8 = nI k4 := by rw [en_410, pk_un (by omega)]; exact e406
                have e412 : n_410 0 = nI k395 := by rw [en_410, pk_un (by omega)]; exact e407
                have e413 : n_410 2 = nI (k399 + 1) := by rw [en_410, pk_un (by omega)]; exact e408
                have e414 : n_410 (14 * k399 + 111) = nI 0 := by rw [en_410, pk_us]
                refine pm_iincX (v := nI 2) (loc' := [some (.ref (B + 54)), some (.int za), some (.int zb), some (.int zc), some (.int zd), some (.int (nI 1)), some (.int (nI k399)), some (.int (nI 2))]) hG dX12_person_137 rfl (nI_1 _) (by decide) (pm_c1b rfl) rfl ?_
                refine pm_goto (tgt := 121) hG dX12_person_140 rfl ?_
                refine pm_iloadi hG dX12_person_121 rfl ?_
                refine pm_bipush (v := nI 14) hG dX12_person_123 (by decide) ?_
                refine pm_icmpN_ge (tgt := 143) hG dX12_person_125 rfl (by omega) (by omega) (fun q => absurd q (by omega)) (fun _ => ?_)
                refine pm_aloadn hG dX12_person_128 rfl ?_
                refine pm_iloadi hG dX12_person_129 rfl ?_
                refine pm_iloadi hG dX12_person_131 rfl ?_
                refine pm_iconst (v := nI 0) hG dX12_person_133 (by decide) ?_
                refine pm_callV (As := [.int (nI k399), .int (nI 2), .int (nI 0)]) (rest := []) hG hR dX12_person_134 (lkX12_97 _ rfl) okV_X12_sets rfl rfl (m_sets (d := 2) (e := 14 * k399 + 112) (by omega) (by omega) (by omega)) rfl rfl hdd (Nat.le_refl _) (Nat.le_refl _) (by decide) (pm_kv (fun σ' cnt' hq => ?_))
                obtain ⟨rfl, rfl⟩ := hq
                obtain ⟨n_415, en_415⟩ : ∃ f : Nat → Int32, f = upd n_410 (14 * k399 + 112) (nI 0) := ⟨_, rfl⟩
                rw [← en_415]
                have hnn_415 := KI.w en_415 hnn_410 (okv_o (show kd (14 * k399 + 112) = (2, 20, false) from (kd_P (k := k399) (c := 2) (by omega) (by omega) (by decide))) (by omega))
                have hrn_415 := NRx.w en_415 hrn_410 (by rw [(show kd (14 * k399 + 112) = (2, 20, false) from (kd_P (k := k399) (c := 2) (by omega) (by omega) (by decide)))])
                have ksn_415 := KS.w en_415 ksn_410 (by unfold tS; omega)
                have e416 : n_415 8 = nI k4 := by rw [en_415, pk_un (by omega)]; exact e411
                have e417 : n_415 0 = nI k395 := by rw [en_415, pk_un (by omega)]; exact e412
                have e418 : n_415 2 = nI (k399 + 1) := by rw [en_415, pk_un (by omega)]; exact e413
                have e419 : n_415 (14 * k399 + 112) = nI 0 := by rw [en_415, pk_us]
                refine pm_iincX (v := nI 3) (loc' := [some (.ref (B + 54)), some (.int za), some (.int zb), some (.int zc), some (.int zd), some (.int (nI 1)), some (.int (nI k399)), some (.int (nI 3))]) hG dX12_person_137 rfl (nI_1 _) (by decide) (pm_c1b rfl) rfl ?_
                refine pm_goto (tgt := 121) hG dX12_person_140 rfl ?_
                refine pm_iloadi hG dX12_person_121 rfl ?_
                refine pm_bipush (v := nI 14) hG dX12_person_123 (by decide) ?_
                refine pm_icmpN_ge (tgt := 143) hG dX12_person_125 rfl (by omega) (by omega) (fun q => absurd q (by omega)) (fun _ => ?_)
                refine pm_aloadn hG dX12_person_128 rfl ?_
                refine pm_iloadi hG dX12_person_129 rfl ?_
                refine pm_iloadi hG dX12_person_131 rfl ?_
                refine pm_iconst (v := nI 0) hG dX12_person_133 (by decide) ?_
                refine pm_callV (As := [.int (nI k399), .int (nI 3), .int (nI 0)]) (rest := []) hG hR dX12_person_134 (lkX12_97 _ rfl) okV_X12_sets rfl rfl (m_sets (d := 2) (e := 14 * k399 + 113) (by omega) (by omega) (by omega)) rfl rfl hdd (Nat.le_refl _) (Nat.le_refl _) (by decide) (pm_kv (fun σ' cnt' hq => ?_))
                obtain ⟨rfl, rfl⟩ := hq
                obtain ⟨n_420, en_420⟩ : ∃ f : Nat → Int32, f = upd n_415 (14 * k399 + 113) (nI 0) := ⟨_, rfl⟩
                rw [← en_420]
                have hnn_420 := KI.w en_420 hnn_415 (okv_o (show kd (14 * k399 + 113) = (2, 20, false) from (kd_P (k := k399) (c := 3) (by omega) (by omega) (by decide))) (by omega))
                have hrn_420 := NRx.w en_420 hrn_415 (by rw [(show kd (14 * k399 + 113) = (2, 20, false) from (kd_P (k := k399) (c := 3) (by omega) (by omega) (by decide)))])
                have ksn_420 := KS.w en_420 ksn_415 (by unfold tS; omega)
                have e421 : n_420 8 = nI k4 := by rw [en_420, pk_un (by omega)]; exact e416
                have e422 : n_420 0 = nI k395 := by rw [en_420, pk_un (by omega)]; exact e417
                have e423 : n_420 2 = nI (k399 + 1) := by rw [en_420, pk_un (by omega)]; exact e418
                have e424 : n_420 (14 * k399 + 113) = nI 0 := by rw [en_420, pk_us]
                refine pm_iincX (v := nI 4) (loc' := [some (.ref (B + 54)), some (.int za), some (.int zb), some (.int zc), some (.int zd), some (.int (nI 1)), some (.int (nI k399)), some (.int (nI 4))]) hG dX12_person_137 rfl (nI_1 _) (by decide) (pm_c1b rfl) rfl ?_
                refine pm_goto (tgt := 121) hG dX12_person_140 rfl ?_
                refine pm_iloadi hG dX12_person_121 rfl ?_
                refine pm_bipush (v := nI 14) hG dX12_person_123 (by decide) ?_
                refine pm_icmpN_ge (tgt := 143) hG dX12_person_125 rfl (by omega) (by omega) (fun q => absurd q (by omega)) (fun _ => ?_)
                refine pm_aloadn hG dX12_person_128 rfl ?_
                refine pm_iloadi hG dX12_person_129 rfl ?_
                refine pm_iloadi hG dX12_person_131 rfl ?_
                refine pm_iconst (v := nI 0) hG dX12_person_133 (by decide) ?_
                refine pm_callV (As := [.int (nI k399), .int (nI 4), .int (nI 0)]) (rest := []) hG hR dX12_person_134 (lkX12_97 _ rfl) okV_X12_sets rfl rfl (m_sets (d := 2) (e := 14 * k399 + 114) (by omega) (by omega) (by omega)) rfl rfl hdd (Nat.le_refl _) (Nat.le_refl _) (by decide) (pm_kv (fun σ' cnt' hq => ?_))
                obtain ⟨rfl, rfl⟩ := hq
                obtain ⟨n_425, en_425⟩ : ∃ f : Nat → Int32, f = upd n_420 (14 * k399 + 114) (nI 0) := ⟨_, rfl⟩
                rw [← en_425]
                have hnn_425 := KI.w en_425 hnn_420 (okv_o (show kd (14 * k399 + 114) = (2, 10, false) from (kd_P (k := k399) (c := 4) (by omega) (by omega) (by decide))) (by omega))
                have hrn_425 := NRx.w en_425 hrn_420 (by rw [(show kd (14 * k399 + 114) = (2, 10, false) from (kd_P (k := k399) (c := 4) (by omega) (by omega) (by decide)))])
                have ksn_425 := KS.w en_425 ksn_420 (by unfold tS; omega)
                have e426 : n_425 8 = nI k4 := by rw [en_425, pk_un (by omega)]; exact e421
                have e427 : n_425 0 = nI k395 := by rw [en_425, pk_un (by omega)]; exact e422
                have e428 : n_425 2 = nI (k399 + 1) := by rw [en_425, pk_un (by omega)]; exact e423
                have e429 : n_425 (14 * k399 + 114) = nI 0 := by rw [en_425, pk_us]
                refine pm_iincX (v := nI 5) (loc' := [some (.ref (B + 54)), some (.int za), some (.int zb), some (.int zc), some (.int zd), some (.int (nI 1)), some (.int (nI k399)), some (.int (nI 5))]) hG dX12_person_137 rfl (nI_1 _) (by decide) (pm_c1b rfl) rfl ?_
                refine pm_goto (tgt := 121) hG dX12_person_140 rfl ?_
                refine pm_iloadi hG dX12_person_121 rfl ?_
                refine pm_bipush (v := nI 14) hG dX12_person_123 (by decide) ?_
                refine pm_icmpN_ge (tgt := 143) hG dX12_person_125 rfl (by omega) (by omega) (fun q => absurd q (by omega)) (fun _ => ?_)
                refine pm_aloadn hG dX12_person_128 rfl ?_
                refine pm_iloadi hG dX12_person_129 rfl ?_
                refine pm_iloadi hG dX12_person_131 rfl ?_
                refine pm_iconst (v := nI 0) hG dX12_person_133 (by decide) ?_
                refine pm_callV (As := [.int (nI k399), .int (nI 5), .int (nI 0)]) (rest := []) hG hR dX12_person_134 (lkX12_97 _ rfl) okV_X12_sets rfl rfl (m_sets (d := 2) (e := 14 * k399 + 115) (by omega) (by omega) (by omega)) rfl rfl hdd (Nat.le_refl _) (Nat.le_refl _) (by decide) (pm_kv (fun σ' cnt' hq => ?_))
                obtain ⟨rfl, rfl⟩ := hq
                obtain ⟨n_430, en_430⟩ : ∃ f : Nat → Int32, f = upd n_425 (14 * k399 + 115) (nI 0) := ⟨_, rfl⟩
                rw [← en_430]
                have hnn_430 := KI.w en_430 hnn_425 (okv_n (show kd (14 * k399 + 115) = (1, 10, false) from (kd_P (k := k399) (c := 5) (by omega) (by omega) (by decide))) (by omega))
                have hrn_430 := NRx.w en_430 hrn_425 (by rw [(show kd (14 * k399 + 115) = (1, 10, false) from (kd_P (k := k399) (c := 5) (by omega) (by omega) (by decide)))])
                have ksn_430 := KS.w en_430 ksn_425 (by unfold tS; omega)
                have e431 : n_430 8 = nI k4 := by rw [en_430, pk_un (by omega)]; exact e426
                have e432 : n_430 0 = nI k395 := by rw [en_430, pk_un (by omega)]; exact e427
                have e433 : n_430 2 = nI (k399 + 1) := by rw [en_430, pk_un (by omega)]; exact e428
                have e434 : n_430 (14 * k399 + 115) = nI 0 := by rw [en_430, pk_us]
                refine pm_iincX (v := nI 6) (loc' := [some (.ref (B + 54)), some (.int za), some (.int zb), some (.int zc), some (.int zd), some (.int (nI 1)), some (.int (nI k399)), some (.int (nI 6))]) hG dX12_person_137 rfl (nI_1 _) (by decide) (pm_c1b rfl) rfl ?_
                refine pm_goto (tgt := 121) hG dX12_person_140 rfl ?_
                refine pm_iloadi hG dX12_person_121 rfl ?_
                refine pm_bipush (v := nI 14) hG dX12_person_123 (by decide) ?_
                refine pm_icmpN_ge (tgt := 143) hG dX12_person_125 rfl (by omega) (by omega) (fun q => absurd q (by omega)) (fun _ => ?_)
                refine pm_aloadn hG dX12_person_128 rfl ?_
                refine pm_iloadi hG dX12_person_129 rfl ?_
                refine pm_iloadi hG dX12_person_131 rfl ?_
                refine pm_iconst (v := nI 0) hG dX12_person_133 (by decide) ?_
                refine pm_callV (As := [.int (nI k399), .int (nI 6), .int (nI 0)]) (rest := []) hG hR dX12_person_134 (lkX12_97 _ rfl) okV_X12_sets rfl rfl (m_sets (d := 2) (e := 14 * k399 + 116) (by omega) (by omega) (by omega)) rfl rfl hdd (Nat.le_refl _) (Nat.le_refl _) (by decide) (pm_kv (fun σ' cnt' hq => ?_))
                obtain ⟨rfl, rfl⟩ := hq
                obtain ⟨n_435, en_435⟩ : ∃ f : Nat → Int32, f = upd n_430 (14 * k399 + 116) (nI 0) := ⟨_, rfl⟩
                rw [← en_435]
                have hnn_435 := KI.w en_435 hnn_430 (okv_f (show kd (14 * k399 + 116) = (0, 0, false) from (kd_P (k := k399) (c := 6) (by omega) (by omega) (by decide))))
                have hrn_435 := NRx.w en_435 hrn_430 (by rw [(show kd (14 * k399 + 116) = (0, 0, false) from (kd_P (k := k399) (c := 6) (by omega) (by omega) (by decide)))])
                have ksn_435 := KS.w en_435 ksn_430 (by unfold tS; omega)
                have e436 : n_435 8 = nI k4 := by rw [en_435, pk_un (by omega)]; exact e431
                have e437 : n_435 0 = nI k395 := by rw [en_435, pk_un (by omega)]; exact e432
                have e438 : n_435 2 = nI (k399 + 1) := by rw [en_435, pk_un (by omega)]; exact e433
                have e439 : n_435 (14 * k399 + 116) = nI 0 := by rw [en_435, pk_us]
                refine pm_iincX (v := nI 7) (loc' := [some (.ref (B + 54)), some (.int za), some (.int zb), some (.int zc), some (.int zd), some (.int (nI 1)), some (.int (nI k399)), some (.int (nI 7))]) hG dX12_person_137 rfl (nI_1 _) (by decide) (pm_c1b rfl) rfl ?_
                refine pm_goto (tgt := 121) hG dX12_person_140 rfl ?_
                refine pm_iloadi hG dX12_person_121 rfl ?_
                refine pm_bipush (v := nI 14) hG dX12_person_123 (by decide) ?_
                refine pm_icmpN_ge (tgt := 143) hG dX12_person_125 rfl (by omega) (by omega) (fun q => absurd q (by omega)) (fun _ => ?_)
                refine pm_aloadn hG dX12_person_128 rfl ?_
                refine pm_iloadi hG dX12_person_129 rfl ?_
                refine pm_iloadi hG dX12_person_131 rfl ?_
                refine pm_iconst (v := nI 0) hG dX12_person_133 (by decide) ?_
                refine pm_callV (As := [.int (nI k399), .int (nI 7), .int (nI 0)]) (rest := []) hG hR dX12_person_134 (lkX12_97 _ rfl) okV_X12_sets rfl rfl (m_sets (d := 2) (e := 14 * k399 + 117) (by omega) (by omega) (by omega)) rfl rfl hdd (Nat.le_refl _) (Nat.le_refl _) (by decide) (pm_kv (fun σ' cnt' hq => ?_))
                obtain ⟨rfl, rfl⟩ := hq
                obtain ⟨n_440, en_440⟩ : ∃ f : Nat → Int32, f = upd n_435 (14 * k399 + 117) (nI 0) := ⟨_, rfl⟩
                rw [← en_440]
                have hnn_440 := KI.w en_440 hnn_435 (okv_f (show kd (14 * k399 + 117) = (0, 0, false) from (kd_P (k := k399) (c := 7) (by omega) (by omega) (by decide))))
                have hrn_440 := NRx.w en_440 hrn_435 (by rw [(show kd (14 * k399 + 117) = (0, 0, false) from (kd_P (k := k399) (c := 7) (by omega) (by omega) (by decide)))])
                have ksn_440 := KS.w en_440 ksn_435 (by unfold tS; omega)
                have e441 : n_440 8 = nI k4 := by rw [en_440, pk_un (by omega)]; exact e436
                have e442 : n_440 0 = nI k395 := by rw [en_440, pk_un (by omega)]; exact e437
                have e443 : n_440 2 = nI (k399 + 1) := by rw [en_440, pk_un (by omega)]; exact e438
                have e444 : n_440 (14 * k399 + 117) = nI 0 := by rw [en_440, pk_us]
                refine pm_iincX (v := nI 8) (loc' := [some (.ref (B + 54)), some (.int za), some (.int zb), some (.int zc), some (.int zd), some (.int (nI 1)), some (.int (nI k399)), some (.int (nI 8))]) hG dX12_person_137 rfl (nI_1 _) (by decide) (pm_c1b rfl) rfl ?_
                refine pm_goto (tgt := 121) hG dX12_person_140 rfl ?_
                refine pm_iloadi hG dX12_person_121 rfl ?_
                refine pm_bipush (v := nI 14) hG dX12_person_123 (by decide) ?_
                refine pm_icmpN_ge (tgt := 143) hG dX12_person_125 rfl (by omega) (by omega) (fun q => absurd q (by omega)) (fun _ => ?_)
                refine pm_aloadn hG dX12_person_128 rfl ?_
                refine pm_iloadi hG dX12_person_129 rfl ?_
                refine pm_iloadi hG dX12_person_131 rfl ?_
                refine pm_iconst (v := nI 0) hG dX12_person_133 (by decide) ?_
                refine pm_callV (As := [.int (nI k399), .int (nI 8), .int (nI 0)]) (rest := []) hG hR dX12_person_134 (lkX12_97 _ rfl) okV_X12_sets rfl rfl (m_sets (d := 2) (e := 14 * k399 + 118) (by omega) (by omega) (by omega)) rfl rfl hdd (Nat.le_refl _) (Nat.le_refl _) (by decide) (pm_kv (fun σ' cnt' hq => ?_))
                obtain ⟨rfl, rfl⟩ := hq
                obtain ⟨n_445, en_445⟩ : ∃ f : Nat → Int32, f = upd n_440 (14 * k399 + 118) (nI 0) := ⟨_, rfl⟩
                rw [← en_445]
                have hnn_445 := KI.w en_445 hnn_440 (okv_f (show kd (14 * k399 + 118) = (0, 0, false) from (kd_P (k := k399) (c := 8) (by omega) (by omega) (by decide))))
                have hrn_445 := NRx.w en_445 hrn_440 (by rw [(show kd (14 * k399 + 118) = (0, 0, false) from (kd_P (k := k399) (c := 8) (by omega) (by omega) (by decide)))])
                have ksn_445 := KS.w en_445 ksn_440 (by unfold tS; omega)
                have e446 : n_445 8 = nI k4 := by rw [en_445, pk_un (by omega)]; exact e441
                have e447 : n_445 0 = nI k395 := by rw [en_445, pk_un (by omega)]; exact e442
                have e448 : n_445 2 = nI (k399 + 1) := by rw [en_445, pk_un (by omega)]; exact e443
                have e449 : n_445 (14 * k399 + 118) = nI 0 := by rw [en_445, pk_us]
                refine pm_iincX (v := nI 9) (loc' := [some (.ref (B + 54)), some (.int za), some (.int zb), some (.int zc), some (.int zd), some (.int (nI 1)), some (.int (nI k399)), some (.int (nI 9))]) hG dX12_person_137 rfl (nI_1 _) (by decide) (pm_c1b rfl) rfl ?_
                refine pm_goto (tgt := 121) hG dX12_person_140 rfl ?_
                refine pm_iloadi hG dX12_person_121 rfl ?_
                refine pm_bipush (v := nI 14) hG dX12_person_123 (by decide) ?_
                refine pm_icmpN_ge (tgt := 143) hG dX12_person_125 rfl (by omega) (by omega) (fun q => absurd q (by omega)) (fun _ => ?_)
                refine pm_aloadn hG dX12_person_128 rfl ?_
                refine pm_iloadi hG dX12_person_129 rfl ?_
                refine pm_iloadi hG dX12_person_131 rfl ?_
                refine pm_iconst (v := nI 0) hG dX12_person_133 (by decide) ?_
                refine pm_callV (As := [.int (nI k399), .int (nI 9), .int (nI 0)]) (rest := []) hG hR dX12_person_134 (lkX12_97 _ rfl) okV_X12_sets rfl rfl (m_sets (d := 2) (e := 14 * k399 + 119) (by omega) (by omega) (by omega)) rfl rfl hdd (Nat.le_refl _) (Nat.le_refl _) (by decide) (pm_kv (fun σ' cnt' hq => ?_))
                obtain ⟨rfl, rfl⟩ := hq
                obtain ⟨n_450, en_450⟩ : ∃ f : Nat → Int32, f = upd n_445 (14 * k399 + 119) (nI 0) := ⟨_, rfl⟩
                rw [← en_450]
                have hnn_450 := KI.w en_450 hnn_445 (okv_o (show kd (14 * k399 + 119) = (2, 2001, false) from (kd_P (k := k399) (c := 9) (by omega) (by omega) (by decide))) (by omega))
                have hrn_450 := NRx.w en_450 hrn_445 (by rw [(show kd (14 * k399 + 119) = (2, 2001, false) from (kd_P (k := k399) (c := 9) (by omega) (by omega) (by decide)))])
                have ksn_450 := KS.w en_450 ksn_445 (by unfold tS; omega)
                have e451 : n_450 8 = nI k4 := by rw [en_450, pk_un (by omega)]; exact e446
                have e452 : n_450 0 = nI k395 := by rw [en_450, pk_un (by omega)]; exact e447
                have e453 : n_450 2 = nI (k399 + 1) := by rw [en_450, pk_un (by omega)]; exact e448
                have e454 : n_450 (14 * k399 + 119) = nI 0 := by rw [en_450, pk_us]
                refine pm_iincX (v := nI 10) (loc' := [some (.ref (B + 54)), some (.int za), some (.int zb), some (.int zc), some (.int zd), some (.int (nI 1)), some (.int (nI k399)), some (.int (nI 10))]) hG dX12_person_137 rfl (nI_1 _) (by decide) (pm_c1b rfl) rfl ?_
                refine pm_goto (tgt := 121) hG dX12_person_140 rfl ?_
                refine pm_iloadi hG dX12_person_121 rfl ?_
                refine pm_bipush (v := nI 14) hG dX12_person_123 (by decide) ?_
                refine pm_icmpN_ge (tgt := 143) hG dX12_person_125 rfl (by omega) (by omega) (fun q => absurd q (by omega)) (fun _ => ?_)
                refine pm_aloadn hG dX12_person_128 rfl ?_
                refine pm_iloadi hG dX12_person_129 rfl ?_
                refine pm_iloadi hG dX12_person_131 rfl ?_
                refine pm_iconst (v := nI 0) hG dX12_person_133 (by decide) ?_
                refine pm_callV (As := [.int (nI k399), .int (nI 10), .int (nI 0)]) (rest := []) hG hR dX12_person_134 (lkX12_97 _ rfl) okV_X12_sets rfl rfl (m_sets (d := 2) (e := 14 * k399 + 120) (by omega) (by omega) (by omega)) rfl rfl hdd (Nat.le_refl _) (Nat.le_refl _) (by decide) (pm_kv (fun σ' cnt' hq => ?_))
                obtain ⟨rfl, rfl⟩ := hq
                obtain ⟨n_455, en_455⟩ : ∃ f : Nat → Int32, f = upd n_450 (14 * k399 + 120) (nI 0) := ⟨_, rfl⟩
                rw [← en_455]
                have hnn_455 := KI.w en_455 hnn_450 (okv_f (show kd (14 * k399 + 120) = (0, 0, false) from (kd_P (k := k399) (c := 10) (by omega) (by omega) (by decide))))
                have hrn_455 := NRx.w en_455 hrn_450 (by rw [(show kd (14 * k399 + 120) = (0, 0, false) from (kd_P (k := k399) (c := 10) (by omega) (by omega) (by decide)))])
                have ksn_455 := KS.w en_455 ksn_450 (by unfold tS; omega)
                have e456 : n_455 8 = nI k4 := by rw [en_455, pk_un (by omega)]; exact e451
                have e457 : n_455 0 = nI k395 := by rw [en_455, pk_un (by omega)]; exact e452
                have e458 : n_455 2 = nI (k399 + 1) := by rw [en_455, pk_un (by omega)]; exact e453
                have e459 : n_455 (14 * k399 + 120) = nI 0 := by rw [en_455, pk_us]
                refine pm_iincX (v := nI 11) (loc' := [some (.ref (B + 54)), some (.int za), some (.int zb), some (.int zc), some (.int zd), some (.int (nI 1)), some (.int (nI k399)), some (.int (nI 11))]) hG dX12_person_137 rfl (nI_1 _) (by decide) (pm_c1b rfl) rfl ?_
                refine pm_goto (tgt := 121) hG dX12_person_140 rfl ?_
                refine pm_iloadi hG dX12_person_121 rfl ?_
                refine pm_bipush (v := nI 14) hG dX12_person_123 (by decide) ?_
                refine pm_icmpN_ge (tgt := 143) hG dX12_person_125 rfl (by omega) (by omega) (fun q => absurd q (by omega)) (fun _ => ?_)
                refine pm_aloadn hG dX12_person_128 rfl ?_
                refine pm_iloadi hG dX12_person_129 rfl ?_
                refine pm_iloadi hG dX12_person_131 rfl ?_
                refine pm_iconst (v := nI 0) hG dX12_person_133 (by decide) ?_
                refine pm_callV (As := [.int (nI k399), .int (nI 11), .int (nI 0)]) (rest := []) hG hR dX12_person_134 (lkX12_97 _ rfl) okV_X12_sets rfl rfl (m_sets (d := 2) (e := 14 * k399 + 121) (by omega) (by omega) (by omega)) rfl rfl hdd (Nat.le_refl _) (Nat.le_refl _) (by decide) (pm_kv (fun σ' cnt' hq => ?_))
                obtain ⟨rfl, rfl⟩ := hq
                obtain ⟨n_460, en_460⟩ : ∃ f : Nat → Int32, f = upd n_455 (14 * k399 + 121) (nI 0) := ⟨_, rfl⟩
                rw [← en_460]
                have hnn_460 := KI.w en_460 hnn_455 (okv_n (show kd (14 * k399 + 121) = (1, 2, true) from (kd_P (k := k399) (c := 11) (by omega) (by omega) (by decide))) (by omega))
                have hrn_460 := NRx.unseat (p := k399) en_460 hrn_455 (by omega)
                have ksn_460 := KS.w en_460 ksn_455 (by unfold tS; omega)
                have e461 : n_460 8 = nI k4 := by rw [en_460, pk_un (by omega)]; exact e456
                have e462 : n_460 0 = nI k395 := by rw [en_460, pk_un (by omega)]; exact e457
                have e463 : n_460 2 = nI (k399 + 1) := by rw [en_460, pk_un (by omega)]; exact e458
                have e464 : n_460 (14 * k399 + 121) = nI 0 := by rw [en_460, pk_us]
                refine pm_iincX (v := nI 12) (loc' := [some (.ref (B + 54)), some (.int za), some (.int zb), some (.int zc), some (.int zd), some (.int (nI 1)), some (.int (nI k399)), some (.int (nI 12))]) hG dX12_person_137 rfl (nI_1 _) (by decide) (pm_c1b rfl) rfl ?_
                refine pm_goto (tgt := 121) hG dX12_person_140 rfl ?_
                refine pm_iloadi hG dX12_person_121 rfl ?_
                refine pm_bipush (v := nI 14) hG dX12_person_123 (by decide) ?_
                refine pm_icmpN_ge (tgt := 143) hG dX12_person_125 rfl (by omega) (by omega) (fun q => absurd q (by omega)) (fun _ => ?_)
                refine pm_aloadn hG dX12_person_128 rfl ?_
                refine pm_iloadi hG dX12_person_129 rfl ?_
                refine pm_iloadi hG dX12_person_131 rfl ?_
                refine pm_iconst (v := nI 0) hG dX12_person_133 (by decide) ?_
                refine pm_callV (As := [.int (nI k399), .int (nI 12), .int (nI 0)]) (rest := []) hG hR dX12_person_134 (lkX12_97 _ rfl) okV_X12_sets rfl rfl (m_sets (d := 2) (e := 14 * k399 + 122) (by omega) (by omega) (by omega)) rfl rfl hdd (Nat.le_refl _) (Nat.le_refl _) (by decide) (pm_kv (fun σ' cnt' hq => ?_))
                obtain ⟨rfl, rfl⟩ := hq
                obtain ⟨n_465, en_465⟩ : ∃ f : Nat → Int32, f = upd n_460 (14 * k399 + 122) (nI 0) := ⟨_, rfl⟩
                rw [← en_465]
                have hnn_465 := KI.w en_465 hnn_460 (okv_f (show kd (14 * k399 + 122) = (0, 0, false) from (kd_P (k := k399) (c := 12) (by omega) (by omega) (by decide))))
                have hrn_465 := NRx.w en_465 hrn_460 (by rw [(show kd (14 * k399 + 122) = (0, 0, false) from (kd_P (k := k399) (c := 12) (by omega) (by omega) (by decide)))])
                have ksn_465 := KS.w en_465 ksn_460 (by unfold tS; omega)
                have e466 : n_465 8 = nI k4 := by rw [en_465, pk_un (by omega)]; exact e461
                have e467 : n_465 0 = nI k395 := by rw [en_465, pk_un (by omega)]; exact e462
                have e468 : n_465 2 = nI (k399 + 1) := by rw [en_465, pk_un (by omega)]; exact e463
                have e469 : n_465 (14 * k399 + 122) = nI 0 := by rw [en_465, pk_us]
                refine pm_iincX (v := nI 13) (loc' := [some (.ref (B + 54)), some (.int za), some (.int zb), some (.int zc), some (.int zd), some (.int (nI 1)), some (.int (nI k399)), some (.int (nI 13))]) hG dX12_person_137 rfl (nI_1 _) (by decide) (pm_c1b rfl) rfl ?_
                refine pm_goto (tgt := 121) hG dX12_person_140 rfl ?_
                refine pm_iloadi hG dX12_person_121 rfl ?_
                refine pm_bipush (v := nI 14) hG dX12_person_123 (by decide) ?_
                refine pm_icmpN_ge (tgt := 143) hG dX12_person_125 rfl (by omega) (by omega) (fun q => absurd q (by omega)) (fun _ => ?_)
                refine pm_aloadn hG dX12_person_128 rfl ?_
                refine pm_iloadi hG dX12_person_129 rfl ?_
                refine pm_iloadi hG dX12_person_131 rfl ?_
                refine pm_iconst (v := nI 0) hG dX12_person_133 (by decide) ?_
                refine pm_callV (As := [.int (nI k399), .int (nI 13), .int (nI 0)]) (rest := []) hG hR dX12_person_134 (lkX12_97 _ rfl) okV_X12_sets rfl rfl (m_sets (d := 2) (e := 14 * k399 + 123) (by omega) (by omega) (by omega)) rfl rfl hdd (Nat.le_refl _) (Nat.le_refl _) (by decide) (pm_kv (fun σ' cnt' hq => ?_))
                obtain ⟨rfl, rfl⟩ := hq
                obtain ⟨n_470, en_470⟩ : ∃ f : Nat → Int32, f = upd n_465 (14 * k399 + 123) (nI 0) := ⟨_, rfl⟩
                rw [← en_470]
                have hnn_470 := KI.w en_470 hnn_465 (okv_f (show kd (14 * k399 + 123) = (0, 0, false) from (kd_P (k := k399) (c := 13) (by omega) (by omega) (by decide))))
                have hrn_470 := NRx.w en_470 hrn_465 (by rw [(show kd (14 * k399 + 123) = (0, 0, false) from (kd_P (k := k399) (c := 13) (by omega) (by omega) (by decide)))])
                have ksn_470 := KS.w en_470 ksn_465 (by unfold tS; omega)
                have e471 : n_470 8 = nI k4 := by rw [en_470, pk_un (by omega)]; exact e466
                have e472 : n_470 0 = nI k395 := by rw [en_470, pk_un (by omega)]; exact e467
                have e473 : n_470 2 = nI (k399 + 1) := by rw [en_470, pk_un (by omega)]; exact e468
                have e474 : n_470 (14 * k399 + 123) = nI 0 := by rw [en_470, pk_us]
                refine pm_iincX (v := nI 14) (loc' := [some (.ref (B + 54)), some (.int za), some (.int zb), some (.int zc), some (.int zd), some (.int (nI 1)), some (.int (nI k399)), some (.int (nI 14))]) hG dX12_person_137 rfl (nI_1 _) (by decide) (pm_c1b rfl) rfl ?_
                refine pm_goto (tgt := 121) hG dX12_person_140 rfl ?_
                refine pm_iloadi hG dX12_person_121 rfl ?_
                refine pm_bipush (v := nI 14) hG dX12_person_123 (by decide) ?_
                refine pm_icmpN_ge (tgt := 143) hG dX12_person_125 rfl (by omega) (by omega) (fun _ => ?_) (fun q => absurd q (by omega))
                refine pm_aloadn hG dX12_person_143 rfl ?_
                refine pm_iloadi hG dX12_person_144 rfl ?_
                refine pm_iconst (v := nI 0) hG dX12_person_146 (by decide) ?_
                refine pm_iloadn hG dX12_person_147 rfl ?_
                refine pm_top (v := nI k3) ek3 ?_
                refine pm_callV (As := [.int (nI k399), .int (nI 0), .int (nI k3)]) (rest := []) hG hR dX12_person_148 (lkX12_97 _ rfl) okV_X12_sets rfl rfl (m_sets (d := 2) (e := 14 * k399 + 110) (by omega) (by omega) (by omega)) rfl rfl hdd (Nat.le_refl _) (Nat.le_refl _) (by decide) (pm_kv (fun σ' cnt' hq => ?_))
                obtain ⟨rfl, rfl⟩ := hq
                obtain ⟨n_475, en_475⟩ : ∃ f : Nat → Int32, f = upd n_470 (14 * k399 + 110) (nI k3) := ⟨_, rfl⟩
                rw [← en_475]
                have hnn_475 := KI.w en_475 hnn_470 (okv_f (show kd (14 * k399 + 110) = (0, 0, false) from (kd_P (k := k399) (c := 0) (by omega) (by omega) (by decide))))
                have hrn_475 := NRx.w en_475 hrn_470 (by rw [(show kd (14 * k399 + 110) = (0, 0, false) from (kd_P (k := k399) (c := 0) (by omega) (by omega) (by decide)))])
                have ksn_475 := KS.w en_475 ksn_470 (by unfold tS; omega)
                have e476 : n_475 8 = nI k4 := by rw [en_475, pk_un (by omega)]; exact e471
                have e477 : n_475 0 = nI k395 := by rw [en_475, pk_un (by omega)]; exact e472
                have e478 : n_475 2 = nI (k399 + 1) := by rw [en_475, pk_un (by omega)]; exact e473
                have e479 : n_475 (14 * k399 + 110) = nI k3 := by rw [en_475, pk_us]
                refine pm_aloadn hG dX12_person_151 rfl ?_
                refine pm_iloadi hG dX12_person_152 rfl ?_
                refine pm_iconst (v := nI 1) hG dX12_person_154 (by decide) ?_
                refine pm_iloadn hG dX12_person_155 rfl ?_
                refine pm_callV (As := [.int (nI k399), .int (nI 1), .int zb]) (rest := []) hG hR dX12_person_156 (lkX12_97 _ rfl) okV_X12_sets rfl rfl (m_sets (d := 2) (e := 14 * k399 + 111) (by omega) (by omega) (by omega)) rfl rfl hdd (Nat.le_refl _) (Nat.le_refl _) (by decide) (pm_kv (fun σ' cnt' hq => ?_))
                obtain ⟨rfl, rfl⟩ := hq
                obtain ⟨n_480, en_480⟩ : ∃ f : Nat → Int32, f = upd n_475 (14 * k399 + 111) zb := ⟨_, rfl⟩
                rw [← en_480]
                have hnn_480 := KI.w en_480 hnn_475 (okv_f (show kd (14 * k399 + 111) = (0, 0, false) from (kd_P (k := k399) (c := 1) (by omega) (by omega) (by decide))))
                have hrn_480 := NRx.w en_480 hrn_475 (by rw [(show kd (14 * k399 + 111) = (0, 0, false) from (kd_P (k := k399) (c := 1) (by omega) (by omega) (by decide)))])
                have ksn_480 := KS.w en_480 ksn_475 (by unfold tS; omega)
                have e481 : n_480 8 = nI k4 := by rw [en_480, pk_un (by omega)]; exact e476
                have e482 : n_480 0 = nI k395 := by rw [en_480, pk_un (by omega)]; exact e477
                have e483 : n_480 2 = nI (k399 + 1) := by rw [en_480, pk_un (by omega)]; exact e478
                have e484 : n_480 (14 * k399 + 111) = zb := by rw [en_480, pk_us]
                refine pm_aloadn hG dX12_person_159 rfl ?_
                refine pm_iloadi hG dX12_person_160 rfl ?_
                refine pm_iconst (v := nI 2) hG dX12_person_162 (by decide) ?_
                refine pm_iloadn hG dX12_person_163 rfl ?_
                refine pm_top (v := nI k10) ek10 ?_
                refine pm_bipush (v := nI 100) hG dX12_person_164 (by decide) ?_
                refine pm_idivN hG dX12_person_166 (by omega) (by decide) (by decide) ?_
                refine pm_iconst (v := nI 1) hG dX12_person_167 (by decide) ?_
                refine pm_isub hG dX12_person_168 ?_
                refine pm_top (v := nI k12) ek12 ?_
                refine pm_callV (As := [.int (nI k399), .int (nI 2), .int (nI k12)]) (rest := []) hG hR dX12_person_169 (lkX12_97 _ rfl) okV_X12_sets rfl rfl (m_sets (d := 2) (e := 14 * k399 + 112) (by omega) (by omega) (by omega)) rfl rfl hdd (Nat.le_refl _) (Nat.le_refl _) (by decide) (pm_kv (fun σ' cnt' hq => ?_))
                obtain ⟨rfl, rfl⟩ := hq
                obtain ⟨n_485, en_485⟩ : ∃ f : Nat → Int32, f = upd n_480 (14 * k399 + 112) (nI k12) := ⟨_, rfl⟩
                rw [← en_485]
                have hnn_485 := KI.w en_485 hnn_480 (okv_o (show kd (14 * k399 + 112) = (2, 20, false) from (kd_P (k := k399) (c := 2) (by omega) (by omega) (by decide))) (by omega))
                have hrn_485 := NRx.w en_485 hrn_480 (by rw [(show kd (14 * k399 + 112) = (2, 20, false) from (kd_P (k := k399) (c := 2) (by omega) (by omega) (by decide)))])
                have ksn_485 := KS.w en_485 ksn_480 (by unfold tS; omega)
                have e486 : n_485 8 = nI k4 := by rw [en_485, pk_un (by omega)]; exact e481
                have e487 : n_485 0 = nI k395 := by rw [en_485, pk_un (by omega)]; exact e482
                have e488 : n_485 2 = nI (k399 + 1) := by rw [en_485, pk_un (by omega)]; exact e483
                have e489 : n_485 (14 * k399 + 112) = nI k12 := by rw [en_485, pk_us]
                refine pm_aloadn hG dX12_person_172 rfl ?_
                refine pm_iloadi hG dX12_person_173 rfl ?_
                refine pm_iconst (v := nI 3) hG dX12_person_175 (by decide) ?_
                refine pm_iloadn hG dX12_person_176 rfl ?_
                refine pm_top (v := nI k10) ek10 ?_
                refine pm_bipush (v := nI 100) hG dX12_person_177 (by decide) ?_
                refine pm_iremM hG dX12_person_179 (by omega) (by decide) (by decide) ?_
                refine pm_iconst (v := nI 1) hG dX12_person_180 (by decide) ?_
                refine pm_isub hG dX12_person_181 ?_
                refine pm_top (v := nI k268) ek268 ?_
                refine pm_callV (As := [.int (nI k399), .int (nI 3), .int (nI k268)]) (rest := []) hG hR dX12_person_182 (lkX12_97 _ rfl) okV_X12_sets rfl rfl (m_sets (d := 2) (e := 14 * k399 + 113) (by omega) (by omega) (by omega)) rfl rfl hdd (Nat.le_refl _) (Nat.le_refl _) (by decide) (pm_kv (fun σ' cnt' hq => ?_))
                obtain ⟨rfl, rfl⟩ := hq
                obtain ⟨n_490, en_490⟩ : ∃ f : Nat → Int32, f = upd n_485 (14 * k399 + 113) (nI k268) := ⟨_, rfl⟩
                rw [← en_490]
                have hnn_490 := KI.w en_490 hnn_485 (okv_o (show kd (14 * k399 + 113) = (2, 20, false) from (kd_P (k := k399) (c := 3) (by omega) (by omega) (by decide))) (by omega))
                have hrn_490 := NRx.w en_490 hrn_485 (by rw [(show kd (14 * k399 + 113) = (2, 20, false) from (kd_P (k := k399) (c := 3) (by omega) (by omega) (by decide)))])
                have ksn_490 := KS.w en_490 ksn_485 (by unfold tS; omega)
                have e491 : n_490 8 = nI k4 := by rw [en_490, pk_un (by omega)]; exact e486
                have e492 : n_490 0 = nI k395 := by rw [en_490, pk_un (by omega)]; exact e487
                have e493 : n_490 2 = nI (k399 + 1) := by rw [en_490, pk_un (by omega)]; exact e488
                have e494 : n_490 (14 * k399 + 113) = nI k268 := by rw [en_490, pk_us]
                refine pm_aloadn hG dX12_person_185 rfl ?_
                refine pm_iloadi hG dX12_person_186 rfl ?_
                refine pm_iconst (v := nI 4) hG dX12_person_188 (by decide) ?_
                refine pm_iloadi hG dX12_person_189 rfl ?_
                refine pm_top (v := nI k398) ek398 ?_
                refine pm_callV (As := [.int (nI k399), .int (nI 4), .int (nI k398)]) (rest := []) hG hR dX12_person_191 (lkX12_97 _ rfl) okV_X12_sets rfl rfl (m_sets (d := 2) (e := 14 * k399 + 114) (by omega) (by omega) (by omega)) rfl rfl hdd (Nat.le_refl _) (Nat.le_refl _) (by decide) (pm_kv (fun σ' cnt' hq => ?_))
                obtain ⟨rfl, rfl⟩ := hq
                obtain ⟨n_495, en_495⟩ : ∃ f : Nat → Int32, f = upd n_490 (14 * k399 + 114) (nI k398) := ⟨_, rfl⟩
                rw [← en_495]
                have hnn_495 := KI.w en_495 hnn_490 (okv_o (show kd (14 * k399 + 114) = (2, 10, false) from (kd_P (k := k399) (c := 4) (by omega) (by omega) (by decide))) (by omega))
                have hrn_495 := NRx.w en_495 hrn_490 (by rw [(show kd (14 * k399 + 114) = (2, 10, false) from (kd_P (k := k399) (c := 4) (by omega) (by omega) (by decide)))])
                have ksn_495 := KS.w en_495 ksn_490 (by unfold tS; omega)
                have e496 : n_495 8 = nI k4 := by rw [en_495, pk_un (by omega)]; exact e491
                have e497 : n_495 0 = nI k395 := by rw [en_495, pk_un (by omega)]; exact e492
                have e498 : n_495 2 = nI (k399 + 1) := by rw [en_495, pk_un (by omega)]; exact e493
                have e499 : n_495 (14 * k399 + 114) = nI k398 := by rw [en_495, pk_us]
                refine pm_aloadn hG dX12_person_194 rfl ?_
                refine pm_iloadi hG dX12_person_195 rfl ?_
                refine pm_bipush (v := nI 9) hG dX12_person_197 (by decide) ?_
                refine pm_iconst (v := (-1)) hG dX12_person_199 (by decide) ?_
                refine pm_callV (As := [.int (nI k399), .int (nI 9), .int (-1)]) (rest := []) hG hR dX12_person_200 (lkX12_97 _ rfl) okV_X12_sets rfl rfl (m_sets (d := 2) (e := 14 * k399 + 119) (by omega) (by omega) (by omega)) rfl rfl hdd (Nat.le_refl _) (Nat.le_refl _) (by decide) (pm_kv (fun σ' cnt' hq => ?_))
                obtain ⟨rfl, rfl⟩ := hq
                obtain ⟨n_500, en_500⟩ : ∃ f : Nat → Int32, f = upd n_495 (14 * k399 + 119) (-1) := ⟨_, rfl⟩
                rw [← en_500]
                have hnn_500 := KI.w en_500 hnn_495 (okv_m (show kd (14 * k399 + 119) = (2, 2001, false) from (kd_P (k := k399) (c := 9) (by omega) (by omega) (by decide))))
                have hrn_500 := NRx.w en_500 hrn_495 (by rw [(show kd (14 * k399 + 119) = (2, 2001, false) from (kd_P (k := k399) (c := 9) (by omega) (by omega) (by decide)))])
                have ksn_500 := KS.w en_500 ksn_495 (by unfold tS; omega)
                have e501 : n_500 8 = nI k4 := by rw [en_500, pk_un (by omega)]; exact e496
                have e502 : n_500 0 = nI k395 := by rw [en_500, pk_un (by omega)]; exact e497
                have e503 : n_500 2 = nI (k399 + 1) := by rw [en_500, pk_un (by omega)]; exact e498
                have e504 : n_500 (14 * k399 + 119) = (-1) := by rw [en_500, pk_us]
                refine pm_aloadn hG dX12_person_203 rfl ?_
                refine pm_iloadi hG dX12_person_204 rfl ?_
                refine pm_bipush (v := nI 10) hG dX12_person_206 (by decide) ?_
                refine pm_iconst (v := (-1)) hG dX12_person_208 (by decide) ?_
                refine pm_callV (As := [.int (nI k399), .int (nI 10), .int (-1)]) (rest := []) hG hR dX12_person_209 (lkX12_97 _ rfl) okV_X12_sets rfl rfl (m_sets (d := 2) (e := 14 * k399 + 120) (by omega) (by omega) (by omega)) rfl rfl hdd (Nat.le_refl _) (Nat.le_refl _) (by decide) (pm_kv (fun σ' cnt' hq => ?_))
                obtain ⟨rfl, rfl⟩ := hq
                obtain ⟨n_505, en_505⟩ : ∃ f : Nat → Int32, f = upd n_500 (14 * k399 + 120) (-1) := ⟨_, rfl⟩
                rw [← en_505]
                have hnn_505 := KI.w en_505 hnn_500 (okv_f (show kd (14 * k399 + 120) = (0, 0, false) from (kd_P (k := k399) (c := 10) (by omega) (by omega) (by decide))))
                have hrn_505 := NRx.w en_505 hrn_500 (by rw [(show kd (14 * k399 + 120) = (0, 0, false) from (kd_P (k := k399) (c := 10) (by omega) (by omega) (by decide)))])
                have ksn_505 := KS.w en_505 ksn_500 (by unfold tS; omega)
                have e506 : n_505 8 = nI k4 := by rw [en_505, pk_un (by omega)]; exact e501
                have e507 : n_505 0 = nI k395 := by rw [en_505, pk_un (by omega)]; exact e502
                have e508 : n_505 2 = nI (k399 + 1) := by rw [en_505, pk_un (by omega)]; exact e503
                have e509 : n_505 (14 * k399 + 120) = (-1) := by rw [en_505, pk_us]
                refine pm_aloadn hG dX12_person_212 rfl ?_
                refine pm_iloadi hG dX12_person_213 rfl ?_
                refine pm_bipush (v := nI 12) hG dX12_person_215 (by decide) ?_
                refine pm_iconst (v := nI 1) hG dX12_person_217 (by decide) ?_
                refine pm_callV (As := [.int (nI k399), .int (nI 12), .int (nI 1)]) (rest := []) hG hR dX12_person_218 (lkX12_97 _ rfl) okV_X12_sets rfl rfl (m_sets (d := 2) (e := 14 * k399 + 122) (by omega) (by omega) (by omega)) rfl rfl hdd (Nat.le_refl _) (Nat.le_refl _) (by decide) (pm_kv (fun σ' cnt' hq => ?_))
                obtain ⟨rfl, rfl⟩ := hq
                obtain ⟨n_510, en_510⟩ : ∃ f : Nat → Int32, f = upd n_505 (14 * k399 + 122) (nI 1) := ⟨_, rfl⟩
                rw [← en_510]
                have hnn_510 := KI.w en_510 hnn_505 (okv_f (show kd (14 * k399 + 122) = (0, 0, false) from (kd_P (k := k399) (c := 12) (by omega) (by omega) (by decide))))
                have hrn_510 := NRx.w en_510 hrn_505 (by rw [(show kd (14 * k399 + 122) = (0, 0, false) from (kd_P (k := k399) (c := 12) (by omega) (by omega) (by decide)))])
                have ksn_510 := KS.w en_510 ksn_505 (by unfold tS; omega)
                have e511 : n_510 8 = nI k4 := by rw [en_510, pk_un (by omega)]; exact e506
                have e512 : n_510 0 = nI k395 := by rw [en_510, pk_un (by omega)]; exact e507
                have e513 : n_510 2 = nI (k399 + 1) := by rw [en_510, pk_un (by omega)]; exact e508
                have e514 : n_510 (14 * k399 + 122) = nI 1 := by rw [en_510, pk_us]
                refine pm_iloadi hG dX12_person_221 rfl ?_
                exact pm_iret hG hF dX12_person_223 rfl (Nat.le_refl _) (Nat.le_refl _) ⟨_, rfl, ⟨_, _, _, rfl, hnn_510, hrn_510, ksn_510⟩, rfl⟩
              · refine pm_aloadn hG dX12_person_102 rfl ?_
                refine pm_iconst (v := nI 4) hG dX12_person_103 (by decide) ?_
                refine pm_callV (As := [.int (nI 4)]) (rest := []) hG hR dX12_person_104 (lkX12_80 _ rfl) okV_X12_finds rfl rfl (m_finds (d := 2) (by decide) hn hz (by omega)) rfl rfl hdd (Nat.le_refl _) (Nat.le_refl _) (by decide) (pm_ki (fun v515 σ' cnt' hq => ?_))
                obtain ⟨⟨I516, A516, rfl⟩, rfl, fv515⟩ := hq
                exact pm_iret hG hF dX12_person_107 rfl (Nat.le_refl _) (Nat.le_refl _) ⟨_, rfl, ⟨_, _, _, rfl, hn, hr, KS.rf⟩, rfl⟩
            · refine pm_ifN_eq (tgt := 73) hG dX12_person_66 rfl (by omega) (fun _ => ?_) (fun q => absurd q (by omega))
              refine pm_iconst (v := nI 0) hG dX12_person_73 (by decide) ?_
              refine pm_istoreXi (loc' := [some (.ref (B + 54)), some (.int za), some (.int zb), some (.int zc), some (.int zd), some (.int (nI 0)), none, none]) hG dX12_person_74 (by decide) (pm_c1b rfl) rfl ?_
              refine pm_iloadi hG dX12_person_76 rfl ?_
              refine pm_ifN_ne (tgt := 87) hG dX12_person_78 rfl (by omega) (fun q => absurd q (by omega)) (fun _ => ?_)
              refine pm_aloadn hG dX12_person_81 rfl ?_
              refine pm_iconst (v := nI 1) hG dX12_person_82 (by decide) ?_
              refine pm_callV (As := [.int (nI 1)]) (rest := []) hG hR dX12_person_83 (lkX12_80 _ rfl) okV_X12_finds rfl rfl (m_finds (d := 2) (by decide) hn hz (by omega)) rfl rfl hdd (Nat.le_refl _) (Nat.le_refl _) (by decide) (pm_ki (fun v517 σ' cnt' hq => ?_))
              obtain ⟨⟨I518, A518, rfl⟩, rfl, fv517⟩ := hq
              exact pm_iret hG hF dX12_person_86 rfl (Nat.le_refl _) (Nat.le_refl _) ⟨_, rfl, ⟨_, _, _, rfl, hn, hr, KS.rf⟩, rfl⟩
    · refine pm_ifN_eq (tgt := 73) hG dX12_person_23 rfl (by omega) (fun _ => ?_) (fun q => absurd q (by omega))
      refine pm_iconst (v := nI 0) hG dX12_person_73 (by decide) ?_
      refine pm_istoreXi (loc' := [some (.ref (B + 54)), some (.int za), some (.int zb), some (.int zc), some (.int zd), some (.int (nI 0)), none, none]) hG dX12_person_74 (by decide) (pm_c1b rfl) rfl ?_
      refine pm_iloadi hG dX12_person_76 rfl ?_
      refine pm_ifN_ne (tgt := 87) hG dX12_person_78 rfl (by omega) (fun q => absurd q (by omega)) (fun _ => ?_)
      refine pm_aloadn hG dX12_person_81 rfl ?_
      refine pm_iconst (v := nI 1) hG dX12_person_82 (by decide) ?_
      refine pm_callV (As := [.int (nI 1)]) (rest := []) hG hR dX12_person_83 (lkX12_80 _ rfl) okV_X12_finds rfl rfl (m_finds (d := 2) (by decide) hn hz (by omega)) rfl rfl hdd (Nat.le_refl _) (Nat.le_refl _) (by decide) (pm_ki (fun v519 σ' cnt' hq => ?_))
      obtain ⟨⟨I520, A520, rfl⟩, rfl, fv519⟩ := hq
      exact pm_iret hG hF dX12_person_86 rfl (Nat.le_refl _) (Nat.le_refl _) ⟨_, rfl, ⟨_, _, _, rfl, hn, hr, KS.rf⟩, rfl⟩
  · refine pm_ifN_eq (tgt := 73) hG dX12_person_6 rfl (by omega) (fun _ => ?_) (fun q => absurd q (by omega))
    refine pm_iconst (v := nI 0) hG dX12_person_73 (by decide) ?_
    refine pm_istoreXi (loc' := [some (.ref (B + 54)), some (.int za), some (.int zb), some (.int zc), some (.int zd), some (.int (nI 0)), none, none]) hG dX12_person_74 (by decide) (pm_c1b rfl) rfl ?_
    refine pm_iloadi hG dX12_person_76 rfl ?_
    refine pm_ifN_ne (tgt := 87) hG dX12_person_78 rfl (by omega) (fun q => absurd q (by omega)) (fun _ => ?_)
    refine pm_aloadn hG dX12_person_81 rfl ?_
    refine pm_iconst (v := nI 1) hG dX12_person_82 (by decide) ?_
    refine pm_callV (As := [.int (nI 1)]) (rest := []) hG hR dX12_person_83 (lkX12_80 _ rfl) okV_X12_finds rfl rfl (m_finds (d := 2) (by decide) hn hz (by omega)) rfl rfl hdd (Nat.le_refl _) (Nat.le_refl _) (by decide) (pm_ki (fun v521 σ' cnt' hq => ?_))
    obtain ⟨⟨I522, A522, rfl⟩, rfl, fv521⟩ := hq
    exact pm_iret hG hF dX12_person_86 rfl (Nat.le_refl _) (Nat.le_refl _) ⟨_, rfl, ⟨_, _, _, rfl, hn, hr, KS.rf⟩, rfl⟩
