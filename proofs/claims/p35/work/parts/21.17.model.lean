set_option maxRecDepth 100000 in
set_option maxHeartbeats 4000000 in
theorem m_own {d B cnt p0 t0 : Nat} {σ : pm_S} {I : Nat → Int32} {A : Nat → Nat → Int32} {n k z : Nat → Int32} {ac wt pl im : Int32} {za zb : Int32} (hdd : 2 ≤ d) (hn : KI n) (hr : NR n) (hz : SZ z)  : pm_met mX12_own d 0 0 B [.ref (B + 54), .int za, .int zb] cnt (pm_mid σ (md_L B I A n k z ac wt pl (nI p0) (nI t0) im)) (pm_Qi (fun v σ' cnt' => (∃ (I' : Nat → Int32) (A' : Nat → Nat → Int32) (n' : Nat → Int32), σ' = pm_mid σ (md_L B I' A' n' k z ac wt pl (nI p0) (nI t0) im) ∧ KI n' ∧ NR n' ∧ n' 0 = n 0 ∧ n' 2 = n 2 ∧ n' 7 = n 7 ∧ n' 8 = n 8 ∧ KS n' n) ∧ cnt = cnt')) := by
  obtain ⟨kc0, hkc0, ekc0⟩ := KI.nat hn (show kd 0 = (1, 11, true) by decide)
  obtain ⟨kc2, hkc2, ekc2⟩ := KI.nat hn (show kd 2 = (1, 21, true) by decide)
  obtain ⟨kc7, hkc7, ekc7⟩ := KI.nat hn (show kd 7 = (1, 31, false) by decide)
  obtain ⟨kc8, hkc8, ekc8⟩ := KI.nat hn (show kd 8 = (1, 2001, false) by decide)
  refine pm_enter 1 (by decide) (Nat.le_of_ble_eq_true rfl) rfl (fun G hG hR hF => ?_)
  refine pm_aloadn hG dX12_own_0 rfl ?_
  refine pm_iloadn hG dX12_own_1 rfl ?_
  refine pm_callV (As := [.int za]) (rest := []) hG hR dX12_own_2 (lkX12_84 _ rfl) okV_X12_isTown rfl rfl (m_isTown (d := 1) (by decide) ekc0 (by omega)) rfl rfl hdd (Nat.le_refl _) (Nat.le_refl _) (by decide) (pm_ki (fun v1 σ' cnt' hq => ?_))
  obtain ⟨hq, rfl, rfl⟩ := hq
  rcases hq with ⟨rfl, k3, hk3, ek3⟩ | ⟨rfl, ntk3⟩
  · refine pm_ifN_eq (tgt := 29) hG dX12_own_5 rfl (by omega) (fun q => absurd q (by omega)) (fun _ => ?_)
    refine pm_iloadn hG dX12_own_8 rfl ?_
    refine pm_iconst (v := (-1)) hG dX12_own_9 (by decide) ?_
    refine pm_icmp_eq (tgt := 35) hG dX12_own_10 rfl (fun c4 => ?_) (fun c4 => ?_)
    · refine pm_aloadn hG dX12_own_35 rfl ?_
      refine pm_getf hG dX12_own_36 (flX12_7 _ rfl) rfl rfl ?_
      refine pm_bipush (v := nI 20) hG dX12_own_39 (by decide) ?_
      refine pm_iconst (v := nI 3) hG dX12_own_41 (by decide) ?_
      refine pm_iloadn hG dX12_own_42 rfl ?_
      refine pm_top (v := nI k3) ek3 ?_
      refine pm_imulN (c := 3 * k3) hG dX12_own_43 (by omega) ?_
      refine pm_iaddN (c := 3 * k3 + 20) hG dX12_own_44 (by omega) ?_
      refine pm_iconst (v := nI 2) hG dX12_own_45 (by decide) ?_
      refine pm_iaddN (c := 3 * k3 + 22) hG dX12_own_46 (by omega) ?_
      refine pm_ialdN hG dX12_own_47 rfl (by decide) (by omega) ?_
      refine pm_gen (fun x5 ex5 => ?_)
      refine pm_iconst (v := nI 1) hG dX12_own_48 (by decide) ?_
      refine pm_icmp_ne (tgt := 58) hG dX12_own_49 rfl (fun c6 => ?_) (fun c6 => ?_)
      · refine pm_aloadn hG dX12_own_58 rfl ?_
        refine pm_getf hG dX12_own_59 (flX12_7 _ rfl) rfl rfl ?_
        refine pm_bipush (v := nI 20) hG dX12_own_62 (by decide) ?_
        refine pm_iconst (v := nI 3) hG dX12_own_64 (by decide) ?_
        refine pm_iloadn hG dX12_own_65 rfl ?_
        refine pm_top (v := nI k3) ek3 ?_
        refine pm_imulN (c := 3 * k3) hG dX12_own_66 (by omega) ?_
        refine pm_iaddN (c := 3 * k3 + 20) hG dX12_own_67 (by omega) ?_
        refine pm_iconst (v := nI 1) hG dX12_own_68 (by decide) ?_
        refine pm_iaddN (c := 3 * k3 + 21) hG dX12_own_69 (by omega) ?_
        refine pm_ialdN hG dX12_own_70 rfl (by decide) (by omega) ?_
        rcases KI.opt hn (show kd (3 * k3 + 21) = (2, 20, false) from (kd_T (k := k3) (c := 1) (by omega) (by omega) (by decide))) with ek7 | ⟨k7, hk7, ek7⟩
        · refine pm_top (v := (-1)) ek7 ?_
          refine pm_istoreXn (loc' := [some (.ref (B + 54)), some (.int za), some (.int zb), some (.int (-1))]) hG dX12_own_71 (by decide) (pm_c1b rfl) rfl ?_
          refine pm_aloadn hG dX12_own_72 rfl ?_
          refine pm_getf hG dX12_own_73 (flX12_7 _ rfl) rfl rfl ?_
          refine pm_bipush (v := nI 20) hG dX12_own_76 (by decide) ?_
          refine pm_iconst (v := nI 3) hG dX12_own_78 (by decide) ?_
          refine pm_iloadn hG dX12_own_79 rfl ?_
          refine pm_top (v := nI k3) ek3 ?_
          refine pm_imulN (c := 3 * k3) hG dX12_own_80 (by omega) ?_
          refine pm_iaddN (c := 3 * k3 + 20) hG dX12_own_81 (by omega) ?_
          refine pm_iconst (v := nI 1) hG dX12_own_82 (by decide) ?_
          refine pm_iaddN (c := 3 * k3 + 21) hG dX12_own_83 (by omega) ?_
          refine pm_iloadn hG dX12_own_84 rfl ?_
          refine pm_top (v := (-1)) c4 ?_
          refine pm_iastN hG dX12_own_85 rfl (by decide) (by omega) ?_
          refine mdn_now (fun n_8 en_8 => ?_)
          have hnn_8 := KI.w en_8 hn (okv_m (show kd (3 * k3 + 21) = (2, 20, false) from (kd_T (k := k3) (c := 1) (by omega) (by omega) (by decide))))
          have hrn_8 := NRx.w en_8 hr (by rw [(show kd (3 * k3 + 21) = (2, 20, false) from (kd_T (k := k3) (c := 1) (by omega) (by omega) (by decide)))])
          have ksn_8 := KS.w en_8 KS.rf (by unfold tS; omega)
          have e9 : n_8 0 = nI kc0 := by rw [en_8, pk_un (by omega)]; exact ekc0
          have e10 : n_8 2 = nI kc2 := by rw [en_8, pk_un (by omega)]; exact ekc2
          have e11 : n_8 7 = nI kc7 := by rw [en_8, pk_un (by omega)]; exact ekc7
          have e12 : n_8 8 = nI kc8 := by rw [en_8, pk_un (by omega)]; exact ekc8
          have e13 : n_8 (3 * k3 + 22) = x5 := by rw [en_8, pk_un (by omega)]; exact ex5
          have e14 : n_8 (3 * k3 + 21) = (-1) := by rw [en_8, pk_us]
          refine pm_iloadn hG dX12_own_86 rfl ?_
          exact pm_iret hG hF dX12_own_87 rfl (Nat.le_refl _) (Nat.le_refl _) ⟨_, rfl, ⟨_, _, _, rfl, hnn_8, hrn_8, e9.trans ekc0.symm, e10.trans ekc2.symm, e11.trans ekc7.symm, e12.trans ekc8.symm, ksn_8⟩, rfl⟩
        · refine pm_top (v := nI k7) ek7 ?_
          refine pm_istoreXn (loc' := [some (.ref (B + 54)), some (.int za), some (.int zb), some (.int (nI k7))]) hG dX12_own_71 (by decide) (pm_c1b rfl) rfl ?_
          refine pm_aloadn hG dX12_own_72 rfl ?_
          refine pm_getf hG dX12_own_73 (flX12_7 _ rfl) rfl rfl ?_
          refine pm_bipush (v := nI 20) hG dX12_own_76 (by decide) ?_
          refine pm_iconst (v := nI 3) hG dX12_own_78 (by decide) ?_
          refine pm_iloadn hG dX12_own_79 rfl ?_
          refine pm_top (v := nI k3) ek3 ?_
          refine pm_imulN (c := 3 * k3) hG dX12_own_80 (by omega) ?_
          refine pm_iaddN (c := 3 * k3 + 20) hG dX12_own_81 (by omega) ?_
          refine pm_iconst (v := nI 1) hG dX12_own_82 (by decide) ?_
          refine pm_iaddN (c := 3 * k3 + 21) hG dX12_own_83 (by omega) ?_
          refine pm_iloadn hG dX12_own_84 rfl ?_
          refine pm_top (v := (-1)) c4 ?_
          refine pm_iastN hG dX12_own_85 rfl (by decide) (by omega) ?_
          refine mdn_now (fun n_15 en_15 => ?_)
          have hnn_15 := KI.w en_15 hn (okv_m (show kd (3 * k3 + 21) = (2, 20, false) from (kd_T (k := k3) (c := 1) (by omega) (by omega) (by decide))))
          have hrn_15 := NRx.w en_15 hr (by rw [(show kd (3 * k3 + 21) = (2, 20, false) from (kd_T (k := k3) (c := 1) (by omega) (by omega) (by decide)))])
          have ksn_15 := KS.w en_15 KS.rf (by unfold tS; omega)
          have e16 : n_15 0 = nI kc0 := by rw [en_15, pk_un (by omega)]; exact ekc0
          have e17 : n_15 2 = nI kc2 := by rw [en_15, pk_un (by omega)]; exact ekc2
          have e18 : n_15 7 = nI kc7 := by rw [en_15, pk_un (by omega)]; exact ekc7
          have e19 : n_15 8 = nI kc8 := by rw [en_15, pk_un (by omega)]; exact ekc8
          have e20 : n_15 (3 * k3 + 22) = x5 := by rw [en_15, pk_un (by omega)]; exact ex5
          have e21 : n_15 (3 * k3 + 21) = (-1) := by rw [en_15, pk_us]
          refine pm_iloadn hG dX12_own_86 rfl ?_
          exact pm_iret hG hF dX12_own_87 rfl (Nat.le_refl _) (Nat.le_refl _) ⟨_, rfl, ⟨_, _, _, rfl, hnn_15, hrn_15, e16.trans ekc0.symm, e17.trans ekc2.symm, e18.trans ekc7.symm, e19.trans ekc8.symm, ksn_15⟩, rfl⟩
      · refine pm_aloadn hG dX12_own_52 rfl ?_
        refine pm_iconst (v := nI 3) hG dX12_own_53 (by decide) ?_
        refine pm_callV (As := [.int (nI 3)]) (rest := []) hG hR dX12_own_54 (lkX12_80 _ rfl) okV_X12_finds rfl rfl (m_finds (d := 1) (by decide) hn hz (by omega)) rfl rfl hdd (Nat.le_refl _) (Nat.le_refl _) (by decide) (pm_ki (fun v22 σ' cnt' hq => ?_))
        obtain ⟨⟨I23, A23, rfl⟩, rfl, fv22⟩ := hq
        exact pm_iret hG hF dX12_own_57 rfl (Nat.le_refl _) (Nat.le_refl _) ⟨_, rfl, ⟨_, _, _, rfl, hn, hr, ekc0.trans ekc0.symm, ekc2.trans ekc2.symm, ekc7.trans ekc7.symm, ekc8.trans ekc8.symm, KS.rf⟩, rfl⟩
    · refine pm_aloadn hG dX12_own_13 rfl ?_
      refine pm_iloadn hG dX12_own_14 rfl ?_
      refine pm_callV (As := [.int zb]) (rest := []) hG hR dX12_own_15 (lkX12_91 _ rfl) okV_X12_isPerson rfl rfl (m_isPerson (d := 1) (by decide) ekc2 (by omega)) rfl rfl hdd (Nat.le_refl _) (Nat.le_refl _) (by decide) (pm_ki (fun v24 σ' cnt' hq => ?_))
      obtain ⟨hq, rfl, rfl⟩ := hq
      rcases hq with ⟨rfl, k26, hk26, ek26⟩ | ⟨rfl, ntk26⟩
      · refine pm_ifN_eq (tgt := 29) hG dX12_own_18 rfl (by omega) (fun q => absurd q (by omega)) (fun _ => ?_)
        refine pm_aloadn hG dX12_own_21 rfl ?_
        refine pm_iloadn hG dX12_own_22 rfl ?_
        refine pm_top (v := nI k26) ek26 ?_
        rcases KI.opt hn (show kd (14 * k26 + 119) = (2, 2001, false) from (kd_P (k := k26) (c := 9) (by omega) (by omega) (by decide))) with ek27 | ⟨k27, hk27, ek27⟩
        · refine pm_callV (As := [.int (nI k26)]) (rest := []) hG hR dX12_own_23 (lkX12_101 _ rfl) okV_X12_lives rfl rfl (m_lives1 (d := 1) (by decide) (by omega) (by omega : 14 * k26 + 119 = 14 * k26 + 119) ek27) rfl rfl hdd (Nat.le_refl _) (Nat.le_refl _) (by decide) (pm_ki (fun v28 σ' cnt' hq => ?_))
          obtain ⟨rfl, rfl, rfl⟩ := hq
          refine pm_ifN_ne (tgt := 35) hG dX12_own_26 rfl (by omega) (fun _ => ?_) (fun q => absurd q (by omega))
          refine pm_aloadn hG dX12_own_35 rfl ?_
          refine pm_getf hG dX12_own_36 (flX12_7 _ rfl) rfl rfl ?_
          refine pm_bipush (v := nI 20) hG dX12_own_39 (by decide) ?_
          refine pm_iconst (v := nI 3) hG dX12_own_41 (by decide) ?_
          refine pm_iloadn hG dX12_own_42 rfl ?_
          refine pm_top (v := nI k3) ek3 ?_
          refine pm_imulN (c := 3 * k3) hG dX12_own_43 (by omega) ?_
          refine pm_iaddN (c := 3 * k3 + 20) hG dX12_own_44 (by omega) ?_
          refine pm_iconst (v := nI 2) hG dX12_own_45 (by decide) ?_
          refine pm_iaddN (c := 3 * k3 + 22) hG dX12_own_46 (by omega) ?_
          refine pm_ialdN hG dX12_own_47 rfl (by decide) (by omega) ?_
          refine pm_gen (fun x29 ex29 => ?_)
          refine pm_iconst (v := nI 1) hG dX12_own_48 (by decide) ?_
          refine pm_icmp_ne (tgt := 58) hG dX12_own_49 rfl (fun c30 => ?_) (fun c30 => ?_)
          · refine pm_aloadn hG dX12_own_58 rfl ?_
            refine pm_getf hG dX12_own_59 (flX12_7 _ rfl) rfl rfl ?_
            refine pm_bipush (v := nI 20) hG dX12_own_62 (by decide) ?_
            refine pm_iconst (v := nI 3) hG dX12_own_64 (by decide) ?_
            refine pm_iloadn hG dX12_own_65 rfl ?_
            refine pm_top (v := nI k3) ek3 ?_
            refine pm_imulN (c := 3 * k3) hG dX12_own_66 (by omega) ?_
            refine pm_iaddN (c := 3 * k3 + 20) hG dX12_own_67 (by omega) ?_
            refine pm_iconst (v := nI 1) hG dX12_own_68 (by decide) ?_
            refine pm_iaddN (c := 3 * k3 + 21) hG dX12_own_69 (by omega) ?_
            refine pm_ialdN hG dX12_own_70 rfl (by decide) (by omega) ?_
            rcases KI.opt hn (show kd (3 * k3 + 21) = (2, 20, false) from (kd_T (k := k3) (c := 1) (by omega) (by omega) (by decide))) with ek31 | ⟨k31, hk31, ek31⟩
            · refine pm_top (v := (-1)) ek31 ?_
              refine pm_istoreXn (loc' := [some (.ref (B + 54)), some (.int za), some (.int zb), some (.int (-1))]) hG dX12_own_71 (by decide) (pm_c1b rfl) rfl ?_
              refine pm_aloadn hG dX12_own_72 rfl ?_
              refine pm_getf hG dX12_own_73 (flX12_7 _ rfl) rfl rfl ?_
              refine pm_bipush (v := nI 20) hG dX12_own_76 (by decide) ?_
              refine pm_iconst (v := nI 3) hG dX12_own_78 (by decide) ?_
              refine pm_iloadn hG dX12_own_79 rfl ?_
              refine pm_top (v := nI k3) ek3 ?_
              refine pm_imulN (c := 3 * k3) hG dX12_own_80 (by omega) ?_
              refine pm_iaddN (c := 3 * k3 + 20) hG dX12_own_81 (by omega) ?_
              refine pm_iconst (v := nI 1) hG dX12_own_82 (by decide) ?_
              refine pm_iaddN (c := 3 * k3 + 21) hG dX12_own_83 (by omega) ?_
              refine pm_iloadn hG dX12_own_84 rfl ?_
              refine pm_top (v := nI k26) ek26 ?_
              refine pm_iastN hG dX12_own_85 rfl (by decide) (by omega) ?_
              refine mdn_now (fun n_32 en_32 => ?_)
              have hnn_32 := KI.w en_32 hn (okv_o (show kd (3 * k3 + 21) = (2, 20, false) from (kd_T (k := k3) (c := 1) (by omega) (by omega) (by decide))) (by omega))
              have hrn_32 := NRx.w en_32 hr (by rw [(show kd (3 * k3 + 21) = (2, 20, false) from (kd_T (k := k3) (c := 1) (by omega) (by omega) (by decide)))])
              have ksn_32 := KS.w en_32 KS.rf (by unfold tS; omega)
              have e33 : n_32 0 = nI kc0 := by rw [en_32, pk_un (by omega)]; exact ekc0
              have e34 : n_32 2 = nI kc2 := by rw [en_32, pk_un (by omega)]; exact ekc2
              have e35 : n_32 7 = nI kc7 := by rw [en_32, pk_un (by omega)]; exact ekc7
              have e36 : n_32 8 = nI kc8 := by rw [en_32, pk_un (by omega)]; exact ekc8
              have e37 : n_32 (14 * k26 + 119) = (-1) := by rw [en_32, pk_un (by omega)]; exact ek27
              have e38 : n_32 (3 * k3 + 22) = x29 := by rw [en_32, pk_un (by omega)]; exact ex29
              have e39 : n_32 (3 * k3 + 21) = nI k26 := by rw [en_32, pk_us]
              refine pm_iloadn hG dX12_own_86 rfl ?_
              exact pm_iret hG hF dX12_own_87 rfl (Nat.le_refl _) (Nat.le_refl _) ⟨_, rfl, ⟨_, _, _, rfl, hnn_32, hrn_32, e33.trans ekc0.symm, e34.trans ekc2.symm, e35.trans ekc7.symm, e36.trans ekc8.symm, ksn_32⟩, rfl⟩
            · refine pm_top (v := nI k31) ek31 ?_
              refine pm_istoreXn (loc' := [some (.ref (B + 54)), some (.int za), some (.int zb), some (.int (nI k31))]) hG dX12_own_71 (by decide) (pm_c1b rfl) rfl ?_
              refine pm_aloadn hG dX12_own_72 rfl ?_
              refine pm_getf hG dX12_own_73 (flX12_7 _ rfl) rfl rfl ?_
              refine pm_bipush (v := nI 20) hG dX12_own_76 (by decide) ?_
              refine pm_iconst (v := nI 3) hG dX12_own_78 (by decide) ?_
              refine pm_iloadn hG dX12_own_79 rfl ?_
              refine pm_top (v := nI k3) ek3 ?_
              refine pm_imulN (c := 3 * k3) hG dX12_own_80 (by omega) ?_
              refine pm_iaddN (c := 3 * k3 + 20) hG dX12_own_81 (by omega) ?_
              refine pm_iconst (v := nI 1) hG dX12_own_82 (by decide) ?_
              refine pm_iaddN (c := 3 * k3 + 21) hG dX12_own_83 (by omega) ?_
              refine pm_iloadn hG dX12_own_84 rfl ?_
              refine pm_top (v := nI k26) ek26 ?_
              refine pm_iastN hG dX12_own_85 rfl (by decide) (by omega) ?_
              refine mdn_now (fun n_40 en_40 => ?_)
              have hnn_40 := KI.w en_40 hn (okv_o (show kd (3 * k3 + 21) = (2, 20, false) from (kd_T (k := k3) (c := 1) (by omega) (by omega) (by decide))) (by omega))
              have hrn_40 := NRx.w en_40 hr (by rw [(show kd (3 * k3 + 21) = (2, 20, false) from (kd_T (k := k3) (c := 1) (by omega) (by omega) (by decide)))])
              have ksn_40 := KS.w en_40 KS.rf (by unfold tS; omega)
              have e41 : n_40 0 = nI kc0 := by rw [en_40, pk_un (by omega)]; exact ekc0
              have e42 : n_40 2 = nI kc2 := by rw [en_40, pk_un (by omega)]; exact ekc2
              have e43 : n_40 7 = nI kc7 := by rw [en_40, pk_un (by omega)]; exact ekc7
              have e44 : n_40 8 = nI kc8 := by rw [en_40, pk_un (by omega)]; exact ekc8
              have e45 : n_40 (14 * k26 + 119) = (-1) := by rw [en_40, pk_un (by omega)]; exact ek27
              have e46 : n_40 (3 * k3 + 22) = x29 := by rw [en_40, pk_un (by omega)]; exact ex29
              have e47 : n_40 (3 * k3 + 21) = nI k26 := by rw [en_40, pk_us]
              refine pm_iloadn hG dX12_own_86 rfl ?_
              exact pm_iret hG hF dX12_own_87 rfl (Nat.le_refl _) (Nat.le_refl _) ⟨_, rfl, ⟨_, _, _, rfl, hnn_40, hrn_40, e41.trans ekc0.symm, e42.trans ekc2.symm, e43.trans ekc7.symm, e44.trans ekc8.symm, ksn_40⟩, rfl⟩
          · refine pm_aloadn hG dX12_own_52 rfl ?_
            refine pm_iconst (v := nI 3) hG dX12_own_53 (by decide) ?_
            refine pm_callV (As := [.int (nI 3)]) (rest := []) hG hR dX12_own_54 (lkX12_80 _ rfl) okV_X12_finds rfl rfl (m_finds (d := 1) (by decide) hn hz (by omega)) rfl rfl hdd (Nat.le_refl _) (Nat.le_refl _) (by decide) (pm_ki (fun v48 σ' cnt' hq => ?_))
            obtain ⟨⟨I49, A49, rfl⟩, rfl, fv48⟩ := hq
            exact pm_iret hG hF dX12_own_57 rfl (Nat.le_refl _) (Nat.le_refl _) ⟨_, rfl, ⟨_, _, _, rfl, hn, hr, ekc0.trans ekc0.symm, ekc2.trans ekc2.symm, ekc7.trans ekc7.symm, ekc8.trans ekc8.symm, KS.rf⟩, rfl⟩
        · refine pm_callV (As := [.int (nI k26)]) (rest := []) hG hR dX12_own_23 (lkX12_101 _ rfl) okV_X12_lives rfl rfl (m_lives0 (d := 1) (by decide) (by omega) (by omega : 14 * k26 + 119 = 14 * k26 + 119) ek27 (by omega)) rfl rfl hdd (Nat.le_refl _) (Nat.le_refl _) (by decide) (pm_ki (fun v50 σ' cnt' hq => ?_))
          obtain ⟨rfl, rfl, rfl⟩ := hq
          refine pm_ifN_ne (tgt := 35) hG dX12_own_26 rfl (by omega) (fun q => absurd q (by omega)) (fun _ => ?_)
          refine pm_aloadn hG dX12_own_29 rfl ?_
          refine pm_iconst (v := nI 1) hG dX12_own_30 (by decide) ?_
          refine pm_callV (As := [.int (nI 1)]) (rest := []) hG hR dX12_own_31 (lkX12_80 _ rfl) okV_X12_finds rfl rfl (m_finds (d := 1) (by decide) hn hz (by omega)) rfl rfl hdd (Nat.le_refl _) (Nat.le_refl _) (by decide) (pm_ki (fun v51 σ' cnt' hq => ?_))
          obtain ⟨⟨I52, A52, rfl⟩, rfl, fv51⟩ := hq
          exact pm_iret hG hF dX12_own_34 rfl (Nat.le_refl _) (Nat.le_refl _) ⟨_, rfl, ⟨_, _, _, rfl, hn, hr, ekc0.trans ekc0.symm, ekc2.trans ekc2.symm, ekc7.trans ekc7.symm, ekc8.trans ekc8.symm, KS.rf⟩, rfl⟩
      · refine pm_ifN_eq (tgt := 29) hG dX12_own_18 rfl (by omega) (fun _ => ?_) (fun q => absurd q (by omega))
        refine pm_aloadn hG dX12_own_29 rfl ?_
        refine pm_iconst (v := nI 1) hG dX12_own_30 (by decide) ?_
        refine pm_callV (As := [.int (nI 1)]) (rest := []) hG hR dX12_own_31 (lkX12_80 _ rfl) okV_X12_finds rfl rfl (m_finds (d := 1) (by decide) hn hz (by omega)) rfl rfl hdd (Nat.le_refl _) (Nat.le_refl _) (by decide) (pm_ki (fun v53 σ' cnt' hq => ?_))
        obtain ⟨⟨I54, A54, rfl⟩, rfl, fv53⟩ := hq
        exact pm_iret hG hF dX12_own_34 rfl (Nat.le_refl _) (Nat.le_refl _) ⟨_, rfl, ⟨_, _, _, rfl, hn, hr, ekc0.trans ekc0.symm, ekc2.trans ekc2.symm, ekc7.trans ekc7.symm, ekc8.trans ekc8.symm, KS.rf⟩, rfl⟩
  · refine pm_ifN_eq (tgt := 29) hG dX12_own_5 rfl (by omega) (fun _ => ?_) (fun q => absurd q (by omega))
    refine pm_aloadn hG dX12_own_29 rfl ?_
    refine pm_iconst (v := nI 1) hG dX12_own_30 (by decide) ?_
    refine pm_callV (As := [.int (nI 1)]) (rest := []) hG hR dX12_own_31 (lkX12_80 _ rfl) okV_X12_finds rfl rfl (m_finds (d := 1) (by decide) hn hz (by omega)) rfl rfl hdd (Nat.le_refl _) (Nat.le_refl _) (by decide) (pm_ki (fun v55 σ' cnt' hq => ?_))
    obtain ⟨⟨I56, A56, rfl⟩, rfl, fv55⟩ := hq
    exact pm_iret hG hF dX12_own_34 rfl (Nat.le_refl _) (Nat.le_refl _) ⟨_, rfl, ⟨_, _, _, rfl, hn, hr, ekc0.trans ekc0.symm, ekc2.trans ekc2.symm, ekc7.trans ekc7.symm, ekc8.trans ekc8.symm, KS.rf⟩, rfl⟩

set_option maxRecDepth 100000 in
set_option maxHeartbeats 4000000 in
theorem m_pay {d B cnt p0 t0 : Nat} {σ : pm_S} {I : Nat → Int32} {A : Nat → Nat → Int32} {n k z : Nat → Int32} {ac wt pl im : Int32} {za zb : Int32} (hdd : 2 ≤ d) (hn : KI n) (hr : NR n) (hz : SZ z)  : pm_met mX12_pay d 0 0 B [.ref (B + 54), .int za, .int zb] cnt (pm_mid σ (md_L B I A n k z ac wt pl (nI p0) (nI t0) im)) (pm_Qi (fun v σ' cnt' => (∃ (I' : Nat → Int32) (A' : Nat → Nat → Int32) (n' : Nat → Int32), σ' = pm_mid σ (md_L B I' A' n' k z ac wt pl (nI p0) (nI t0) im) ∧ KI n' ∧ NR n' ∧ n' 0 = n 0 ∧ n' 2 = n 2 ∧ n' 7 = n 7 ∧ n' 8 = n 8 ∧ KS n' n) ∧ cnt = cnt')) := by
  obtain ⟨kc0, hkc0, ekc0⟩ := KI.nat hn (show kd 0 = (1, 11, true) by decide)
  obtain ⟨kc2, hkc2, ekc2⟩ := KI.nat hn (show kd 2 = (1, 21, true) by decide)
  obtain ⟨kc7, hkc7, ekc7⟩ := KI.nat hn (show kd 7 = (1, 31, false) by decide)
  obtain ⟨kc8, hkc8, ekc8⟩ := KI.nat hn (show kd 8 = (1, 2001, false) by decide)
  refine pm_enter 0 (by decide) (Nat.le_of_ble_eq_true rfl) rfl (fun G hG hR hF => ?_)
  refine pm_aloadn hG dX12_pay_0 rfl ?_
  refine pm_iloadn hG dX12_pay_1 rfl ?_
  refine pm_callV (As := [.int za]) (rest := []) hG hR dX12_pay_2 (lkX12_91 _ rfl) okV_X12_isPerson rfl rfl (m_isPerson (d := 1) (by decide) ekc2 (by omega)) rfl rfl hdd (Nat.le_refl _) (Nat.le_refl _) (by decide) (pm_ki (fun v1 σ' cnt' hq => ?_))
  obtain ⟨hq, rfl, rfl⟩ := hq
  rcases hq with ⟨rfl, k3, hk3, ek3⟩ | ⟨rfl, ntk3⟩
  · refine pm_ifN_eq (tgt := 19) hG dX12_pay_5 rfl (by omega) (fun q => absurd q (by omega)) (fun _ => ?_)
    refine pm_iloadn hG dX12_pay_8 rfl ?_
    refine pm_iconst (v := nI 1) hG dX12_pay_9 (by decide) ?_
    refine pm_sipush (v := nI 9999) hG dX12_pay_10 (by decide) ?_
    refine pm_callS (As := [.int zb, .int (nI 1), .int (nI 9999)]) (rest := []) hG hR dX12_pay_13 (lkX12_68 _ rfl) okS_X12_in (m_in (d := 1)) rfl rfl hdd (Nat.le_refl _) (Nat.le_refl _) (by decide) (pm_ki (fun v4 σ' cnt' hq => ?_))
    obtain ⟨hq, rfl, rfl⟩ := hq
    rcases hq with ⟨rfl, ac5, bc5⟩ | ⟨rfl, c5⟩
    · obtain ⟨k6, hk6, ek6⟩ := in_nat (by omega) (by omega) ac5 bc5
      refine pm_ifN_ne (tgt := 25) hG dX12_pay_16 rfl (by omega) (fun _ => ?_) (fun q => absurd q (by omega))
      refine pm_aloadn hG dX12_pay_25 rfl ?_
      refine pm_iloadn hG dX12_pay_26 rfl ?_
      refine pm_top (v := nI k3) ek3 ?_
      rcases KI.opt hn (show kd (14 * k3 + 119) = (2, 2001, false) from (kd_P (k := k3) (c := 9) (by omega) (by omega) (by decide))) with ek7 | ⟨k7, hk7, ek7⟩
      · refine pm_callV (As := [.int (nI k3)]) (rest := []) hG hR dX12_pay_27 (lkX12_101 _ rfl) okV_X12_lives rfl rfl (m_lives1 (d := 1) (by decide) (by omega) (by omega : 14 * k3 + 119 = 14 * k3 + 119) ek7) rfl rfl hdd (Nat.le_refl _) (Nat.le_refl _) (by decide) (pm_ki (fun v8 σ' cnt' hq => ?_))
        obtain ⟨rfl, rfl, rfl⟩ := hq
        refine pm_ifN_ne (tgt := 39) hG dX12_pay_30 rfl (by omega) (fun _ => ?_) (fun q => absurd q (by omega))
        refine pm_aloadn hG dX12_pay_39 rfl ?_
        refine pm_getf hG dX12_pay_40 (flX12_7 _ rfl) rfl rfl ?_
        refine pm_bipush (v := nI 9) hG dX12_pay_43 (by decide) ?_
        refine pm_ialdN hG dX12_pay_45 rfl (by decide) (by omega) ?_
        refine pm_gen (fun x9 ex9 => ?_)
        refine pm_iloadn hG dX12_pay_46 rfl ?_
        refine pm_top (v := nI k6) ek6 ?_
        refine pm_icmp_ge (tgt := 56) hG dX12_pay_47 rfl (fun c10 => ?_) (fun c10 => ?_)
        · refine pm_aloadn hG dX12_pay_56 rfl ?_
          refine pm_getf hG dX12_pay_57 (flX12_7 _ rfl) rfl rfl ?_
          refine pm_bipush (v := nI 9) hG dX12_pay_60 (by decide) ?_
          refine pm_dup2 hG dX12_pay_62 rfl rfl ?_
          refine pm_ialdN hG dX12_pay_63 rfl (by decide) (by omega) ?_
          refine pm_top (v := x9) ex9 ?_
          refine pm_iloadn hG dX12_pay_64 rfl ?_
          refine pm_top (v := nI k6) ek6 ?_
          refine pm_isub hG dX12_pay_65 ?_
          refine pm_iastN hG dX12_pay_66 rfl (by decide) (by omega) ?_
          refine mdn_now (fun n_11 en_11 => ?_)
          have hnn_11 := KI.w en_11 hn (okv_f (show kd 9 = (0, 0, false) by decide))
          have hrn_11 := NRx.w en_11 hr (by rw [(show kd 9 = (0, 0, false) by decide)])
          have ksn_11 := KS.w en_11 KS.rf (by unfold tS; omega)
          have e12 : n_11 0 = nI kc0 := by rw [en_11, pk_un (by omega)]; exact ekc0
          have e13 : n_11 2 = nI kc2 := by rw [en_11, pk_un (by omega)]; exact ekc2
          have e14 : n_11 7 = nI kc7 := by rw [en_11, pk_un (by omega)]; exact ekc7
          have e15 : n_11 8 = nI kc8 := by rw [en_11, pk_un (by omega)]; exact ekc8
          have e16 : n_11 (14 * k3 + 119) = (-1) := by rw [en_11, pk_un (by omega)]; exact ek7
          have e17 : n_11 9 = x9 - (nI k6) := by rw [en_11, pk_us]
          refine pm_aloadn hG dX12_pay_67 rfl ?_
          refine pm_iloadn hG dX12_pay_68 rfl ?_
          refine pm_top (v := nI k3) ek3 ?_
          refine pm_bipush (v := nI 7) hG dX12_pay_69 (by decide) ?_
          refine pm_aloadn hG dX12_pay_71 rfl ?_
          refine pm_iloadn hG dX12_pay_72 rfl ?_
          refine pm_top (v := nI k3) ek3 ?_
          refine pm_bipush (v := nI 7) hG dX12_pay_73 (by decide) ?_
          refine pm_callV (As := [.int (nI k3), .int (nI 7)]) (rest := [.int (nI 7), .int (nI k3), .ref (B + 54)]) hG hR dX12_pay_75 (lkX12_72 _ rfl) okV_X12_man rfl rfl (m_man (d := 1) (e := 14 * k3 + 117) (by omega) (by omega) (by omega)) rfl rfl hdd (Nat.le_refl _) (Nat.le_refl _) (Nat.le_of_ble_eq_true rfl) (pm_ki (fun v18 σ' cnt' hq => ?_))
          obtain ⟨rfl, rfl, rfl⟩ := hq
          refine pm_gen (fun x19 ex19 => ?_)
          refine pm_iloadn hG dX12_pay_78 rfl ?_
          refine pm_top (v := nI k6) ek6 ?_
          refine pm_iadd hG dX12_pay_79 ?_
          refine pm_callV (As := [.int (nI k3), .int (nI 7), .int (x19 + (nI k6))]) (rest := []) hG hR dX12_pay_80 (lkX12_97 _ rfl) okV_X12_sets rfl rfl (m_sets (d := 1) (e := 14 * k3 + 117) (by omega) (by omega) (by omega)) rfl rfl hdd (Nat.le_refl _) (Nat.le_refl _) (by decide) (pm_kv (fun σ' cnt' hq => ?_))
          obtain ⟨rfl, rfl⟩ := hq
          obtain ⟨n_20, en_20⟩ : ∃ f : Nat → Int32, f = upd n_11 (14 * k3 + 117) (x19 + (nI k6)) := ⟨_, rfl⟩
          rw [← en_20]
          have hnn_20 := KI.w en_20 hnn_11 (okv_f (show kd (14 * k3 + 117) = (0, 0, false) from (kd_P (k := k3) (c := 7) (by omega) (by omega) (by decide))))
          have hrn_20 := NRx.w en_20 hrn_11 (by rw [(show kd (14 * k3 + 117) = (0, 0, false) from (kd_P (k := k3) (c := 7) (by omega) (by omega) (by decide)))])
          have ksn_20 := KS.w en_20 ksn_11 (by unfold tS; omega)
          have e21 : n_20 0 = nI kc0 := by rw [en_20, pk_un (by omega)]; exact e12
          have e22 : n_20 2 = nI kc2 := by rw [en_20, pk_un (by omega)]; exact e13
          have e23 : n_20 7 = nI kc7 := by rw [en_20, pk_un (by omega)]; exact e14
          have e24 : n_20 8 = nI kc8 := by rw [en_20, pk_un (by omega)]; exact e15
          have e25 : n_20 (14 * k3 + 119) = (-1) := by rw [en_20, pk_un (by omega)]; exact e16
          have e26 : n_20 9 = x9 - (nI k6) := by rw [en_20, pk_un (by omega)]; exact e17
          have e27 : n_20 (14 * k3 + 117) = x19 + (nI k6) := by rw [en_20, pk_us]
          refine pm_aloadn hG dX12_pay_83 rfl ?_
          refine pm_getf hG dX12_pay_84 (flX12_7 _ rfl) rfl rfl ?_
          refine pm_bipush (v := nI 9) hG dX12_pay_87 (by decide) ?_
          refine pm_ialdN hG dX12_pay_89 rfl (by decide) (by omega) ?_
          refine pm_top (v := x9 - (nI k6)) e26 ?_
          exact pm_iret hG hF dX12_pay_90 rfl (Nat.le_refl _) (Nat.le_refl _) ⟨_, rfl, ⟨_, _, _, rfl, hnn_20, hrn_20, e21.trans ekc0.symm, e22.trans ekc2.symm, e23.trans ekc7.symm, e24.trans ekc8.symm, ksn_20⟩, rfl⟩
        · refine pm_aloadn hG dX12_pay_50 rfl ?_
          refine pm_iconst (v := nI 2) hG dX12_pay_51 (by decide) ?_
          refine pm_callV (As := [.int (nI 2)]) (rest := []) hG hR dX12_pay_52 (lkX12_80 _ rfl) okV_X12_finds rfl rfl (m_finds (d := 1) (by decide) hn hz (by omega)) rfl rfl hdd (Nat.le_refl _) (Nat.le_refl _) (by decide) (pm_ki (fun v28 σ' cnt' hq => ?_))
          obtain ⟨⟨I29, A29, rfl⟩, rfl, fv28⟩ := hq
          exact pm_iret hG hF dX12_pay_55 rfl (Nat.le_refl _) (Nat.le_refl _) ⟨_, rfl, ⟨_, _, _, rfl, hn, hr, ekc0.trans ekc0.symm, ekc2.trans ekc2.symm, ekc7.trans ekc7.symm, ekc8.trans ekc8.symm, KS.rf⟩, rfl⟩
      · refine pm_callV (As := [.int (nI k3)]) (rest := []) hG hR dX12_pay_27 (lkX12_101 _ rfl) okV_X12_lives rfl rfl (m_lives0 (d := 1) (by decide) (by omega) (by omega : 14 * k3 + 119 = 14 * k3 + 119) ek7 (by omega)) rfl rfl hdd (Nat.le_refl _) (Nat.le_refl _) (by decide) (pm_ki (fun v30 σ' cnt' hq => ?_))
        obtain ⟨rfl, rfl, rfl⟩ := hq
        refine pm_ifN_ne (tgt := 39) hG dX12_pay_30 rfl (by omega) (fun q => absurd q (by omega)) (fun _ => ?_)
        refine pm_aloadn hG dX12_pay_33 rfl ?_
        refine pm_iconst (v := nI 3) hG dX12_pay_34 (by decide) ?_
        refine pm_callV (As := [.int (nI 3)]) (rest := []) hG hR dX12_pay_35 (lkX12_80 _ rfl) okV_X12_finds rfl rfl (m_finds (d := 1) (by decide) hn hz (by omega)) rfl rfl hdd (Nat.le_refl _) (Nat.le_refl _) (by decide) (pm_ki (fun v31 σ' cnt' hq => ?_))
        obtain ⟨⟨I32, A32, rfl⟩, rfl, fv31⟩ := hq
        exact pm_iret hG hF dX12_pay_38 rfl (Nat.le_refl _) (Nat.le_refl _) ⟨_, rfl, ⟨_, _, _, rfl, hn, hr, ekc0.trans ekc0.symm, ekc2.trans ekc2.symm, ekc7.trans ekc7.symm, ekc8.trans ekc8.symm, KS.rf⟩, rfl⟩
    · refine pm_ifN_ne (tgt := 25) hG dX12_pay_16 rfl (by omega) (fun q => absurd q (by omega)) (fun _ => ?_)
      refine pm_aloadn hG dX12_pay_19 rfl ?_
      refine pm_iconst (v := nI 1) hG dX12_pay_20 (by decide) ?_
      refine pm_callV (As := [.int (nI 1)]) (rest := []) hG hR dX12_pay_21 (lkX12_80 _ rfl) okV_X12_finds rfl rfl (m_finds (d := 1) (by decide) hn hz (by omega)) rfl rfl hdd (Nat.le_refl _) (Nat.le_refl _) (by decide) (pm_ki (fun v33 σ' cnt' hq => ?_))
      obtain ⟨⟨I34, A34, rfl⟩, rfl, fv33⟩ := hq
      exact pm_iret hG hF dX12_pay_24 rfl (Nat.le_refl _) (Nat.le_refl _) ⟨_, rfl, ⟨_, _, _, rfl, hn, hr, ekc0.trans ekc0.symm, ekc2.trans ekc2.symm, ekc7.trans ekc7.symm, ekc8.trans ekc8.symm, KS.rf⟩, rfl⟩
  · refine pm_ifN_eq (tgt := 19) hG dX12_pay_5 rfl (by omega) (fun _ => ?_) (fun q => absurd q (by omega))
    refine pm_aloadn hG dX12_pay_19 rfl ?_
    refine pm_iconst (v := nI 1) hG dX12_pay_20 (by decide) ?_
    refine pm_callV (As := [.int (nI 1)]) (rest := []) hG hR dX12_pay_21 (lkX12_80 _ rfl) okV_X12_finds rfl rfl (m_finds (d := 1) (by decide) hn hz (by omega)) rfl rfl hdd (Nat.le_refl _) (Nat.le_refl _) (by decide) (pm_ki (fun v35 σ' cnt' hq => ?_))
    obtain ⟨⟨I36, A36, rfl⟩, rfl, fv35⟩ := hq
    exact pm_iret hG hF dX12_pay_24 rfl (Nat.le_refl _) (Nat.le_refl _) ⟨_, rfl, ⟨_, _, _, rfl, hn, hr, ekc0.trans ekc0.symm, ekc2.trans ekc2.symm, ekc7.trans ekc7.symm, ekc8.trans ekc8.symm, KS.rf⟩, rfl⟩

set_option maxRecDepth 100000 in
set_option maxHeartbeats 4000000 in
theorem m_person {d B cnt p0 t0 : Nat} {σ : pm_S} {I : Nat → Int32} {A : Nat → Nat → Int32} {n k z : Nat → Int32} {ac wt pl im : Int32} {za zb zc zd : Int32} (hdd : 3 ≤ d) (hn : KI n) (hr : NR n) (hz : SZ z)  : pm_met mX12_person d 0 0 B [.ref (B + 54), .int za, .int zb, .int zc, .int zd] cnt (pm_mid σ (md_L B I A n k z ac wt pl (nI p0) (nI t0) im)) (pm_Qi (fun v σ' cnt' => (∃ (I' : Nat → Int32) (A' : Nat → Nat → Int32) (n' : Nat → Int32), σ' = pm_mid σ (md_L B I' A' n' k z ac wt pl (nI p0) (nI t0) im) ∧ KI n' ∧ NR n' ∧ n' 0 = n 0 ∧ n' 7 = n 7 ∧ n' 8 = n 8 ∧ v = vE (pN n) (n 8) (n 0) (n 2) za zb zc zd ∧ n' 2 = pE (pN n) (n 8) (n 0) (n 2) za zb zc zd ∧ ∀ j : Nat, t7u (n' 2).toNatClampNeg j → mT n' j = TE (pN n) (n 8) (n 0) (n 2) za zb zc zd j) ∧ cnt = cnt')) := by
  obtain ⟨kc0, hkc0, ekc0⟩ := KI.nat hn (show kd 0 = (1, 11, true) by decide)
  obtain ⟨kc2, hkc2, ekc2⟩ := KI.nat hn (show kd 2 = (1, 21, true) by decide)
  obtain ⟨kc7, hkc7, ekc7⟩ := KI.nat hn (show kd 7 = (1, 31, false) by decide)
  obtain ⟨kc8, hkc8, ekc8⟩ := KI.nat hn (show kd 8 = (1, 2001, false) by decide)
  refine pm_enter 3 (by decide) (Nat.le_of_ble_eq_true rfl) rfl (fun G hG hR hF => ?_)
  refine pm_iloadn hG dX12_person_0 rfl ?_
  refine pm_iconst (v := nI 0) hG dX12_person_1 (by decide) ?_
  refine pm_iconst (v := nI 1) hG dX12_person_2 (by decide) ?_
  refine pm_callS (As := [.int za, .int (nI 0), .int (nI 1)]) (rest := []) hG hR dX12_person_3 (lkX12_68 _ rfl) okS_X12_in (m_in (d := 2)) rfl rfl hdd (Nat.le_refl _) (Nat.le_refl _) (by decide) (pm_ki (fun v1 σ' cnt' hq => ?_))
  obtain ⟨hq, rfl, rfl⟩ := hq
  rcases hq with ⟨rfl, ac2, bc2⟩ | ⟨rfl, c2⟩
  · obtain ⟨k3, hk3, ek3⟩ := in_nat (by omega) (by omega) ac2 bc2
    refine pm_ifN_eq (tgt := 73) hG dX12_person_6 rfl (by omega) (fun q => absurd q (by omega)) (fun _ => ?_)
    refine pm_iloadn hG dX12_person_9 rfl ?_
    refine pm_sipush (v := (-20000)) hG dX12_person_10 (by decide) ?_
    refine pm_aloadn hG dX12_person_13 rfl ?_
    refine pm_getf hG dX12_person_14 (flX12_7 _ rfl) rfl rfl ?_
    refine pm_bipush (v := nI 8) hG dX12_person_17 (by decide) ?_
    refine pm_ialdN hG dX12_person_19 rfl (by decide) (by omega) ?_
    refine pm_top (v := nI kc8) ekc8 ?_
    refine pm_callS (As := [.int zb, .int (-20000), .int (nI kc8)]) (rest := []) hG hR dX12_person_20 (lkX12_68 _ rfl) okS_X12_in (m_in (d := 2)) rfl rfl hdd (Nat.le_refl _) (Nat.le_refl _) (by decide) (pm_ki (fun v4 σ' cnt' hq => ?_))
    obtain ⟨hq, rfl, rfl⟩ := hq
    rcases hq with ⟨rfl, ac5, bc5⟩ | ⟨rfl, c5⟩
    · refine pm_ifN_eq (tgt := 73) hG dX12_person_23 rfl (by omega) (fun q => absurd q (by omega)) (fun _ => ?_)
      refine pm_iloadn hG dX12_person_26 rfl ?_
      refine pm_if_lt (tgt := 73) hG dX12_person_27 rfl (fun c6 => ?_) (fun c6 => ?_)
      · refine pm_iconst (v := nI 0) hG dX12_person_73 (by decide) ?_
        refine pm_istoreXi (loc' := [some (.ref (B + 54)), some (.int za), some (.int zb), some (.int zc), some (.int zd), some (.int (nI 0)), none, none]) hG dX12_person_74 (by decide) (pm_c1b rfl) rfl ?_
        refine pm_iloadi hG dX12_person_76 rfl ?_
        refine pm_ifN_ne (tgt := 87) hG dX12_person_78 rfl (by omega) (fun q => absurd q (by omega)) (fun _ => ?_)
        refine pm_aloadn hG dX12_person_81 rfl ?_
        refine pm_iconst (v := nI 1) hG dX12_person_82 (by decide) ?_
        refine pm_callV (As := [.int (nI 1)]) (rest := []) hG hR dX12_person_83 (lkX12_80 _ rfl) okV_X12_finds rfl rfl (m_finds (d := 2) (by decide) hn hz (by omega)) rfl rfl hdd (Nat.le_refl _) (Nat.le_refl _) (by decide) (pm_ki (fun v7 σ' cnt' hq => ?_))
        obtain ⟨⟨I8, A8, rfl⟩, rfl, fv7⟩ := hq
        exact pm_iret hG hF dX12_person_86 rfl (Nat.le_refl _) (Nat.le_refl _) ⟨_, rfl, ⟨_, _, _, rfl, hn, hr, ekc0.trans ekc0.symm, ekc7.trans ekc7.symm, ekc8.trans ekc8.symm, ⟨fv7.trans ((by decide : (-1000000 : Int32) - nI 1 = -1000001).trans (vE_n (T := pN n) (d := n 8) (t := n 0) (p := n 2) (a := za) (b := zb) (c := zc) (e := zd) (Or.inr (Or.inr (Or.inl c6)))).1), (vE_n (T := pN n) (d := n 8) (t := n 0) (p := n 2) (a := za) (b := zb) (c := zc) (e := zd) (Or.inr (Or.inr (Or.inl c6)))).2.1, fun j _ => by rw [(vE_n (T := pN n) (d := n 8) (t := n 0) (p := n 2) (a := za) (b := zb) (c := zc) (e := zd) (Or.inr (Or.inr (Or.inl c6)))).2.2]⟩⟩, rfl⟩
      · obtain ⟨k9, hk9, ek9⟩ := nI_of c6
        refine pm_aloadn hG dX12_person_30 rfl ?_
        refine pm_iloadn hG dX12_person_31 rfl ?_
        refine pm_top (v := nI k9) ek9 ?_
        refine pm_bipush (v := nI 100) hG dX12_person_32 (by decide) ?_
        refine pm_idivN hG dX12_person_34 (by omega) (by decide) (by decide) ?_
        refine pm_iconst (v := nI 1) hG dX12_person_35 (by decide) ?_
        refine pm_isub hG dX12_person_36 ?_
        refine pm_iconst (v := nI 1) hG dX12_person_37 (by decide) ?_
        refine pm_iloadn hG dX12_person_38 rfl ?_
        refine pm_callV (As := [.int ((nI ((k9 / 100))) - (nI 1)), .int (nI 1), .int zb]) (rest := []) hG hR dX12_person_39 (lkX12_94 _ rfl) okV_X12_isParent rfl rfl (m_isParent (d := 2) (by decide) hn hz) rfl rfl hdd (Nat.le_refl _) (Nat.le_refl _) (by decide) (pm_ki (fun v10 σ' cnt' hq => ?_))
        obtain ⟨rfl, rfl, hq⟩ := hq
        rcases hq with ⟨rfl, pk11⟩ | ⟨rfl, pk11, ek11 | ⟨k11, hk11, ek11⟩⟩
        · refine pm_ifN_eq (tgt := 73) hG dX12_person_42 rfl (by omega) (fun _ => ?_) (fun q => absurd q (by omega))
          refine pm_iconst (v := nI 0) hG dX12_person_73 (by decide) ?_
          refine pm_istoreXi (loc' := [some (.ref (B + 54)), some (.int za), some (.int zb), some (.int zc), some (.int zd), some (.int (nI 0)), none, none]) hG dX12_person_74 (by decide) (pm_c1b rfl) rfl ?_
          refine pm_iloadi hG dX12_person_76 rfl ?_
          refine pm_ifN_ne (tgt := 87) hG dX12_person_78 rfl (by omega) (fun q => absurd q (by omega)) (fun _ => ?_)
          refine pm_aloadn hG dX12_person_81 rfl ?_
          refine pm_iconst (v := nI 1) hG dX12_person_82 (by decide) ?_
          refine pm_callV (As := [.int (nI 1)]) (rest := []) hG hR dX12_person_83 (lkX12_80 _ rfl) okV_X12_finds rfl rfl (m_finds (d := 2) (by decide) hn hz (by omega)) rfl rfl hdd (Nat.le_refl _) (Nat.le_refl _) (by decide) (pm_ki (fun v12 σ' cnt' hq => ?_))
          obtain ⟨⟨I13, A13, rfl⟩, rfl, fv12⟩ := hq
          exact pm_iret hG hF dX12_person_86 rfl (Nat.le_refl _) (Nat.le_refl _) ⟨_, rfl, ⟨_, _, _, rfl, hn, hr, ekc0.trans ekc0.symm, ekc7.trans ekc7.symm, ekc8.trans ekc8.symm, ⟨fv12.trans ((by decide : (-1000000 : Int32) - nI 1 = -1000001).trans (vE_n (T := pN n) (d := n 8) (t := n 0) (p := n 2) (a := za) (b := zb) (c := zc) (e := zd) (Or.inr (Or.inr (Or.inr (Or.inr (Or.inl (by rw [dv1 ek9 (by omega)]; exact pk11))))))).1), (vE_n (T := pN n) (d := n 8) (t := n 0) (p := n 2) (a := za) (b := zb) (c := zc) (e := zd) (Or.inr (Or.inr (Or.inr (Or.inr (Or.inl (by rw [dv1 ek9 (by omega)]; exact pk11))))))).2.1, fun j _ => by rw [(vE_n (T := pN n) (d := n 8) (t := n 0) (p := n 2) (a := za) (b := zb) (c := zc) (e := zd) (Or.inr (Or.inr (Or.inr (Or.inr (Or.inl (by rw [dv1 ek9 (by omega)]; exact pk11))))))).2.2]⟩⟩, rfl⟩
        · refine pm_ifN_eq (tgt := 73) hG dX12_person_42 rfl (by omega) (fun q => absurd q (by omega)) (fun _ => ?_)
          refine pm_aloadn hG dX12_person_45 rfl ?_
          refine pm_iloadn hG dX12_person_46 rfl ?_
          refine pm_top (v := nI k9) ek9 ?_
          refine pm_bipush (v := nI 100) hG dX12_person_47 (by decide) ?_
          refine pm_iremM hG dX12_person_49 (by omega) (by decide) (by decide) ?_
          refine pm_iconst (v := nI 1) hG dX12_person_50 (by decide) ?_
          refine pm_isub hG dX12_person_51 ?_
          refine pm_iconst (v := nI 0) hG dX12_person_52 (by decide) ?_
          refine pm_iloadn hG dX12_person_53 rfl ?_
          refine pm_callV (As := [.int ((nI ((k9 % 100))) - (nI 1)), .int (nI 0), .int zb]) (rest := []) hG hR dX12_person_54 (lkX12_94 _ rfl) okV_X12_isParent rfl rfl (m_isParent (d := 2) (by decide) hn hz) rfl rfl hdd (Nat.le_refl _) (Nat.le_refl _) (by decide) (pm_ki (fun v14 σ' cnt' hq => ?_))
          obtain ⟨rfl, rfl, hq⟩ := hq
          rcases hq with ⟨rfl, pk15⟩ | ⟨rfl, pk15, ek15 | ⟨k15, hk15, ek15⟩⟩
          · refine pm_ifN_eq (tgt := 73) hG dX12_person_57 rfl (by omega) (fun _ => ?_) (fun q => absurd q (by omega))
            refine pm_iconst (v := nI 0) hG dX12_person_73 (by decide) ?_
            refine pm_istoreXi (loc' := [some (.ref (B + 54)), some (.int za), some (.int zb), some (.int zc), some (.int zd), some (.int (nI 0)), none, none]) hG dX12_person_74 (by decide) (pm_c1b rfl) rfl ?_
            refine pm_iloadi hG dX12_person_76 rfl ?_
            refine pm_ifN_ne (tgt := 87) hG dX12_person_78 rfl (by omega) (fun q => absurd q (by omega)) (fun _ => ?_)
            refine pm_aloadn hG dX12_person_81 rfl ?_
            refine pm_iconst (v := nI 1) hG dX12_person_82 (by decide) ?_
            refine pm_callV (As := [.int (nI 1)]) (rest := []) hG hR dX12_person_83 (lkX12_80 _ rfl) okV_X12_finds rfl rfl (m_finds (d := 2) (by decide) hn hz (by omega)) rfl rfl hdd (Nat.le_refl _) (Nat.le_refl _) (by decide) (pm_ki (fun v16 σ' cnt' hq => ?_))
            obtain ⟨⟨I17, A17, rfl⟩, rfl, fv16⟩ := hq
            exact pm_iret hG hF dX12_person_86 rfl (Nat.le_refl _) (Nat.le_refl _) ⟨_, rfl, ⟨_, _, _, rfl, hn, hr, ekc0.trans ekc0.symm, ekc7.trans ekc7.symm, ekc8.trans ekc8.symm, ⟨fv16.trans ((by decide : (-1000000 : Int32) - nI 1 = -1000001).trans (vE_n (T := pN n) (d := n 8) (t := n 0) (p := n 2) (a := za) (b := zb) (c := zc) (e := zd) (Or.inr (Or.inr (Or.inr (Or.inr (Or.inr (by rw [rm1 ek9 (by omega)]; exact pk15))))))).1), (vE_n (T := pN n) (d := n 8) (t := n 0) (p := n 2) (a := za) (b := zb) (c := zc) (e := zd) (Or.inr (Or.inr (Or.inr (Or.inr (Or.inr (by rw [rm1 ek9 (by omega)]; exact pk15))))))).2.1, fun j _ => by rw [(vE_n (T := pN n) (d := n 8) (t := n 0) (p := n 2) (a := za) (b := zb) (c := zc) (e := zd) (Or.inr (Or.inr (Or.inr (Or.inr (Or.inr (by rw [rm1 ek9 (by omega)]; exact pk15))))))).2.2]⟩⟩, rfl⟩
          · refine pm_ifN_eq (tgt := 73) hG dX12_person_57 rfl (by omega) (fun q => absurd q (by omega)) (fun _ => ?_)
            refine pm_aloadn hG dX12_person_60 rfl ?_
            refine pm_iloadi hG dX12_person_61 rfl ?_
            refine pm_callV (As := [.int zd]) (rest := []) hG hR dX12_person_63 (lkX12_84 _ rfl) okV_X12_isTown rfl rfl (m_isTown (d := 2) (by decide) ekc0 (by omega)) rfl rfl hdd (Nat.le_refl _) (Nat.le_refl _) (by decide) (pm_ki (fun v18 σ' cnt' hq => ?_))
            obtain ⟨hq, rfl, rfl⟩ := hq
            rcases hq with ⟨rfl, k20, hk20, ek20⟩ | ⟨rfl, ntk20⟩
            · refine pm_ifN_eq (tgt := 73) hG dX12_person_66 rfl (by omega) (fun q => absurd q (by omega)) (fun _ => ?_)
              refine pm_iconst (v := nI 1) hG dX12_person_69 (by decide) ?_
              refine pm_goto (tgt := 74) hG dX12_person_70 rfl ?_
              refine pm_istoreXi (loc' := [some (.ref (B + 54)), some (.int za), some (.int zb), some (.int zc), some (.int zd), some (.int (nI 1)), none, none]) hG dX12_person_74 (by decide) (pm_c1b rfl) rfl ?_
              refine pm_iloadi hG dX12_person_76 rfl ?_
              refine pm_ifN_ne (tgt := 87) hG dX12_person_78 rfl (by omega) (fun _ => ?_) (fun q => absurd q (by omega))
              refine pm_aloadn hG dX12_person_87 rfl ?_
              refine pm_getf hG dX12_person_88 (flX12_7 _ rfl) rfl rfl ?_
              refine pm_iconst (v := nI 2) hG dX12_person_91 (by decide) ?_
              refine pm_ialdN hG dX12_person_92 rfl (by decide) (by omega) ?_
              refine pm_top (v := nI kc2) ekc2 ?_
              refine pm_istoreXi (loc' := [some (.ref (B + 54)), some (.int za), some (.int zb), some (.int zc), some (.int zd), some (.int (nI 1)), some (.int (nI kc2)), none]) hG dX12_person_93 (by decide) (pm_c1b rfl) rfl ?_
              refine pm_iloadi hG dX12_person_95 rfl ?_
              refine pm_bipush (v := nI 20) hG dX12_person_97 (by decide) ?_
              refine pm_icmpN_ne (tgt := 108) hG dX12_person_99 rfl (by omega) (by omega) (fun c21 => ?_) (fun c21 => ?_)
              · refine pm_aloadn hG dX12_person_108 rfl ?_
                refine pm_getf hG dX12_person_109 (flX12_7 _ rfl) rfl rfl ?_
                refine pm_iconst (v := nI 2) hG dX12_person_112 (by decide) ?_
                refine pm_dup2 hG dX12_person_113 rfl rfl ?_
                refine pm_ialdN hG dX12_person_114 rfl (by decide) (by omega) ?_
                refine pm_top (v := nI kc2) ekc2 ?_
                refine pm_iconst (v := nI 1) hG dX12_person_115 (by decide) ?_
                refine pm_iaddN (c := kc2 + 1) hG dX12_person_116 (by omega) ?_
                refine pm_iastN hG dX12_person_117 rfl (by decide) (by omega) ?_
                refine mdn_now (fun n_22 en_22 => ?_)
                have hnn_22 := KI.w en_22 hn (okv_n (show kd 2 = (1, 21, true) by decide) (by omega))
                have hrn_22 := NRx.pers en_22 hr ekc0 (by omega) ekc2 (by omega)
                have ksn_22 := KSh.w (h := 14 * kc2 + 110) en_22 KSh.rf (by unfold tS; omega)
                have e23 : n_22 0 = nI kc0 := by rw [en_22, pk_un (by omega)]; exact ekc0
                have e24 : n_22 7 = nI kc7 := by rw [en_22, pk_un (by omega)]; exact ekc7
                have e25 : n_22 8 = nI kc8 := by rw [en_22, pk_un (by omega)]; exact ekc8
                have e26 : n_22 2 = nI (kc2 + 1) := by rw [en_22, pk_us]
                refine pm_iconst (v := nI 0) hG dX12_person_118 (by decide) ?_
                refine pm_istoreXi (loc' := [some (.ref (B + 54)), some (.int za), some (.int zb), some (.int zc), some (.int zd), some (.int (nI 1)), some (.int (nI kc2)), some (.int (nI 0))]) hG dX12_person_119 (by decide) (pm_c1b rfl) rfl ?_
                refine pm_iloadi hG dX12_person_121 rfl ?_
                refine pm_bipush (v := nI 14) hG dX12_person_123 (by decide) ?_
                refine pm_icmpN_ge (tgt := 143) hG dX12_person_125 rfl (by omega) (by omega) (fun q => absurd q (by omega)) (fun _ => ?_)
                refine pm_aloadn hG dX12_person_128 rfl ?_
                refine pm_iloadi hG dX12_person_129 rfl ?_
                refine pm_iloadi hG dX12_person_131 rfl ?_
                refine pm_iconst (v := nI 0) hG dX12_person_133 (by decide) ?_
                refine pm_callV (As := [.int (nI kc2), .int (nI 0), .int (nI 0)]) (rest := []) hG hR dX12_person_134 (lkX12_97 _ rfl) okV_X12_sets rfl rfl (m_sets (d := 2) (e := 14 * kc2 + 110) (by omega) (by omega) (by omega)) rfl rfl hdd (Nat.le_refl _) (Nat.le_refl _) (by decide) (pm_kv (fun σ' cnt' hq => ?_))
                obtain ⟨rfl, rfl⟩ := hq
                obtain ⟨n_27, en_27⟩ : ∃ f : Nat → Int32, f = upd n_22 (14 * kc2 + 110) (nI 0) := ⟨_, rfl⟩
                rw [← en_27]
                have hnn_27 := KI.w en_27 hnn_22 (okv_f (show kd (14 * kc2 + 110) = (0, 0, false) from (kd_P (k := kc2) (c := 0) (by omega) (by omega) (by decide))))
                have hrn_27 := NRx.w en_27 hrn_22 (by rw [(show kd (14 * kc2 + 110) = (0, 0, false) from (kd_P (k := kc2) (c := 0) (by omega) (by omega) (by decide)))])
                have ksn_27 := KSh.w (h := 14 * kc2 + 110) en_27 ksn_22 (by unfold tS; omega)
                have e28 : n_27 0 = nI kc0 := by rw [en_27, pk_un (by omega)]; exact e23
                have e29 : n_27 7 = nI kc7 := by rw [en_27, pk_un (by omega)]; exact e24
                have e30 : n_27 8 = nI kc8 := by rw [en_27, pk_un (by omega)]; exact e25
                have e31 : n_27 2 = nI (kc2 + 1) := by rw [en_27, pk_un (by omega)]; exact e26
                have e32 : n_27 (14 * kc2 + 110) = nI 0 := by rw [en_27, pk_us]
                refine pm_iincX (v := nI 1) (loc' := [some (.ref (B + 54)), some (.int za), some (.int zb), some (.int zc), some (.int zd), some (.int (nI 1)), some (.int (nI kc2)), some (.int (nI 1))]) hG dX12_person_137 rfl (nI_1 _) (by decide) (pm_c1b rfl) rfl ?_
                refine pm_goto (tgt := 121) hG dX12_person_140 rfl ?_
                refine pm_iloadi hG dX12_person_121 rfl ?_
                refine pm_bipush (v := nI 14) hG dX12_person_123 (by decide) ?_
                refine pm_icmpN_ge (tgt := 143) hG dX12_person_125 rfl (by omega) (by omega) (fun q => absurd q (by omega)) (fun _ => ?_)
                refine pm_aloadn hG dX12_person_128 rfl ?_
                refine pm_iloadi hG dX12_person_129 rfl ?_
                refine pm_iloadi hG dX12_person_131 rfl ?_
                refine pm_iconst (v := nI 0) hG dX12_person_133 (by decide) ?_
                refine pm_callV (As := [.int (nI kc2), .int (nI 1), .int (nI 0)]) (rest := []) hG hR dX12_person_134 (lkX12_97 _ rfl) okV_X12_sets rfl rfl (m_sets (d := 2) (e := 14 * kc2 + 111) (by omega) (by omega) (by omega)) rfl rfl hdd (Nat.le_refl _) (Nat.le_refl _) (by decide) (pm_kv (fun σ' cnt' hq => ?_))
                obtain ⟨rfl, rfl⟩ := hq
                obtain ⟨n_33, en_33⟩ : ∃ f : Nat → Int32, f = upd n_27 (14 * kc2 + 111) (nI 0) := ⟨_, rfl⟩
                rw [← en_33]
                have hnn_33 := KI.w en_33 hnn_27 (okv_f (show kd (14 * kc2 + 111) = (0, 0, false) from (kd_P (k := kc2) (c := 1) (by omega) (by omega) (by decide))))
                have hrn_33 := NRx.w en_33 hrn_27 (by rw [(show kd (14 * kc2 + 111) = (0, 0, false) from (kd_P (k := kc2) (c := 1) (by omega) (by omega) (by decide)))])
                have ksn_33 := KSh.w (h := 14 * kc2 + 110) en_33 ksn_27 (by unfold tS; omega)
                have e34 : n_33 0 = nI kc0 := by rw [en_33, pk_un (by omega)]; exact e28
                have e35 : n_33 7 = nI kc7 := by rw [en_33, pk_un (by omega)]; exact e29
                have e36 : n_33 8 = nI kc8 := by rw [en_33, pk_un (by omega)]; exact e30
                have e37 : n_33 2 = nI (kc2 + 1) := by rw [en_33, pk_un (by omega)]; exact e31
                have e38 : n_33 (14 * kc2 + 110) = nI 0 := by rw [en_33, pk_un (by omega)]; exact e32
                have e39 : n_33 (14 * kc2 + 111) = nI 0 := by rw [en_33, pk_us]
                refine pm_iincX (v := nI 2) (loc' := [some (.ref (B + 54)), some (.int za), some (.int zb), some (.int zc), some (.int zd), some (.int (nI 1)), some (.int (nI kc2)), some (.int (nI 2))]) hG dX12_person_137 rfl (nI_1 _) (by decide) (pm_c1b rfl) rfl ?_
                refine pm_goto (tgt := 121) hG dX12_person_140 rfl ?_
                refine pm_iloadi hG dX12_person_121 rfl ?_
                refine pm_bipush (v := nI 14) hG dX12_person_123 (by decide) ?_
                refine pm_icmpN_ge (tgt := 143) hG dX12_person_125 rfl (by omega) (by omega) (fun q => absurd q (by omega)) (fun _ => ?_)
                refine pm_aloadn hG dX12_person_128 rfl ?_
                refine pm_iloadi hG dX12_person_129 rfl ?_
                refine pm_iloadi hG dX12_person_131 rfl ?_
                refine pm_iconst (v := nI 0) hG dX12_person_133 (by decide) ?_
                refine pm_callV (As := [.int (nI kc2), .int (nI 2), .int (nI 0)]) (rest := []) hG hR dX12_person_134 (lkX12_97 _ rfl) okV_X12_sets rfl rfl (m_sets (d := 2) (e := 14 * kc2 + 112) (by omega) (by omega) (by omega)) rfl rfl hdd (Nat.le_refl _) (Nat.le_refl _) (by decide) (pm_kv (fun σ' cnt' hq => ?_))
                obtain ⟨rfl, rfl⟩ := hq
                obtain ⟨n_40, en_40⟩ : ∃ f : Nat → Int32, f = upd n_33 (14 * kc2 + 112) (nI 0) := ⟨_, rfl⟩
                rw [← en_40]
                have hnn_40 := KI.w en_40 hnn_33 (okv_o (show kd (14 * kc2 + 112) = (2, 20, false) from (kd_P (k := kc2) (c := 2) (by omega) (by omega) (by decide))) (by omega))
                have hrn_40 := NRx.w en_40 hrn_33 (by rw [(show kd (14 * kc2 + 112) = (2, 20, false) from (kd_P (k := kc2) (c := 2) (by omega) (by omega) (by decide)))])
                have ksn_40 := KSh.w (h := 14 * kc2 + 110) en_40 ksn_33 (by unfold tS; omega)
                have e41 : n_40 0 = nI kc0 := by rw [en_40, pk_un (by omega)]; exact e34
                have e42 : n_40 7 = nI kc7 := by rw [en_40, pk_un (by omega)]; exact e35
                have e43 : n_40 8 = nI kc8 := by rw [en_40, pk_un (by omega)]; exact e36
                have e44 : n_40 2 = nI (kc2 + 1) := by rw [en_40, pk_un (by omega)]; exact e37
                have e45 : n_40 (14 * kc2 + 110) = nI 0 := by rw [en_40, pk_un (by omega)]; exact e38
                have e46 : n_40 (14 * kc2 + 111) = nI 0 := by rw [en_40, pk_un (by omega)]; exact e39
                have e47 : n_40 (14 * kc2 + 112) = nI 0 := by rw [en_40, pk_us]
                refine pm_iincX (v := nI 3) (loc' := [some (.ref (B + 54)), some (.int za), some (.int zb), some (.int zc), some (.int zd), some (.int (nI 1)), some (.int (nI kc2)), some (.int (nI 3))]) hG dX12_person_137 rfl (nI_1 _) (by decide) (pm_c1b rfl) rfl ?_
                refine pm_goto (tgt := 121) hG dX12_person_140 rfl ?_
                refine pm_iloadi hG dX12_person_121 rfl ?_
                refine pm_bipush (v := nI 14) hG dX12_person_123 (by decide) ?_
                refine pm_icmpN_ge (tgt := 143) hG dX12_person_125 rfl (by omega) (by omega) (fun q => absurd q (by omega)) (fun _ => ?_)
                refine pm_aloadn hG dX12_person_128 rfl ?_
                refine pm_iloadi hG dX12_person_129 rfl ?_
                refine pm_iloadi hG dX12_person_131 rfl ?_
                refine pm_iconst (v := nI 0) hG dX12_person_133 (by decide) ?_
                refine pm_callV (As := [.int (nI kc2), .int (nI 3), .int (nI 0)]) (rest := []) hG hR dX12_person_134 (lkX12_97 _ rfl) okV_X12_sets rfl rfl (m_sets (d := 2) (e := 14 * kc2 + 113) (by omega) (by omega) (by omega)) rfl rfl hdd (Nat.le_refl _) (Nat.le_refl _) (by decide) (pm_kv (fun σ' cnt' hq => ?_))
                obtain ⟨rfl, rfl⟩ := hq
                obtain ⟨n_48, en_48⟩ : ∃ f : Nat → Int32, f = upd n_40 (14 * kc2 + 113) (nI 0) := ⟨_, rfl⟩
                rw [← en_48]
                have hnn_48 := KI.w en_48 hnn_40 (okv_o (show kd (14 * kc2 + 113) = (2, 20, false) from (kd_P (k := kc2) (c := 3) (by omega) (by omega) (by decide))) (by omega))
                have hrn_48 := NRx.w en_48 hrn_40 (by rw [(show kd (14 * kc2 + 113) = (2, 20, false) from (kd_P (k := kc2) (c := 3) (by omega) (by omega) (by decide)))])
                have ksn_48 := KSh.w (h := 14 * kc2 + 110) en_48 ksn_40 (by unfold tS; omega)
                have e49 : n_48 0 = nI kc0 := by rw [en_48, pk_un (by omega)]; exact e41
                have e50 : n_48 7 = nI kc7 := by rw [en_48, pk_un (by omega)]; exact e42
                have e51 : n_48 8 = nI kc8 := by rw [en_48, pk_un (by omega)]; exact e43
                have e52 : n_48 2 = nI (kc2 + 1) := by rw [en_48, pk_un (by omega)]; exact e44
                have e53 : n_48 (14 * kc2 + 110) = nI 0 := by rw [en_48, pk_un (by omega)]; exact e45
                have e54 : n_48 (14 * kc2 + 111) = nI 0 := by rw [en_48, pk_un (by omega)]; exact e46
                have e55 : n_48 (14 * kc2 + 113) = nI 0 := by rw [en_48, pk_us]
                refine pm_iincX (v := nI 4) (loc' := [some (.ref (B + 54)), some (.int za), some (.int zb), some (.int zc), some (.int zd), some (.int (nI 1)), some (.int (nI kc2)), some (.int (nI 4))]) hG dX12_person_137 rfl (nI_1 _) (by decide) (pm_c1b rfl) rfl ?_
                refine pm_goto (tgt := 121) hG dX12_person_140 rfl ?_
                refine pm_iloadi hG dX12_person_121 rfl ?_
                refine pm_bipush (v := nI 14) hG dX12_person_123 (by decide) ?_
                refine pm_icmpN_ge (tgt := 143) hG dX12_person_125 rfl (by omega) (by omega) (fun q => absurd q (by omega)) (fun _ => ?_)
                refine pm_aloadn hG dX12_person_128 rfl ?_
                refine pm_iloadi hG dX12_person_129 rfl ?_
                refine pm_iloadi hG dX12_person_131 rfl ?_
                refine pm_iconst (v := nI 0) hG dX12_person_133 (by decide) ?_
                refine pm_callV (As := [.int (nI kc2), .int (nI 4), .int (nI 0)]) (rest := []) hG hR dX12_person_134 (lkX12_97 _ rfl) okV_X12_sets rfl rfl (m_sets (d := 2) (e := 14 * kc2 + 114) (by omega) (by omega) (by omega)) rfl rfl hdd (Nat.le_refl _) (Nat.le_refl _) (by decide) (pm_kv (fun σ' cnt' hq => ?_))
                obtain ⟨rfl, rfl⟩ := hq
                obtain ⟨n_56, en_56⟩ : ∃ f : Nat → Int32, f = upd n_48 (14 * kc2 + 114) (nI 0) := ⟨_, rfl⟩
                rw [← en_56]
                have hnn_56 := KI.w en_56 hnn_48 (okv_o (show kd (14 * kc2 + 114) = (2, 10, false) from (kd_P (k := kc2) (c := 4) (by omega) (by omega) (by decide))) (by omega))
                have hrn_56 := NRx.w en_56 hrn_48 (by rw [(show kd (14 * kc2 + 114) = (2, 10, false) from (kd_P (k := kc2) (c := 4) (by omega) (by omega) (by decide)))])
                have ksn_56 := KSh.w (h := 14 * kc2 + 110) en_56 ksn_48 (by unfold tS; omega)
                have e57 : n_56 0 = nI kc0 := by rw [en_56, pk_un (by omega)]; exact e49
                have e58 : n_56 7 = nI kc7 := by rw [en_56, pk_un (by omega)]; exact e50
                have e59 : n_56 8 = nI kc8 := by rw [en_56, pk_un (by omega)]; exact e51
                have e60 : n_56 2 = nI (kc2 + 1) := by rw [en_56, pk_un (by omega)]; exact e52
                have e61 : n_56 (14 * kc2 + 110) = nI 0 := by rw [en_56, pk_un (by omega)]; exact e53
                have e62 : n_56 (14 * kc2 + 111) = nI 0 := by rw [en_56, pk_un (by omega)]; exact e54
                have e63 : n_56 (14 * kc2 + 114) = nI 0 := by rw [en_56, pk_us]
                refine pm_iincX (v := nI 5) (loc' := [some (.ref (B + 54)), some (.int za), some (.int zb), some (.int zc), some (.int zd), some (.int (nI 1)), some (.int (nI kc2)), some (.int (nI 5))]) hG dX12_person_137 rfl (nI_1 _) (by decide) (pm_c1b rfl) rfl ?_
                refine pm_goto (tgt := 121) hG dX12_person_140 rfl ?_
                refine pm_iloadi hG dX12_person_121 rfl ?_
                refine pm_bipush (v := nI 14) hG dX12_person_123 (by decide) ?_
                refine pm_icmpN_ge (tgt := 143) hG dX12_person_125 rfl (by omega) (by omega) (fun q => absurd q (by omega)) (fun _ => ?_)
                refine pm_aloadn hG dX12_person_128 rfl ?_
                refine pm_iloadi hG dX12_person_129 rfl ?_
                refine pm_iloadi hG dX12_person_131 rfl ?_
                refine pm_iconst (v := nI 0) hG dX12_person_133 (by decide) ?_
                refine pm_callV (As := [.int (nI kc2), .int (nI 5), .int (nI 0)]) (rest := []) hG hR dX12_person_134 (lkX12_97 _ rfl) okV_X12_sets rfl rfl (m_sets (d := 2) (e := 14 * kc2 + 115) (by omega) (by omega) (by omega)) rfl rfl hdd (Nat.le_refl _) (Nat.le_refl _) (by decide) (pm_kv (fun σ' cnt' hq => ?_))
                obtain ⟨rfl, rfl⟩ := hq
                obtain ⟨n_64, en_64⟩ : ∃ f : Nat → Int32, f = upd n_56 (14 * kc2 + 115) (nI 0) := ⟨_, rfl⟩
                rw [← en_64]
                have hnn_64 := KI.w en_64 hnn_56 (okv_n (show kd (14 * kc2 + 115) = (1, 10, false) from (kd_P (k := kc2) (c := 5) (by omega) (by omega) (by decide))) (by omega))
                have hrn_64 := NRx.w en_64 hrn_56 (by rw [(show kd (14 * kc2 + 115) = (1, 10, false) from (kd_P (k := kc2) (c := 5) (by omega) (by omega) (by decide)))])
                have ksn_64 := KSh.w (h := 14 * kc2 + 110) en_64 ksn_56 (by unfold tS; omega)
                have e65 : n_64 0 = nI kc0 := by rw [en_64, pk_un (by omega)]; exact e57
                have e66 : n_64 7 = nI kc7 := by rw [en_64, pk_un (by omega)]; exact e58
                have e67 : n_64 8 = nI kc8 := by rw [en_64, pk_un (by omega)]; exact e59
                have e68 : n_64 2 = nI (kc2 + 1) := by rw [en_64, pk_un (by omega)]; exact e60
                have e69 : n_64 (14 * kc2 + 110) = nI 0 := by rw [en_64, pk_un (by omega)]; exact e61
                have e70 : n_64 (14 * kc2 + 111) = nI 0 := by rw [en_64, pk_un (by omega)]; exact e62
                have e71 : n_64 (14 * kc2 + 115) = nI 0 := by rw [en_64, pk_us]
                refine pm_iincX (v := nI 6) (loc' := [some (.ref (B + 54)), some (.int za), some (.int zb), some (.int zc), some (.int zd), some (.int (nI 1)), some (.int (nI kc2)), some (.int (nI 6))]) hG dX12_person_137 rfl (nI_1 _) (by decide) (pm_c1b rfl) rfl ?_
                refine pm_goto (tgt := 121) hG dX12_person_140 rfl ?_
                refine pm_iloadi hG dX12_person_121 rfl ?_
                refine pm_bipush (v := nI 14) hG dX12_person_123 (by decide) ?_
                refine pm_icmpN_ge (tgt := 143) hG dX12_person_125 rfl (by omega) (by omega) (fun q => absurd q (by omega)) (fun _ => ?_)
                refine pm_aloadn hG dX12_person_128 rfl ?_
                refine pm_iloadi hG dX12_person_129 rfl ?_
                refine pm_iloadi hG dX12_person_131 rfl ?_
                refine pm_iconst (v := nI 0) hG dX12_person_133 (by decide) ?_
                refine pm_callV (As := [.int (nI kc2), .int (nI 6), .int (nI 0)]) (rest := []) hG hR dX12_person_134 (lkX12_97 _ rfl) okV_X12_sets rfl rfl (m_sets (d := 2) (e := 14 * kc2 + 116) (by omega) (by omega) (by omega)) rfl rfl hdd (Nat.le_refl _) (Nat.le_refl _) (by decide) (pm_kv (fun σ' cnt' hq => ?_))
                obtain ⟨rfl, rfl⟩ := hq
                obtain ⟨n_72, en_72⟩ : ∃ f : Nat → Int32, f = upd n_64 (14 * kc2 + 116) (nI 0) := ⟨_, rfl⟩
                rw [← en_72]
                have hnn_72 := KI.w en_72 hnn_64 (okv_f (show kd (14 * kc2 + 116) = (0, 0, false) from (kd_P (k := kc2) (c := 6) (by omega) (by omega) (by decide))))
                have hrn_72 := NRx.w en_72 hrn_64 (by rw [(show kd (14 * kc2 + 116) = (0, 0, false) from (kd_P (k := kc2) (c := 6) (by omega) (by omega) (by decide)))])
                have ksn_72 := KSh.w (h := 14 * kc2 + 110) en_72 ksn_64 (by unfold tS; omega)
                have e73 : n_72 0 = nI kc0 := by rw [en_72, pk_un (by omega)]; exact e65
                have e74 : n_72 7 = nI kc7 := by rw [en_72, pk_un (by omega)]; exact e66
                have e75 : n_72 8 = nI kc8 := by rw [en_72, pk_un (by omega)]; exact e67
                have e76 : n_72 2 = nI (kc2 + 1) := by rw [en_72, pk_un (by omega)]; exact e68
                have e77 : n_72 (14 * kc2 + 110) = nI 0 := by rw [en_72, pk_un (by omega)]; exact e69
                have e78 : n_72 (14 * kc2 + 111) = nI 0 := by rw [en_72, pk_un (by omega)]; exact e70
                have e79 : n_72 (14 * kc2 + 116) = nI 0 := by rw [en_72, pk_us]
                refine pm_iincX (v := nI 7) (loc' := [some (.ref (B + 54)), some (.int za), some (.int zb), some (.int zc), some (.int zd), some (.int (nI 1)), some (.int (nI kc2)), some (.int (nI 7))]) hG dX12_person_137 rfl (nI_1 _) (by decide) (pm_c1b rfl) rfl ?_
                refine pm_goto (tgt := 121) hG dX12_person_140 rfl ?_
                refine pm_iloadi hG dX12_person_121 rfl ?_
                refine pm_bipush (v := nI 14) hG dX12_person_123 (by decide) ?_
                refine pm_icmpN_ge (tgt := 143) hG dX12_person_125 rfl (by omega) (by omega) (fun q => absurd q (by omega)) (fun _ => ?_)
                refine pm_aloadn hG dX12_person_128 rfl ?_
                refine pm_iloadi hG dX12_person_129 rfl ?_
                refine pm_iloadi hG dX12_person_131 rfl ?_
                refine pm_iconst (v := nI 0) hG dX12_person_133 (by decide) ?_
                refine pm_callV (As := [.int (nI kc2), .int (nI 7), .int (nI 0)]) (rest := []) hG hR dX12_person_134 (lkX12_97 _ rfl) okV_X12_sets rfl rfl (m_sets (d := 2) (e := 14 * kc2 + 117) (by omega) (by omega) (by omega)) rfl rfl hdd (Nat.le_refl _) (Nat.le_refl _) (by decide) (pm_kv (fun σ' cnt' hq => ?_))
                obtain ⟨rfl, rfl⟩ := hq
                obtain ⟨n_80, en_80⟩ : ∃ f : Nat → Int32, f = upd n_72 (14 * kc2 + 117) (nI 0) := ⟨_, rfl⟩
                rw [← en_80]
                have hnn_80 := KI.w en_80 hnn_72 (okv_f (show kd (14 * kc2 + 117) = (0, 0, false) from (kd_P (k := kc2) (c := 7) (by omega) (by omega) (by decide))))
                have hrn_80 := NRx.w en_80 hrn_72 (by rw [(show kd (14 * kc2 + 117) = (0, 0, false) from (kd_P (k := kc2) (c := 7) (by omega) (by omega) (by decide)))])
                have ksn_80 := KSh.w (h := 14 * kc2 + 110) en_80 ksn_72 (by unfold tS; omega)
                have e81 : n_80 0 = nI kc0 := by rw [en_80, pk_un (by omega)]; exact e73
                have e82 : n_80 7 = nI kc7 := by rw [en_80, pk_un (by omega)]; exact e74
                have e83 : n_80 8 = nI kc8 := by rw [en_80, pk_un (by omega)]; exact e75
                have e84 : n_80 2 = nI (kc2 + 1) := by rw [en_80, pk_un (by omega)]; exact e76
                have e85 : n_80 (14 * kc2 + 110) = nI 0 := by rw [en_80, pk_un (by omega)]; exact e77
                have e86 : n_80 (14 * kc2 + 111) = nI 0 := by rw [en_80, pk_un (by omega)]; exact e78
                have e87 : n_80 (14 * kc2 + 117) = nI 0 := by rw [en_80, pk_us]
                refine pm_iincX (v := nI 8) (loc' := [some (.ref (B + 54)), some (.int za), some (.int zb), some (.int zc), some (.int zd), some (.int (nI 1)), some (.int (nI kc2)), some (.int (nI 8))]) hG dX12_person_137 rfl (nI_1 _) (by decide) (pm_c1b rfl) rfl ?_
                refine pm_goto (tgt := 121) hG dX12_person_140 rfl ?_
                refine pm_iloadi hG dX12_person_121 rfl ?_
                refine pm_bipush (v := nI 14) hG dX12_person_123 (by decide) ?_
                refine pm_icmpN_ge (tgt := 143) hG dX12_person_125 rfl (by omega) (by omega) (fun q => absurd q (by omega)) (fun _ => ?_)
                refine pm_aloadn hG dX12_person_128 rfl ?_
                refine pm_iloadi hG dX12_person_129 rfl ?_
                refine pm_iloadi hG dX12_person_131 rfl ?_
                refine pm_iconst (v := nI 0) hG dX12_person_133 (by decide) ?_
                refine pm_callV (As := [.int (nI kc2), .int (nI 8), .int (nI 0)]) (rest := []) hG hR dX12_person_134 (lkX12_97 _ rfl) okV_X12_sets rfl rfl (m_sets (d := 2) (e := 14 * kc2 + 118) (by omega) (by omega) (by omega)) rfl rfl hdd (Nat.le_refl _) (Nat.le_refl _) (by decide) (pm_kv (fun σ' cnt' hq => ?_))
                obtain ⟨rfl, rfl⟩ := hq
                obtain ⟨n_88, en_88⟩ : ∃ f : Nat → Int32, f = upd n_80 (14 * kc2 + 118) (nI 0) := ⟨_, rfl⟩
                rw [← en_88]
                have hnn_88 := KI.w en_88 hnn_80 (okv_f (show kd (14 * kc2 + 118) = (0, 0, false) from (kd_P (k := kc2) (c := 8) (by omega) (by omega) (by decide))))
                have hrn_88 := NRx.w en_88 hrn_80 (by rw [(show kd (14 * kc2 + 118) = (0, 0, false) from (kd_P (k := kc2) (c := 8) (by omega) (by omega) (by decide)))])
                have ksn_88 := KSh.w (h := 14 * kc2 + 110) en_88 ksn_80 (by unfold tS; omega)
                have e89 : n_88 0 = nI kc0 := by rw [en_88, pk_un (by omega)]; exact e81
                have e90 : n_88 7 = nI kc7 := by rw [en_88, pk_un (by omega)]; exact e82
                have e91 : n_88 8 = nI kc8 := by rw [en_88, pk_un (by omega)]; exact e83
                have e92 : n_88 2 = nI (kc2 + 1) := by rw [en_88, pk_un (by omega)]; exact e84
                have e93 : n_88 (14 * kc2 + 110) = nI 0 := by rw [en_88, pk_un (by omega)]; exact e85
                have e94 : n_88 (14 * kc2 + 111) = nI 0 := by rw [en_88, pk_un (by omega)]; exact e86
                have e95 : n_88 (14 * kc2 + 118) = nI 0 := by rw [en_88, pk_us]
                refine pm_iincX (v := nI 9) (loc' := [some (.ref (B + 54)), some (.int za), some (.int zb), some (.int zc), some (.int zd), some (.int (nI 1)), some (.int (nI kc2)), some (.int (nI 9))]) hG dX12_person_137 rfl (nI_1 _) (by decide) (pm_c1b rfl) rfl ?_
                refine pm_goto (tgt := 121) hG dX12_person_140 rfl ?_
                refine pm_iloadi hG dX12_person_121 rfl ?_
                refine pm_bipush (v := nI 14) hG dX12_person_123 (by decide) ?_
                refine pm_icmpN_ge (tgt := 143) hG dX12_person_125 rfl (by omega) (by omega) (fun q => absurd q (by omega)) (fun _ => ?_)
                refine pm_aloadn hG dX12_person_128 rfl ?_
                refine pm_iloadi hG dX12_person_129 rfl ?_
                refine pm_iloadi hG dX12_person_131 rfl ?_
                refine pm_iconst (v := nI 0) hG dX12_person_133 (by decide) ?_
                refine pm_callV (As := [.int (nI kc2), .int (nI 9), .int (nI 0)]) (rest := []) hG hR dX12_person_134 (lkX12_97 _ rfl) okV_X12_sets rfl rfl (m_sets (d := 2) (e := 14 * kc2 + 119) (by omega) (by omega) (by omega)) rfl rfl hdd (Nat.le_refl _) (Nat.le_refl _) (by decide) (pm_kv (fun σ' cnt' hq => ?_))
                obtain ⟨rfl, rfl⟩ := hq
                obtain ⟨n_96, en_96⟩ : ∃ f : Nat → Int32, f = upd n_88 (14 * kc2 + 119) (nI 0) := ⟨_, rfl⟩
                rw [← en_96]
                have hnn_96 := KI.w en_96 hnn_88 (okv_o (show kd (14 * kc2 + 119) = (2, 2001, false) from (kd_P (k := kc2) (c := 9) (by omega) (by omega) (by decide))) (by omega))
                have hrn_96 := NRx.w en_96 hrn_88 (by rw [(show kd (14 * kc2 + 119) = (2, 2001, false) from (kd_P (k := kc2) (c := 9) (by omega) (by omega) (by decide)))])
                have ksn_96 := KSh.w (h := 14 * kc2 + 110) en_96 ksn_88 (by unfold tS; omega)
                have e97 : n_96 0 = nI kc0 := by rw [en_96, pk_un (by omega)]; exact e89
                have e98 : n_96 7 = nI kc7 := by rw [en_96, pk_un (by omega)]; exact e90
                have e99 : n_96 8 = nI kc8 := by rw [en_96, pk_un (by omega)]; exact e91
                have e100 : n_96 2 = nI (kc2 + 1) := by rw [en_96, pk_un (by omega)]; exact e92
                have e101 : n_96 (14 * kc2 + 110) = nI 0 := by rw [en_96, pk_un (by omega)]; exact e93
                have e102 : n_96 (14 * kc2 + 111) = nI 0 := by rw [en_96, pk_un (by omega)]; exact e94
                have e103 : n_96 (14 * kc2 + 119) = nI 0 := by rw [en_96, pk_us]
                refine pm_iincX (v := nI 10) (loc' := [some (.ref (B + 54)), some (.int za), some (.int zb), some (.int zc), some (.int zd), some (.int (nI 1)), some (.int (nI kc2)), some (.int (nI 10))]) hG dX12_person_137 rfl (nI_1 _) (by decide) (pm_c1b rfl) rfl ?_
                refine pm_goto (tgt := 121) hG dX12_person_140 rfl ?_
                refine pm_iloadi hG dX12_person_121 rfl ?_
                refine pm_bipush (v := nI 14) hG dX12_person_123 (by decide) ?_
                refine pm_icmpN_ge (tgt := 143) hG dX12_person_125 rfl (by omega) (by omega) (fun q => absurd q (by omega)) (fun _ => ?_)
                refine pm_aloadn hG dX12_person_128 rfl ?_
                refine pm_iloadi hG dX12_person_129 rfl ?_
                refine pm_iloadi hG dX12_person_131 rfl ?_
                refine pm_iconst (v := nI 0) hG dX12_person_133 (by decide) ?_
                refine pm_callV (As := [.int (nI kc2), .int (nI 10), .int (nI 0)]) (rest := []) hG hR dX12_person_134 (lkX12_97 _ rfl) okV_X12_sets rfl rfl (m_sets (d := 2) (e := 14 * kc2 + 120) (by omega) (by omega) (by omega)) rfl rfl hdd (Nat.le_refl _) (Nat.le_refl _) (by decide) (pm_kv (fun σ' cnt' hq => ?_))
                obtain ⟨rfl, rfl⟩ := hq
                obtain ⟨n_104, en_104⟩ : ∃ f : Nat → Int32, f = upd n_96 (14 * kc2 + 120) (nI 0) := ⟨_, rfl⟩
                rw [← en_104]
                have hnn_104 := KI.w en_104 hnn_96 (okv_f (show kd (14 * kc2 + 120) = (0, 0, false) from (kd_P (k := kc2) (c := 10) (by omega) (by omega) (by decide))))
                have hrn_104 := NRx.w en_104 hrn_96 (by rw [(show kd (14 * kc2 + 120) = (0, 0, false) from (kd_P (k := kc2) (c := 10) (by omega) (by omega) (by decide)))])
                have ksn_104 := KSh.w (h := 14 * kc2 + 110) en_104 ksn_96 (by unfold tS; omega)
                have e105 : n_104 0 = nI kc0 := by rw [en_104, pk_un (by omega)]; exact e97
                have e106 : n_104 7 = nI kc7 := by rw [en_104, pk_un (by omega)]; exact e98
                have e107 : n_104 8 = nI kc8 := by rw [en_104, pk_un (by omega)]; exact e99
                have e108 : n_104 2 = nI (kc2 + 1) := by rw [en_104, pk_un (by omega)]; exact e100
                have e109 : n_104 (14 * kc2 + 110) = nI 0 := by rw [en_104, pk_un (by omega)]; exact e101
                have e110 : n_104 (14 * kc2 + 111) = nI 0 := by rw [en_104, pk_un (by omega)]; exact e102
                have e111 : n_104 (14 * kc2 + 119) = nI 0 := by rw [en_104, pk_un (by omega)]; exact e103
                have e112 : n_104 (14 * kc2 + 120) = nI 0 := by rw [en_104, pk_us]
                refine pm_iincX (v := nI 11) (loc' := [some (.ref (B + 54)), some (.int za), some (.int zb), some (.int zc), some (.int zd), some (.int (nI 1)), some (.int (nI kc2)), some (.int (nI 11))]) hG dX12_person_137 rfl (nI_1 _) (by decide) (pm_c1b rfl) rfl ?_
                refine pm_goto (tgt := 121) hG dX12_person_140 rfl ?_
                refine pm_iloadi hG dX12_person_121 rfl ?_
                refine pm_bipush (v := nI 14) hG dX12_person_123 (by decide) ?_
                refine pm_icmpN_ge (tgt := 143) hG dX12_person_125 rfl (by omega) (by omega) (fun q => absurd q (by omega)) (fun _ => ?_)
                refine pm_aloadn hG dX12_person_128 rfl ?_
                refine pm_iloadi hG dX12_person_129 rfl ?_
                refine pm_iloadi hG dX12_person_131 rfl ?_
                refine pm_iconst (v := nI 0) hG dX12_person_133 (by decide) ?_
                refine pm_callV (As := [.int (nI kc2), .int (nI 11), .int (nI 0)]) (rest := []) hG hR dX12_person_134 (lkX12_97 _ rfl) okV_X12_sets rfl rfl (m_sets (d := 2) (e := 14 * kc2 + 121) (by omega) (by omega) (by omega)) rfl rfl hdd (Nat.le_refl _) (Nat.le_refl _) (by decide) (pm_kv (fun σ' cnt' hq => ?_))
                obtain ⟨rfl, rfl⟩ := hq
                obtain ⟨n_113, en_113⟩ : ∃ f : Nat → Int32, f = upd n_104 (14 * kc2 + 121) (nI 0) := ⟨_, rfl⟩
                rw [← en_113]
                have hnn_113 := KI.w en_113 hnn_104 (okv_n (show kd (14 * kc2 + 121) = (1, 2, true) from (kd_P (k := kc2) (c := 11) (by omega) (by omega) (by decide))) (by omega))
                have hrn_113 := NRx.unseat (p := kc2) en_113 hrn_104 (by omega)
                have ksn_113 := KSh.w (h := 14 * kc2 + 110) en_113 ksn_104 (by unfold tS; omega)
                have e114 : n_113 0 = nI kc0 := by rw [en_113, pk_un (by omega)]; exact e105
                have e115 : n_113 7 = nI kc7 := by rw [en_113, pk_un (by omega)]; exact e106
                have e116 : n_113 8 = nI kc8 := by rw [en_113, pk_un (by omega)]; exact e107
                have e117 : n_113 2 = nI (kc2 + 1) := by rw [en_113, pk_un (by omega)]; exact e108
                have e118 : n_113 (14 * kc2 + 110) = nI 0 := by rw [en_113, pk_un (by omega)]; exact e109
                have e119 : n_113 (14 * kc2 + 111) = nI 0 := by rw [en_113, pk_un (by omega)]; exact e110
                have e120 : n_113 (14 * kc2 + 119) = nI 0 := by rw [en_113, pk_un (by omega)]; exact e111
                have e121 : n_113 (14 * kc2 + 121) = nI 0 := by rw [en_113, pk_us]
                refine pm_iincX (v := nI 12) (loc' := [some (.ref (B + 54)), some (.int za), some (.int zb), some (.int zc), some (.int zd), some (.int (nI 1)), some (.int (nI kc2)), some (.int (nI 12))]) hG dX12_person_137 rfl (nI_1 _) (by decide) (pm_c1b rfl) rfl ?_
                refine pm_goto (tgt := 121) hG dX12_person_140 rfl ?_
                refine pm_iloadi hG dX12_person_121 rfl ?_
                refine pm_bipush (v := nI 14) hG dX12_person_123 (by decide) ?_
                refine pm_icmpN_ge (tgt := 143) hG dX12_person_125 rfl (by omega) (by omega) (fun q => absurd q (by omega)) (fun _ => ?_)
                refine pm_aloadn hG dX12_person_128 rfl ?_
                refine pm_iloadi hG dX12_person_129 rfl ?_
                refine pm_iloadi hG dX12_person_131 rfl ?_
                refine pm_iconst (v := nI 0) hG dX12_person_133 (by decide) ?_
                refine pm_callV (As := [.int (nI kc2), .int (nI 12), .int (nI 0)]) (rest := []) hG hR dX12_person_134 (lkX12_97 _ rfl) okV_X12_sets rfl rfl (m_sets (d := 2) (e := 14 * kc2 + 122) (by omega) (by omega) (by omega)) rfl rfl hdd (Nat.le_refl _) (Nat.le_refl _) (by decide) (pm_kv (fun σ' cnt' hq => ?_))
                obtain ⟨rfl, rfl⟩ := hq
                obtain ⟨n_122, en_122⟩ : ∃ f : Nat → Int32, f = upd n_113 (14 * kc2 + 122) (nI 0) := ⟨_, rfl⟩
                rw [← en_122]
                have hnn_122 := KI.w en_122 hnn_113 (okv_f (show kd (14 * kc2 + 122) = (0, 0, false) from (kd_P (k := kc2) (c := 12) (by omega) (by omega) (by decide))))
                have hrn_122 := NRx.w en_122 hrn_113 (by rw [(show kd (14 * kc2 + 122) = (0, 0, false) from (kd_P (k := kc2) (c := 12) (by omega) (by omega) (by decide)))])
                have ksn_122 := KSh.w (h := 14 * kc2 + 110) en_122 ksn_113 (by unfold tS; omega)
                have e123 : n_122 0 = nI kc0 := by rw [en_122, pk_un (by omega)]; exact e114
                have e124 : n_122 7 = nI kc7 := by rw [en_122, pk_un (by omega)]; exact e115
                have e125 : n_122 8 = nI kc8 := by rw [en_122, pk_un (by omega)]; exact e116
                have e126 : n_122 2 = nI (kc2 + 1) := by rw [en_122, pk_un (by omega)]; exact e117
                have e127 : n_122 (14 * kc2 + 110) = nI 0 := by rw [en_122, pk_un (by omega)]; exact e118
                have e128 : n_122 (14 * kc2 + 111) = nI 0 := by rw [en_122, pk_un (by omega)]; exact e119
                have e129 : n_122 (14 * kc2 + 119) = nI 0 := by rw [en_122, pk_un (by omega)]; exact e120
                have e130 : n_122 (14 * kc2 + 121) = nI 0 := by rw [en_122, pk_un (by omega)]; exact e121
                have e131 : n_122 (14 * kc2 + 122) = nI 0 := by rw [en_122, pk_us]
                refine pm_iincX (v := nI 13) (loc' := [some (.ref (B + 54)), some (.int za), some (.int zb), some (.int zc), some (.int zd), some (.int (nI 1)), some (.int (nI kc2)), some (.int (nI 13))]) hG dX12_person_137 rfl (nI_1 _) (by decide) (pm_c1b rfl) rfl ?_
                refine pm_goto (tgt := 121) hG dX12_person_140 rfl ?_
                refine pm_iloadi hG dX12_person_121 rfl ?_
                refine pm_bipush (v := nI 14) hG dX12_person_123 (by decide) ?_
                refine pm_icmpN_ge (tgt := 143) hG dX12_person_125 rfl (by omega) (by omega) (fun q => absurd q (by omega)) (fun _ => ?_)
                refine pm_aloadn hG dX12_person_128 rfl ?_
                refine pm_iloadi hG dX12_person_129 rfl ?_
                refine pm_iloadi hG dX12_person_131 rfl ?_
                refine pm_iconst (v := nI 0) hG dX12_person_133 (by decide) ?_
                refine pm_callV (As := [.int (nI kc2), .int (nI 13), .int (nI 0)]) (rest := []) hG hR dX12_person_134 (lkX12_97 _ rfl) okV_X12_sets rfl rfl (m_sets (d := 2) (e := 14 * kc2 + 123) (by omega) (by omega) (by omega)) rfl rfl hdd (Nat.le_refl _) (Nat.le_refl _) (by decide) (pm_kv (fun σ' cnt' hq => ?_))
                obtain ⟨rfl, rfl⟩ := hq
                obtain ⟨n_132, en_132⟩ : ∃ f : Nat → Int32, f = upd n_122 (14 * kc2 + 123) (nI 0) := ⟨_, rfl⟩
                rw [← en_132]
                have hnn_132 := KI.w en_132 hnn_122 (okv_f (show kd (14 * kc2 + 123) = (0, 0, false) from (kd_P (k := kc2) (c := 13) (by omega) (by omega) (by decide))))
                have hrn_132 := NRx.w en_132 hrn_122 (by rw [(show kd (14 * kc2 + 123) = (0, 0, false) from (kd_P (k := kc2) (c := 13) (by omega) (by omega) (by decide)))])
                have ksn_132 := KSh.w (h := 14 * kc2 + 110) en_132 ksn_122 (by unfold tS; omega)
                have e133 : n_132 0 = nI kc0 := by rw [en_132, pk_un (by omega)]; exact e123
                have e134 : n_132 7 = nI kc7 := by rw [en_132, pk_un (by omega)]; exact e124
                have e135 : n_132 8 = nI kc8 := by rw [en_132, pk_un (by omega)]; exact e125
                have e136 : n_132 2 = nI (kc2 + 1) := by rw [en_132, pk_un (by omega)]; exact e126
                have e137 : n_132 (14 * kc2 + 110) = nI 0 := by rw [en_132, pk_un (by omega)]; exact e127
                have e138 : n_132 (14 * kc2 + 111) = nI 0 := by rw [en_132, pk_un (by omega)]; exact e128
                have e139 : n_132 (14 * kc2 + 119) = nI 0 := by rw [en_132, pk_un (by omega)]; exact e129
                have e140 : n_132 (14 * kc2 + 121) = nI 0 := by rw [en_132, pk_un (by omega)]; exact e130
                have e141 : n_132 (14 * kc2 + 123) = nI 0 := by rw [en_132, pk_us]
                refine pm_iincX (v := nI 14) (loc' := [some (.ref (B + 54)), some (.int za), some (.int zb), some (.int zc), some (.int zd), some (.int (nI 1)), some (.int (nI kc2)), some (.int (nI 14))]) hG dX12_person_137 rfl (nI_1 _) (by decide) (pm_c1b rfl) rfl ?_
                refine pm_goto (tgt := 121) hG dX12_person_140 rfl ?_
                refine pm_iloadi hG dX12_person_121 rfl ?_
                refine pm_bipush (v := nI 14) hG dX12_person_123 (by decide) ?_
                refine pm_icmpN_ge (tgt := 143) hG dX12_person_125 rfl (by omega) (by omega) (fun _ => ?_) (fun q => absurd q (by omega))
                refine pm_aloadn hG dX12_person_143 rfl ?_
                refine pm_iloadi hG dX12_person_144 rfl ?_
                refine pm_iconst (v := nI 0) hG dX12_person_146 (by decide) ?_
                refine pm_iloadn hG dX12_person_147 rfl ?_
                refine pm_top (v := nI k3) ek3 ?_
                refine pm_callV (As := [.int (nI kc2), .int (nI 0), .int (nI k3)]) (rest := []) hG hR dX12_person_148 (lkX12_97 _ rfl) okV_X12_sets rfl rfl (m_sets (d := 2) (e := 14 * kc2 + 110) (by omega) (by omega) (by omega)) rfl rfl hdd (Nat.le_refl _) (Nat.le_refl _) (by decide) (pm_kv (fun σ' cnt' hq => ?_))
                obtain ⟨rfl, rfl⟩ := hq
                obtain ⟨n_142, en_142⟩ : ∃ f : Nat → Int32, f = upd n_132 (14 * kc2 + 110) (nI k3) := ⟨_, rfl⟩
                rw [← en_142]
                have hnn_142 := KI.w en_142 hnn_132 (okv_f (show kd (14 * kc2 + 110) = (0, 0, false) from (kd_P (k := kc2) (c := 0) (by omega) (by omega) (by decide))))
                have hrn_142 := NRx.w en_142 hrn_132 (by rw [(show kd (14 * kc2 + 110) = (0, 0, false) from (kd_P (k := kc2) (c := 0) (by omega) (by omega) (by decide)))])
                have ksn_142 := KSh.w (h := 14 * kc2 + 110) en_142 ksn_132 (by unfold tS; omega)
                have e143 : n_142 0 = nI kc0 := by rw [en_142, pk_un (by omega)]; exact e133
                have e144 : n_142 7 = nI kc7 := by rw [en_142, pk_un (by omega)]; exact e134
                have e145 : n_142 8 = nI kc8 := by rw [en_142, pk_un (by omega)]; exact e135
                have e146 : n_142 2 = nI (kc2 + 1) := by rw [en_142, pk_un (by omega)]; exact e136
                have e147 : n_142 (14 * kc2 + 111) = nI 0 := by rw [en_142, pk_un (by omega)]; exact e138
                have e148 : n_142 (14 * kc2 + 119) = nI 0 := by rw [en_142, pk_un (by omega)]; exact e139
                have e149 : n_142 (14 * kc2 + 121) = nI 0 := by rw [en_142, pk_un (by omega)]; exact e140
                have e150 : n_142 (14 * kc2 + 110) = nI k3 := by rw [en_142, pk_us]
                refine pm_aloadn hG dX12_person_151 rfl ?_
                refine pm_iloadi hG dX12_person_152 rfl ?_
                refine pm_iconst (v := nI 1) hG dX12_person_154 (by decide) ?_
                refine pm_iloadn hG dX12_person_155 rfl ?_
                refine pm_callV (As := [.int (nI kc2), .int (nI 1), .int zb]) (rest := []) hG hR dX12_person_156 (lkX12_97 _ rfl) okV_X12_sets rfl rfl (m_sets (d := 2) (e := 14 * kc2 + 111) (by omega) (by omega) (by omega)) rfl rfl hdd (Nat.le_refl _) (Nat.le_refl _) (by decide) (pm_kv (fun σ' cnt' hq => ?_))
                obtain ⟨rfl, rfl⟩ := hq
                obtain ⟨n_151, en_151⟩ : ∃ f : Nat → Int32, f = upd n_142 (14 * kc2 + 111) zb := ⟨_, rfl⟩
                rw [← en_151]
                have hnn_151 := KI.w en_151 hnn_142 (okv_f (show kd (14 * kc2 + 111) = (0, 0, false) from (kd_P (k := kc2) (c := 1) (by omega) (by omega) (by decide))))
                have hrn_151 := NRx.w en_151 hrn_142 (by rw [(show kd (14 * kc2 + 111) = (0, 0, false) from (kd_P (k := kc2) (c := 1) (by omega) (by omega) (by decide)))])
                have ksn_151 := KSh.w (h := 14 * kc2 + 110) en_151 ksn_142 (by unfold tS; omega)
                have e152 : n_151 0 = nI kc0 := by rw [en_151, pk_un (by omega)]; exact e143
                have e153 : n_151 7 = nI kc7 := by rw [en_151, pk_un (by omega)]; exact e144
                have e154 : n_151 8 = nI kc8 := by rw [en_151, pk_un (by omega)]; exact e145
                have e155 : n_151 2 = nI (kc2 + 1) := by rw [en_151, pk_un (by omega)]; exact e146
                have e156 : n_151 (14 * kc2 + 119) = nI 0 := by rw [en_151, pk_un (by omega)]; exact e148
                have e157 : n_151 (14 * kc2 + 121) = nI 0 := by rw [en_151, pk_un (by omega)]; exact e149
                have e158 : n_151 (14 * kc2 + 110) = nI k3 := by rw [en_151, pk_un (by omega)]; exact e150
                have e159 : n_151 (14 * kc2 + 111) = zb := by rw [en_151, pk_us]
                refine pm_aloadn hG dX12_person_159 rfl ?_
                refine pm_iloadi hG dX12_person_160 rfl ?_
                refine pm_iconst (v := nI 2) hG dX12_person_162 (by decide) ?_
                refine pm_iloadn hG dX12_person_163 rfl ?_
                refine pm_top (v := nI k9) ek9 ?_
                refine pm_bipush (v := nI 100) hG dX12_person_164 (by decide) ?_
                refine pm_idivN hG dX12_person_166 (by omega) (by decide) (by decide) ?_
                refine pm_iconst (v := nI 1) hG dX12_person_167 (by decide) ?_
                refine pm_isub hG dX12_person_168 ?_
                refine pm_top (v := (-1)) ek11 ?_
                refine pm_callV (As := [.int (nI kc2), .int (nI 2), .int (-1)]) (rest := []) hG hR dX12_person_169 (lkX12_97 _ rfl) okV_X12_sets rfl rfl (m_sets (d := 2) (e := 14 * kc2 + 112) (by omega) (by omega) (by omega)) rfl rfl hdd (Nat.le_refl _) (Nat.le_refl _) (by decide) (pm_kv (fun σ' cnt' hq => ?_))
                obtain ⟨rfl, rfl⟩ := hq
                obtain ⟨n_160, en_160⟩ : ∃ f : Nat → Int32, f = upd n_151 (14 * kc2 + 112) (-1) := ⟨_, rfl⟩
                rw [← en_160]
                have hnn_160 := KI.w en_160 hnn_151 (okv_m (show kd (14 * kc2 + 112) = (2, 20, false) from (kd_P (k := kc2) (c := 2) (by omega) (by omega) (by decide))))
                have hrn_160 := NRx.w en_160 hrn_151 (by rw [(show kd (14 * kc2 + 112) = (2, 20, false) from (kd_P (k := kc2) (c := 2) (by omega) (by omega) (by decide)))])
                have ksn_160 := KSh.w (h := 14 * kc2 + 110) en_160 ksn_151 (by unfold tS; omega)
                have e161 : n_160 0 = nI kc0 := by rw [en_160, pk_un (by omega)]; exact e152
                have e162 : n_160 7 = nI kc7 := by rw [en_160, pk_un (by omega)]; exact e153
                have e163 : n_160 8 = nI kc8 := by rw [en_160, pk_un (by omega)]; exact e154
                have e164 : n_160 2 = nI (kc2 + 1) := by rw [en_160, pk_un (by omega)]; exact e155
                have e165 : n_160 (14 * kc2 + 119) = nI 0 := by rw [en_160, pk_un (by omega)]; exact e156
                have e166 : n_160 (14 * kc2 + 121) = nI 0 := by rw [en_160, pk_un (by omega)]; exact e157
                have e167 : n_160 (14 * kc2 + 110) = nI k3 := by rw [en_160, pk_un (by omega)]; exact e158
                have e168 : n_160 (14 * kc2 + 111) = zb := by rw [en_160, pk_un (by omega)]; exact e159
                have e169 : n_160 (14 * kc2 + 112) = (-1) := by rw [en_160, pk_us]
                refine pm_aloadn hG dX12_person_172 rfl ?_
                refine pm_iloadi hG dX12_person_173 rfl ?_
                refine pm_iconst (v := nI 3) hG dX12_person_175 (by decide) ?_
                refine pm_iloadn hG dX12_person_176 rfl ?_
                refine pm_top (v := nI k9) ek9 ?_
                refine pm_bipush (v := nI 100) hG dX12_person_177 (by decide) ?_
                refine pm_iremM hG dX12_person_179 (by omega) (by decide) (by decide) ?_
                refine pm_iconst (v := nI 1) hG dX12_person_180 (by decide) ?_
                refine pm_isub hG dX12_person_181 ?_
                refine pm_top (v := (-1)) ek15 ?_
                refine pm_callV (As := [.int (nI kc2), .int (nI 3), .int (-1)]) (rest := []) hG hR dX12_person_182 (lkX12_97 _ rfl) okV_X12_sets rfl rfl (m_sets (d := 2) (e := 14 * kc2 + 113) (by omega) (by omega) (by omega)) rfl rfl hdd (Nat.le_refl _) (Nat.le_refl _) (by decide) (pm_kv (fun σ' cnt' hq => ?_))
                obtain ⟨rfl, rfl⟩ := hq
                obtain ⟨n_170, en_170⟩ : ∃ f : Nat → Int32, f = upd n_160 (14 * kc2 + 113) (-1) := ⟨_, rfl⟩
                rw [← en_170]
                have hnn_170 := KI.w en_170 hnn_160 (okv_m (show kd (14 * kc2 + 113) = (2, 20, false) from (kd_P (k := kc2) (c := 3) (by omega) (by omega) (by decide))))
                have hrn_170 := NRx.w en_170 hrn_160 (by rw [(show kd (14 * kc2 + 113) = (2, 20, false) from (kd_P (k := kc2) (c := 3) (by omega) (by omega) (by decide)))])
                have ksn_170 := KSh.w (h := 14 * kc2 + 110) en_170 ksn_160 (by unfold tS; omega)
                have e171 : n_170 0 = nI kc0 := by rw [en_170, pk_un (by omega)]; exact e161
                have e172 : n_170 7 = nI kc7 := by rw [en_170, pk_un (by omega)]; exact e162
                have e173 : n_170 8 = nI kc8 := by rw [en_170, pk_un (by omega)]; exact e163
                have e174 : n_170 2 = nI (kc2 + 1) := by rw [en_170, pk_un (by omega)]; exact e164
                have e175 : n_170 (14 * kc2 + 119) = nI 0 := by rw [en_170, pk_un (by omega)]; exact e165
                have e176 : n_170 (14 * kc2 + 121) = nI 0 := by rw [en_170, pk_un (by omega)]; exact e166
                have e177 : n_170 (14 * kc2 + 110) = nI k3 := by rw [en_170, pk_un (by omega)]; exact e167
                have e178 : n_170 (14 * kc2 + 111) = zb := by rw [en_170, pk_un (by omega)]; exact e168
                have e179 : n_170 (14 * kc2 + 113) = (-1) := by rw [en_170, pk_us]
                refine pm_aloadn hG dX12_person_185 rfl ?_
                refine pm_iloadi hG dX12_person_186 rfl ?_
                refine pm_iconst (v := nI 4) hG dX12_person_188 (by decide) ?_
                refine pm_iloadi hG dX12_person_189 rfl ?_
                refine pm_top (v := nI k20) ek20 ?_
                refine pm_callV (As := [.int (nI kc2), .int (nI 4), .int (nI k20)]) (rest := []) hG hR dX12_person_191 (lkX12_97 _ rfl) okV_X12_sets rfl rfl (m_sets (d := 2) (e := 14 * kc2 + 114) (by omega) (by omega) (by omega)) rfl rfl hdd (Nat.le_refl _) (Nat.le_refl _) (by decide) (pm_kv (fun σ' cnt' hq => ?_))
                obtain ⟨rfl, rfl⟩ := hq
                obtain ⟨n_180, en_180⟩ : ∃ f : Nat → Int32, f = upd n_170 (14 * kc2 + 114) (nI k20) := ⟨_, rfl⟩
                rw [← en_180]
                have hnn_180 := KI.w en_180 hnn_170 (okv_o (show kd (14 * kc2 + 114) = (2, 10, false) from (kd_P (k := kc2) (c := 4) (by omega) (by omega) (by decide))) (by omega))
                have hrn_180 := NRx.w en_180 hrn_170 (by rw [(show kd (14 * kc2 + 114) = (2, 10, false) from (kd_P (k := kc2) (c := 4) (by omega) (by omega) (by decide)))])
                have ksn_180 := KSh.w (h := 14 * kc2 + 110) en_180 ksn_170 (by unfold tS; omega)
                have e181 : n_180 0 = nI kc0 := by rw [en_180, pk_un (by omega)]; exact e171
                have e182 : n_180 7 = nI kc7 := by rw [en_180, pk_un (by omega)]; exact e172
                have e183 : n_180 8 = nI kc8 := by rw [en_180, pk_un (by omega)]; exact e173
                have e184 : n_180 2 = nI (kc2 + 1) := by rw [en_180, pk_un (by omega)]; exact e174
                have e185 : n_180 (14 * kc2 + 119) = nI 0 := by rw [en_180, pk_un (by omega)]; exact e175
                have e186 : n_180 (14 * kc2 + 121) = nI 0 := by rw [en_180, pk_un (by omega)]; exact e176
                have e187 : n_180 (14 * kc2 + 110) = nI k3 := by rw [en_180, pk_un (by omega)]; exact e177
                have e188 : n_180 (14 * kc2 + 111) = zb := by rw [en_180, pk_un (by omega)]; exact e178
                have e189 : n_180 (14 * kc2 + 114) = nI k20 := by rw [en_180, pk_us]
                refine pm_aloadn hG dX12_person_194 rfl ?_
                refine pm_iloadi hG dX12_person_195 rfl ?_
                refine pm_bipush (v := nI 9) hG dX12_person_197 (by decide) ?_
                refine pm_iconst (v := (-1)) hG dX12_person_199 (by decide) ?_
                refine pm_callV (As := [.int (nI kc2), .int (nI 9), .int (-1)]) (rest := []) hG hR dX12_person_200 (lkX12_97 _ rfl) okV_X12_sets rfl rfl (m_sets (d := 2) (e := 14 * kc2 + 119) (by omega) (by omega) (by omega)) rfl rfl hdd (Nat.le_refl _) (Nat.le_refl _) (by decide) (pm_kv (fun σ' cnt' hq => ?_))
                obtain ⟨rfl, rfl⟩ := hq
                obtain ⟨n_190, en_190⟩ : ∃ f : Nat → Int32, f = upd n_180 (14 * kc2 + 119) (-1) := ⟨_, rfl⟩
                rw [← en_190]
                have hnn_190 := KI.w en_190 hnn_180 (okv_m (show kd (14 * kc2 + 119) = (2, 2001, false) from (kd_P (k := kc2) (c := 9) (by omega) (by omega) (by decide))))
                have hrn_190 := NRx.w en_190 hrn_180 (by rw [(show kd (14 * kc2 + 119) = (2, 2001, false) from (kd_P (k := kc2) (c := 9) (by omega) (by omega) (by decide)))])
                have ksn_190 := KSh.w (h := 14 * kc2 + 110) en_190 ksn_180 (by unfold tS; omega)
                have e191 : n_190 0 = nI kc0 := by rw [en_190, pk_un (by omega)]; exact e181
                have e192 : n_190 7 = nI kc7 := by rw [en_190, pk_un (by omega)]; exact e182
                have e193 : n_190 8 = nI kc8 := by rw [en_190, pk_un (by omega)]; exact e183
                have e194 : n_190 2 = nI (kc2 + 1) := by rw [en_190, pk_un (by omega)]; exact e184
                have e195 : n_190 (14 * kc2 + 121) = nI 0 := by rw [en_190, pk_un (by omega)]; exact e186
                have e196 : n_190 (14 * kc2 + 110) = nI k3 := by rw [en_190, pk_un (by omega)]; exact e187
                have e197 : n_190 (14 * kc2 + 111) = zb := by rw [en_190, pk_un (by omega)]; exact e188
                have e198 : n_190 (14 * kc2 + 119) = (-1) := by rw [en_190, pk_us]
                refine pm_aloadn hG dX12_person_203 rfl ?_
                refine pm_iloadi hG dX12_person_204 rfl ?_
                refine pm_bipush (v := nI 10) hG dX12_person_206 (by decide) ?_
                refine pm_iconst (v := (-1)) hG dX12_person_208 (by decide) ?_
                refine pm_callV (As := [.int (nI kc2), .int (nI 10), .int (-1)]) (rest := []) hG hR dX12_person_209 (lkX12_97 _ rfl) okV_X12_sets rfl rfl (m_sets (d := 2) (e := 14 * kc2 + 120) (by omega) (by omega) (by omega)) rfl rfl hdd (Nat.le_refl _) (Nat.le_refl _) (by decide) (pm_kv (fun σ' cnt' hq => ?_))
                obtain ⟨rfl, rfl⟩ := hq
                obtain ⟨n_199, en_199⟩ : ∃ f : Nat → Int32, f = upd n_190 (14 * kc2 + 120) (-1) := ⟨_, rfl⟩
                rw [← en_199]
                have hnn_199 := KI.w en_199 hnn_190 (okv_f (show kd (14 * kc2 + 120) = (0, 0, false) from (kd_P (k := kc2) (c := 10) (by omega) (by omega) (by decide))))
                have hrn_199 := NRx.w en_199 hrn_190 (by rw [(show kd (14 * kc2 + 120) = (0, 0, false) from (kd_P (k := kc2) (c := 10) (by omega) (by omega) (by decide)))])
                have ksn_199 := KSh.w (h := 14 * kc2 + 110) en_199 ksn_190 (by unfold tS; omega)
                have e200 : n_199 0 = nI kc0 := by rw [en_199, pk_un (by omega)]; exact e191
                have e201 : n_199 7 = nI kc7 := by rw [en_199, pk_un (by omega)]; exact e192
                have e202 : n_199 8 = nI kc8 := by rw [en_199, pk_un (by omega)]; exact e193
                have e203 : n_199 2 = nI (kc2 + 1) := by rw [en_199, pk_un (by omega)]; exact e194
                have e204 : n_199 (14 * kc2 + 121) = nI 0 := by rw [en_199, pk_un (by omega)]; exact e195
                have e205 : n_199 (14 * kc2 + 110) = nI k3 := by rw [en_199, pk_un (by omega)]; exact e196
                have e206 : n_199 (14 * kc2 + 111) = zb := by rw [en_199, pk_un (by omega)]; exact e197
                have e207 : n_199 (14 * kc2 + 119) = (-1) := by rw [en_199, pk_un (by omega)]; exact e198
                have e208 : n_199 (14 * kc2 + 120) = (-1) := by rw [en_199, pk_us]
                refine pm_aloadn hG dX12_person_212 rfl ?_
                refine pm_iloadi hG dX12_person_213 rfl ?_
                refine pm_bipush (v := nI 12) hG dX12_person_215 (by decide) ?_
                refine pm_iconst (v := nI 1) hG dX12_person_217 (by decide) ?_
                refine pm_callV (As := [.int (nI kc2), .int (nI 12), .int (nI 1)]) (rest := []) hG hR dX12_person_218 (lkX12_97 _ rfl) okV_X12_sets rfl rfl (m_sets (d := 2) (e := 14 * kc2 + 122) (by omega) (by omega) (by omega)) rfl rfl hdd (Nat.le_refl _) (Nat.le_refl _) (by decide) (pm_kv (fun σ' cnt' hq => ?_))
                obtain ⟨rfl, rfl⟩ := hq
                obtain ⟨n_209, en_209⟩ : ∃ f : Nat → Int32, f = upd n_199 (14 * kc2 + 122) (nI 1) := ⟨_, rfl⟩
                rw [← en_209]
                have hnn_209 := KI.w en_209 hnn_199 (okv_f (show kd (14 * kc2 + 122) = (0, 0, false) from (kd_P (k := kc2) (c := 12) (by omega) (by omega) (by decide))))
                have hrn_209 := NRx.w en_209 hrn_199 (by rw [(show kd (14 * kc2 + 122) = (0, 0, false) from (kd_P (k := kc2) (c := 12) (by omega) (by omega) (by decide)))])
                have ksn_209 := KSh.w (h := 14 * kc2 + 110) en_209 ksn_199 (by unfold tS; omega)
                have e210 : n_209 0 = nI kc0 := by rw [en_209, pk_un (by omega)]; exact e200
                have e211 : n_209 7 = nI kc7 := by rw [en_209, pk_un (by omega)]; exact e201
                have e212 : n_209 8 = nI kc8 := by rw [en_209, pk_un (by omega)]; exact e202
                have e213 : n_209 2 = nI (kc2 + 1) := by rw [en_209, pk_un (by omega)]; exact e203
                have e214 : n_209 (14 * kc2 + 121) = nI 0 := by rw [en_209, pk_un (by omega)]; exact e204
                have e215 : n_209 (14 * kc2 + 110) = nI k3 := by rw [en_209, pk_un (by omega)]; exact e205
                have e216 : n_209 (14 * kc2 + 111) = zb := by rw [en_209, pk_un (by omega)]; exact e206
                have e217 : n_209 (14 * kc2 + 119) = (-1) := by rw [en_209, pk_un (by omega)]; exact e207
                have e218 : n_209 (14 * kc2 + 122) = nI 1 := by rw [en_209, pk_us]
                refine pm_iloadi hG dX12_person_221 rfl ?_
                exact pm_iret hG hF dX12_person_223 rfl (Nat.le_refl _) (Nat.le_refl _) ⟨_, rfl, ⟨_, _, _, rfl, hnn_209, hrn_209, e210.trans ekc0.symm, e211.trans ekc7.symm, e212.trans ekc8.symm, ⟨(vE_y (T := pN n) (d := n 8) (t := n 0) (p := n 2) (a := za) (b := zb) (c := zc) (e := zd) (not6 (rg_in (a := 0) (b := 1) (by omega) ek3 (by omega) (by omega)) (fun q => q.elim ac5 (by rw [ekc8]; exact bc5)) (by rw [ek9]; exact nI_pos (by omega)) (nt_in ekc0 (by omega) ek20 (by omega)) (fun q => q (by rw [dv1 ek9 (by omega)]; exact pk11)) (fun q => q (by rw [rm1 ek9 (by omega)]; exact pk15))) ekc2 (by omega)).1, e213.trans (vE_y (T := pN n) (d := n 8) (t := n 0) (p := n 2) (a := za) (b := zb) (c := zc) (e := zd) (not6 (rg_in (a := 0) (b := 1) (by omega) ek3 (by omega) (by omega)) (fun q => q.elim ac5 (by rw [ekc8]; exact bc5)) (by rw [ek9]; exact nI_pos (by omega)) (nt_in ekc0 (by omega) ek20 (by omega)) (fun q => q (by rw [dv1 ek9 (by omega)]; exact pk11)) (fun q => q (by rw [rm1 ek9 (by omega)]; exact pk15))) ekc2 (by omega)).2.1, fun j hj => by rw [e213, nI_clamp (by omega)] at hj; rw [(vE_y (T := pN n) (d := n 8) (t := n 0) (p := n 2) (a := za) (b := zb) (c := zc) (e := zd) (not6 (rg_in (a := 0) (b := 1) (by omega) ek3 (by omega) (by omega)) (fun q => q.elim ac5 (by rw [ekc8]; exact bc5)) (by rw [ek9]; exact nI_pos (by omega)) (nt_in ekc0 (by omega) ek20 (by omega)) (fun q => q (by rw [dv1 ek9 (by omega)]; exact pk11)) (fun q => q (by rw [rm1 ek9 (by omega)]; exact pk15))) ekc2 (by omega)).2.2]; exact tP_ok ksn_209 (e215.trans ek3.symm) e216 e217 e214 (by omega) j hj⟩⟩, rfl⟩
              · refine pm_aloadn hG dX12_person_102 rfl ?_
                refine pm_iconst (v := nI 4) hG dX12_person_103 (by decide) ?_
                refine pm_callV (As := [.int (nI 4)]) (rest := []) hG hR dX12_person_104 (lkX12_80 _ rfl) okV_X12_finds rfl rfl (m_finds (d := 2) (by decide) hn hz (by omega)) rfl rfl hdd (Nat.le_refl _) (Nat.le_refl _) (by decide) (pm_ki (fun v219 σ' cnt' hq => ?_))
                obtain ⟨⟨I220, A220, rfl⟩, rfl, fv219⟩ := hq
                exact pm_iret hG hF dX12_person_107 rfl (Nat.le_refl _) (Nat.le_refl _) ⟨_, rfl, ⟨_, _, _, rfl, hn, hr, ekc0.trans ekc0.symm, ekc7.trans ekc7.symm, ekc8.trans ekc8.symm, ⟨fv219.trans ((by decide : (-1000000 : Int32) - nI 4 = -1000004).trans (vE_f (T := pN n) (d := n 8) (t := n 0) (p := n 2) (a := za) (b := zb) (c := zc) (e := zd) (not6 (rg_in (a := 0) (b := 1) (by omega) ek3 (by omega) (by omega)) (fun q => q.elim ac5 (by rw [ekc8]; exact bc5)) (by rw [ek9]; exact nI_pos (by omega)) (nt_in ekc0 (by omega) ek20 (by omega)) (fun q => q (by rw [dv1 ek9 (by omega)]; exact pk11)) (fun q => q (by rw [rm1 ek9 (by omega)]; exact pk15))) (ekc2.trans (congrArg nI (by omega)))).1), (vE_f (T := pN n) (d := n 8) (t := n 0) (p := n 2) (a := za) (b := zb) (c := zc) (e := zd) (not6 (rg_in (a := 0) (b := 1) (by omega) ek3 (by omega) (by omega)) (fun q => q.elim ac5 (by rw [ekc8]; exact bc5)) (by rw [ek9]; exact nI_pos (by omega)) (nt_in ekc0 (by omega) ek20 (by omega)) (fun q => q (by rw [dv1 ek9 (by omega)]; exact pk11)) (fun q => q (by rw [rm1 ek9 (by omega)]; exact pk15))) (ekc2.trans (congrArg nI (by omega)))).2.1, fun j _ => by rw [(vE_f (T := pN n) (d := n 8) (t := n 0) (p := n 2) (a := za) (b := zb) (c := zc) (e := zd) (not6 (rg_in (a := 0) (b := 1) (by omega) ek3 (by omega) (by omega)) (fun q => q.elim ac5 (by rw [ekc8]; exact bc5)) (by rw [ek9]; exact nI_pos (by omega)) (nt_in ekc0 (by omega) ek20 (by omega)) (fun q => q (by rw [dv1 ek9 (by omega)]; exact pk11)) (fun q => q (by rw [rm1 ek9 (by omega)]; exact pk15))) (ekc2.trans (congrArg nI (by omega)))).2.2]⟩⟩, rfl⟩
            · refine pm_ifN_eq (tgt := 73) hG dX12_person_66 rfl (by omega) (fun _ => ?_) (fun q => absurd q (by omega))
              refine pm_iconst (v := nI 0) hG dX12_person_73 (by decide) ?_
              refine pm_istoreXi (loc' := [some (.ref (B + 54)), some (.int za), some (.int zb), some (.int zc), some (.int zd), some (.int (nI 0)), none, none]) hG dX12_person_74 (by decide) (pm_c1b rfl) rfl ?_
              refine pm_iloadi hG dX12_person_76 rfl ?_
              refine pm_ifN_ne (tgt := 87) hG dX12_person_78 rfl (by omega) (fun q => absurd q (by omega)) (fun _ => ?_)
              refine pm_aloadn hG dX12_person_81 rfl ?_
              refine pm_iconst (v := nI 1) hG dX12_person_82 (by decide) ?_
              refine pm_callV (As := [.int (nI 1)]) (rest := []) hG hR dX12_person_83 (lkX12_80 _ rfl) okV_X12_finds rfl rfl (m_finds (d := 2) (by decide) hn hz (by omega)) rfl rfl hdd (Nat.le_refl _) (Nat.le_refl _) (by decide) (pm_ki (fun v221 σ' cnt' hq => ?_))
              obtain ⟨⟨I222, A222, rfl⟩, rfl, fv221⟩ := hq
              exact pm_iret hG hF dX12_person_86 rfl (Nat.le_refl _) (Nat.le_refl _) ⟨_, rfl, ⟨_, _, _, rfl, hn, hr, ekc0.trans ekc0.symm, ekc7.trans ekc7.symm, ekc8.trans ekc8.symm, ⟨fv221.trans ((by decide : (-1000000 : Int32) - nI 1 = -1000001).trans (vE_n (T := pN n) (d := n 8) (t := n 0) (p := n 2) (a := za) (b := zb) (c := zc) (e := zd) (Or.inr (Or.inr (Or.inr (Or.inl (nt_out ekc0 (by omega) ntk20)))))).1), (vE_n (T := pN n) (d := n 8) (t := n 0) (p := n 2) (a := za) (b := zb) (c := zc) (e := zd) (Or.inr (Or.inr (Or.inr (Or.inl (nt_out ekc0 (by omega) ntk20)))))).2.1, fun j _ => by rw [(vE_n (T := pN n) (d := n 8) (t := n 0) (p := n 2) (a := za) (b := zb) (c := zc) (e := zd) (Or.inr (Or.inr (Or.inr (Or.inl (nt_out ekc0 (by omega) ntk20)))))).2.2]⟩⟩, rfl⟩
          · refine pm_ifN_eq (tgt := 73) hG dX12_person_57 rfl (by omega) (fun q => absurd q (by omega)) (fun _ => ?_)
            refine pm_aloadn hG dX12_person_60 rfl ?_
            refine pm_iloadi hG dX12_person_61 rfl ?_
            refine pm_callV (As := [.int zd]) (rest := []) hG hR dX12_person_63 (lkX12_84 _ rfl) okV_X12_isTown rfl rfl (m_isTown (d := 2) (by decide) ekc0 (by omega)) rfl rfl hdd (Nat.le_refl _) (Nat.le_refl _) (by decide) (pm_ki (fun v223 σ' cnt' hq => ?_))
            obtain ⟨hq, rfl, rfl⟩ := hq
            rcases hq with ⟨rfl, k225, hk225, ek225⟩ | ⟨rfl, ntk225⟩
            · refine pm_ifN_eq (tgt := 73) hG dX12_person_66 rfl (by omega) (fun q => absurd q (by omega)) (fun _ => ?_)
              refine pm_iconst (v := nI 1) hG dX12_person_69 (by decide) ?_
              refine pm_goto (tgt := 74) hG dX12_person_70 rfl ?_
              refine pm_istoreXi (loc' := [some (.ref (B + 54)), some (.int za), some (.int zb), some (.int zc), some (.int zd), some (.int (nI 1)), none, none]) hG dX12_person_74 (by decide) (pm_c1b rfl) rfl ?_
              refine pm_iloadi hG dX12_person_76 rfl ?_
              refine pm_ifN_ne (tgt := 87) hG dX12_person_78 rfl (by omega) (fun _ => ?_) (fun q => absurd q (by omega))
              refine pm_aloadn hG dX12_person_87 rfl ?_
              refine pm_getf hG dX12_person_88 (flX12_7 _ rfl) rfl rfl ?_
              refine pm_iconst (v := nI 2) hG dX12_person_91 (by decide) ?_
              refine pm_ialdN hG dX12_person_92 rfl (by decide) (by omega) ?_
              refine pm_top (v := nI kc2) ekc2 ?_
              refine pm_istoreXi (loc' := [some (.ref (B + 54)), some (.int za), some (.int zb), some (.int zc), some (.int zd), some (.int (nI 1)), some (.int (nI kc2)), none]) hG dX12_person_93 (by decide) (pm_c1b rfl) rfl ?_
              refine pm_iloadi hG dX12_person_95 rfl ?_
              refine pm_bipush (v := nI 20) hG dX12_person_97 (by decide) ?_
              refine pm_icmpN_ne (tgt := 108) hG dX12_person_99 rfl (by omega) (by omega) (fun c226 => ?_) (fun c226 => ?_)
              · refine pm_aloadn hG dX12_person_108 rfl ?_
                refine pm_getf hG dX12_person_109 (flX12_7 _ rfl) rfl rfl ?_
                refine pm_iconst (v := nI 2) hG dX12_person_112 (by decide) ?_
                refine pm_dup2 hG dX12_person_113 rfl rfl ?_
                refine pm_ialdN hG dX12_person_114 rfl (by decide) (by omega) ?_
                refine pm_top (v := nI kc2) ekc2 ?_
                refine pm_iconst (v := nI 1) hG dX12_person_115 (by decide) ?_
                refine pm_iaddN (c := kc2 + 1) hG dX12_person_116 (by omega) ?_
                refine pm_iastN hG dX12_person_117 rfl (by decide) (by omega) ?_
                refine mdn_now (fun n_227 en_227 => ?_)
                have hnn_227 := KI.w en_227 hn (okv_n (show kd 2 = (1, 21, true) by decide) (by omega))
                have hrn_227 := NRx.pers en_227 hr ekc0 (by omega) ekc2 (by omega)
                have ksn_227 := KSh.w (h := 14 * kc2 + 110) en_227 KSh.rf (by unfold tS; omega)
                have e228 : n_227 0 = nI kc0 := by rw [en_227, pk_un (by omega)]; exact ekc0
                have e229 : n_227 7 = nI kc7 := by rw [en_227, pk_un (by omega)]; exact ekc7
                have e230 : n_227 8 = nI kc8 := by rw [en_227, pk_un (by omega)]; exact ekc8
                have e231 : n_227 2 = nI (kc2 + 1) := by rw [en_227, pk_us]
                refine pm_iconst (v := nI 0) hG dX12_person_118 (by decide) ?_
                refine pm_istoreXi (loc' := [some (.ref (B + 54)), some (.int za), some (.int zb), some (.int zc), some (.int zd), some (.int (nI 1)), some (.int (nI kc2)), some (.int (nI 0))]) hG dX12_person_119 (by decide) (pm_c1b rfl) rfl ?_
                refine pm_iloadi hG dX12_person_121 rfl ?_
                refine pm_bipush (v := nI 14) hG dX12_person_123 (by decide) ?_
                refine pm_icmpN_ge (tgt := 143) hG dX12_person_125 rfl (by omega) (by omega) (fun q => absurd q (by omega)) (fun _ => ?_)
                refine pm_aloadn hG dX12_person_128 rfl ?_
                refine pm_iloadi hG dX12_person_129 rfl ?_
                refine pm_iloadi hG dX12_person_131 rfl ?_
                refine pm_iconst (v := nI 0) hG dX12_person_133 (by decide) ?_
                refine pm_callV (As := [.int (nI kc2), .int (nI 0), .int (nI 0)]) (rest := []) hG hR dX12_person_134 (lkX12_97 _ rfl) okV_X12_sets rfl rfl (m_sets (d := 2) (e := 14 * kc2 + 110) (by omega) (by omega) (by omega)) rfl rfl hdd (Nat.le_refl _) (Nat.le_refl _) (by decide) (pm_kv (fun σ' cnt' hq => ?_))
                obtain ⟨rfl, rfl⟩ := hq
                obtain ⟨n_232, en_232⟩ : ∃ f : Nat → Int32, f = upd n_227 (14 * kc2 + 110) (nI 0) := ⟨_, rfl⟩
                rw [← en_232]
                have hnn_232 := KI.w en_232 hnn_227 (okv_f (show kd (14 * kc2 + 110) = (0, 0, false) from (kd_P (k := kc2) (c := 0) (by omega) (by omega) (by decide))))
                have hrn_232 := NRx.w en_232 hrn_227 (by rw [(show kd (14 * kc2 + 110) = (0, 0, false) from (kd_P (k := kc2) (c := 0) (by omega) (by omega) (by decide)))])
                have ksn_232 := KSh.w (h := 14 * kc2 + 110) en_232 ksn_227 (by unfold tS; omega)
                have e233 : n_232 0 = nI kc0 := by rw [en_232, pk_un (by omega)]; exact e228
                have e234 : n_232 7 = nI kc7 := by rw [en_232, pk_un (by omega)]; exact e229
                have e235 : n_232 8 = nI kc8 := by rw [en_232, pk_un (by omega)]; exact e230
                have e236 : n_232 2 = nI (kc2 + 1) := by rw [en_232, pk_un (by omega)]; exact e231
                have e237 : n_232 (14 * kc2 + 110) = nI 0 := by rw [en_232, pk_us]
                refine pm_iincX (v := nI 1) (loc' := [some (.ref (B + 54)), some (.int za), some (.int zb), some (.int zc), some (.int zd), some (.int (nI 1)), some (.int (nI kc2)), some (.int (nI 1))]) hG dX12_person_137 rfl (nI_1 _) (by decide) (pm_c1b rfl) rfl ?_
                refine pm_goto (tgt := 121) hG dX12_person_140 rfl ?_
                refine pm_iloadi hG dX12_person_121 rfl ?_
                refine pm_bipush (v := nI 14) hG dX12_person_123 (by decide) ?_
                refine pm_icmpN_ge (tgt := 143) hG dX12_person_125 rfl (by omega) (by omega) (fun q => absurd q (by omega)) (fun _ => ?_)
                refine pm_aloadn hG dX12_person_128 rfl ?_
                refine pm_iloadi hG dX12_person_129 rfl ?_
                refine pm_iloadi hG dX12_person_131 rfl ?_
                refine pm_iconst (v := nI 0) hG dX12_person_133 (by decide) ?_
                refine pm_callV (As := [.int (nI kc2), .int (nI 1), .int (nI 0)]) (rest := []) hG hR dX12_person_134 (lkX12_97 _ rfl) okV_X12_sets rfl rfl (m_sets (d := 2) (e := 14 * kc2 + 111) (by omega) (by omega) (by omega)) rfl rfl hdd (Nat.le_refl _) (Nat.le_refl _) (by decide) (pm_kv (fun σ' cnt' hq => ?_))
                obtain ⟨rfl, rfl⟩ := hq
                obtain ⟨n_238, en_238⟩ : ∃ f : Nat → Int32, f = upd n_232 (14 * kc2 + 111) (nI 0) := ⟨_, rfl⟩
                rw [← en_238]
                have hnn_238 := KI.w en_238 hnn_232 (okv_f (show kd (14 * kc2 + 111) = (0, 0, false) from (kd_P (k := kc2) (c := 1) (by omega) (by omega) (by decide))))
                have hrn_238 := NRx.w en_238 hrn_232 (by rw [(show kd (14 * kc2 + 111) = (0, 0, false) from (kd_P (k := kc2) (c := 1) (by omega) (by omega) (by decide)))])
                have ksn_238 := KSh.w (h := 14 * kc2 + 110) en_238 ksn_232 (by unfold tS; omega)
                have e239 : n_238 0 = nI kc0 := by rw [en_238, pk_un (by omega)]; exact e233
                have e240 : n_238 7 = nI kc7 := by rw [en_238, pk_un (by omega)]; exact e234
                have e241 : n_238 8 = nI kc8 := by rw [en_238, pk_un (by omega)]; exact e235
                have e242 : n_238 2 = nI (kc2 + 1) := by rw [en_238, pk_un (by omega)]; exact e236
                have e243 : n_238 (14 * kc2 + 110) = nI 0 := by rw [en_238, pk_un (by omega)]; exact e237
                have e244 : n_238 (14 * kc2 + 111) = nI 0 := by rw [en_238, pk_us]
                refine pm_iincX (v := nI 2) (loc' := [some (.ref (B + 54)), some (.int za), some (.int zb), some (.int zc), some (.int zd), some (.int (nI 1)), some (.int (nI kc2)), some (.int (nI 2))]) hG dX12_person_137 rfl (nI_1 _) (by decide) (pm_c1b rfl) rfl ?_
                refine pm_goto (tgt := 121) hG dX12_person_140 rfl ?_
                refine pm_iloadi hG dX12_person_121 rfl ?_
                refine pm_bipush (v := nI 14) hG dX12_person_123 (by decide) ?_
                refine pm_icmpN_ge (tgt := 143) hG dX12_person_125 rfl (by omega) (by omega) (fun q => absurd q (by omega)) (fun _ => ?_)
                refine pm_aloadn hG dX12_person_128 rfl ?_
                refine pm_iloadi hG dX12_person_129 rfl ?_
                refine pm_iloadi hG dX12_person_131 rfl ?_
                refine pm_iconst (v := nI 0) hG dX12_person_133 (by decide) ?_
                refine pm_callV (As := [.int (nI kc2), .int (nI 2), .int (nI 0)]) (rest := []) hG hR dX12_person_134 (lkX12_97 _ rfl) okV_X12_sets rfl rfl (m_sets (d := 2) (e := 14 * kc2 + 112) (by omega) (by omega) (by omega)) rfl rfl hdd (Nat.le_refl _) (Nat.le_refl _) (by decide) (pm_kv (fun σ' cnt' hq => ?_))
                obtain ⟨rfl, rfl⟩ := hq
                obtain ⟨n_245, en_245⟩ : ∃ f : Nat → Int32, f = upd n_238 (14 * kc2 + 112) (nI 0) := ⟨_, rfl⟩
                rw [← en_245]
                have hnn_245 := KI.w en_245 hnn_238 (okv_o (show kd (14 * kc2 + 112) = (2, 20, false) from (kd_P (k := kc2) (c := 2) (by omega) (by omega) (by decide))) (by omega))
                have hrn_245 := NRx.w en_245 hrn_238 (by rw [(show kd (14 * kc2 + 112) = (2, 20, false) from (kd_P (k := kc2) (c := 2) (by omega) (by omega) (by decide)))])
                have ksn_245 := KSh.w (h := 14 * kc2 + 110) en_245 ksn_238 (by unfold tS; omega)
                have e246 : n_245 0 = nI kc0 := by rw [en_245, pk_un (by omega)]; exact e239
                have e247 : n_245 7 = nI kc7 := by rw [en_245, pk_un (by omega)]; exact e240
                have e248 : n_245 8 = nI kc8 := by rw [en_245, pk_un (by omega)]; exact e241
                have e249 : n_245 2 = nI (kc2 + 1) := by rw [en_245, pk_un (by omega)]; exact e242
                have e250 : n_245 (14 * kc2 + 110) = nI 0 := by rw [en_245, pk_un (by omega)]; exact e243
                have e251 : n_245 (14 * kc2 + 111) = nI 0 := by rw [en_245, pk_un (by omega)]; exact e244
                have e252 : n_245 (14 * kc2 + 112) = nI 0 := by rw [en_245, pk_us]
                refine pm_iincX (v := nI 3) (loc' := [some (.ref (B + 54)), some (.int za), some (.int zb), some (.int zc), some (.int zd), some (.int (nI 1)), some (.int (nI kc2)), some (.int (nI 3))]) hG dX12_person_137 rfl (nI_1 _) (by decide) (pm_c1b rfl) rfl ?_
                refine pm_goto (tgt := 121) hG dX12_person_140 rfl ?_
                refine pm_iloadi hG dX12_person_121 rfl ?_
                refine pm_bipush (v := nI 14) hG dX12_person_123 (by decide) ?_
                refine pm_icmpN_ge (tgt := 143) hG dX12_person_125 rfl (by omega) (by omega) (fun q => absurd q (by omega)) (fun _ => ?_)
                refine pm_aloadn hG dX12_person_128 rfl ?_
                refine pm_iloadi hG dX12_person_129 rfl ?_
                refine pm_iloadi hG dX12_person_131 rfl ?_
                refine pm_iconst (v := nI 0) hG dX12_person_133 (by decide) ?_
                refine pm_callV (As := [.int (nI kc2), .int (nI 3), .int (nI 0)]) (rest := []) hG hR dX12_person_134 (lkX12_97 _ rfl) okV_X12_sets rfl rfl (m_sets (d := 2) (e := 14 * kc2 + 113) (by omega) (by omega) (by omega)) rfl rfl hdd (Nat.le_refl _) (Nat.le_refl _) (by decide) (pm_kv (fun σ' cnt' hq => ?_))
                obtain ⟨rfl, rfl⟩ := hq
                obtain ⟨n_253, en_253⟩ : ∃ f : Nat → Int32, f = upd n_245 (14 * kc2 + 113) (nI 0) := ⟨_, rfl⟩
                rw [← en_253]
                have hnn_253 := KI.w en_253 hnn_245 (okv_o (show kd (14 * kc2 + 113) = (2, 20, false) from (kd_P (k := kc2) (c := 3) (by omega) (by omega) (by decide))) (by omega))
                have hrn_253 := NRx.w en_253 hrn_245 (by rw [(show kd (14 * kc2 + 113) = (2, 20, false) from (kd_P (k := kc2) (c := 3) (by omega) (by omega) (by decide)))])
                have ksn_253 := KSh.w (h := 14 * kc2 + 110) en_253 ksn_245 (by unfold tS; omega)
                have e254 : n_253 0 = nI kc0 := by rw [en_253, pk_un (by omega)]; exact e246
                have e255 : n_253 7 = nI kc7 := by rw [en_253, pk_un (by omega)]; exact e247
                have e256 : n_253 8 = nI kc8 := by rw [en_253, pk_un (by omega)]; exact e248
                have e257 : n_253 2 = nI (kc2 + 1) := by rw [en_253, pk_un (by omega)]; exact e249
                have e258 : n_253 (14 * kc2 + 110) = nI 0 := by rw [en_253, pk_un (by omega)]; exact e250
                have e259 : n_253 (14 * kc2 + 111) = nI 0 := by rw [en_253, pk_un (by omega)]; exact e251
                have e260 : n_253 (14 * kc2 + 113) = nI 0 := by rw [en_253, pk_us]
                refine pm_iincX (v := nI 4) (loc' := [some (.ref (B + 54)), some (.int za), some (.int zb), some (.int zc), some (.int zd), some (.int (nI 1)), some (.int (nI kc2)), some (.int (nI 4))]) hG dX12_person_137 rfl (nI_1 _) (by decide) (pm_c1b rfl) rfl ?_
                refine pm_goto (tgt := 121) hG dX12_person_140 rfl ?_
                refine pm_iloadi hG dX12_person_121 rfl ?_
                refine pm_bipush (v := nI 14) hG dX12_person_123 (by decide) ?_
                refine pm_icmpN_ge (tgt := 143) hG dX12_person_125 rfl (by omega) (by omega) (fun q => absurd q (by omega)) (fun _ => ?_)
                refine pm_aloadn hG dX12_person_128 rfl ?_
                refine pm_iloadi hG dX12_person_129 rfl ?_
                refine pm_iloadi hG dX12_person_131 rfl ?_
                refine pm_iconst (v := nI 0) hG dX12_person_133 (by decide) ?_
                refine pm_callV (As := [.int (nI kc2), .int (nI 4), .int (nI 0)]) (rest := []) hG hR dX12_person_134 (lkX12_97 _ rfl) okV_X12_sets rfl rfl (m_sets (d := 2) (e := 14 * kc2 + 114) (by omega) (by omega) (by omega)) rfl rfl hdd (Nat.le_refl _) (Nat.le_refl _) (by decide) (pm_kv (fun σ' cnt' hq => ?_))
                obtain ⟨rfl, rfl⟩ := hq
                obtain ⟨n_261, en_261⟩ : ∃ f : Nat → Int32, f = upd n_253 (14 * kc2 + 114) (nI 0) := ⟨_, rfl⟩
                rw [← en_261]
                have hnn_261 := KI.w en_261 hnn_253 (okv_o (show kd (14 * kc2 + 114) = (2, 10, false) from (kd_P (k := kc2) (c := 4) (by omega) (by omega) (by decide))) (by omega))
                have hrn_261 := NRx.w en_261 hrn_253 (by rw [(show kd (14 * kc2 + 114) = (2, 10, false) from (kd_P (k := kc2) (c := 4) (by omega) (by omega) (by decide)))])
                have ksn_261 := KSh.w (h := 14 * kc2 + 110) en_261 ksn_253 (by unfold tS; omega)
                have e262 : n_261 0 = nI kc0 := by rw [en_261, pk_un (by omega)]; exact e254
                have e263 : n_261 7 = nI kc7 := by rw [en_261, pk_un (by omega)]; exact e255
                have e264 : n_261 8 = nI kc8 := by rw [en_261, pk_un (by omega)]; exact e256
                have e265 : n_261 2 = nI (kc2 + 1) := by rw [en_261, pk_un (by omega)]; exact e257
                have e266 : n_261 (14 * kc2 + 110) = nI 0 := by rw [en_261, pk_un (by omega)]; exact e258
                have e267 : n_261 (14 * kc2 + 111) = nI 0 := by rw [en_261, pk_un (by omega)]; exact e259
                have e268 : n_261 (14 * kc2 + 114) = nI 0 := by rw [en_261, pk_us]
                refine pm_iincX (v := nI 5) (loc' := [some (.ref (B + 54)), some (.int za), some (.int zb), some (.int zc), some (.int zd), some (.int (nI 1)), some (.int (nI kc2)), some (.int (nI 5))]) hG dX12_person_137 rfl (nI_1 _) (by decide) (pm_c1b rfl) rfl ?_
                refine pm_goto (tgt := 121) hG dX12_person_140 rfl ?_
                refine pm_iloadi hG dX12_person_121 rfl ?_
                refine pm_bipush (v := nI 14) hG dX12_person_123 (by decide) ?_
                refine pm_icmpN_ge (tgt := 143) hG dX12_person_125 rfl (by omega) (by omega) (fun q => absurd q (by omega)) (fun _ => ?_)
                refine pm_aloadn hG dX12_person_128 rfl ?_
                refine pm_iloadi hG dX12_person_129 rfl ?_
                refine pm_iloadi hG dX12_person_131 rfl ?_
                refine pm_iconst (v := nI 0) hG dX12_person_133 (by decide) ?_
                refine pm_callV (As := [.int (nI kc2), .int (nI 5), .int (nI 0)]) (rest := []) hG hR dX12_person_134 (lkX12_97 _ rfl) okV_X12_sets rfl rfl (m_sets (d := 2) (e := 14 * kc2 + 115) (by omega) (by omega) (by omega)) rfl rfl hdd (Nat.le_refl _) (Nat.le_refl _) (by decide) (pm_kv (fun σ' cnt' hq => ?_))
                obtain ⟨rfl, rfl⟩ := hq
                obtain ⟨n_269, en_269⟩ : ∃ f : Nat → Int32, f = upd n_261 (14 * kc2 + 115) (nI 0) := ⟨_, rfl⟩
                rw [← en_269]
                have hnn_269 := KI.w en_269 hnn_261 (okv_n (show kd (14 * kc2 + 115) = (1, 10, false) from (kd_P (k := kc2) (c := 5) (by omega) (by omega) (by decide))) (by omega))
                have hrn_269 := NRx.w en_269 hrn_261 (by rw [(show kd (14 * kc2 + 115) = (1, 10, false) from (kd_P (k := kc2) (c := 5) (by omega) (by omega) (by decide)))])
                have ksn_269 := KSh.w (h := 14 * kc2 + 110) en_269 ksn_261 (by unfold tS; omega)
                have e270 : n_269 0 = nI kc0 := by rw [en_269, pk_un (by omega)]; exact e262
                have e271 : n_269 7 = nI kc7 := by rw [en_269, pk_un (by omega)]; exact e263
                have e272 : n_269 8 = nI kc8 := by rw [en_269, pk_un (by omega)]; exact e264
                have e273 : n_269 2 = nI (kc2 + 1) := by rw [en_269, pk_un (by omega)]; exact e265
                have e274 : n_269 (14 * kc2 + 110) = nI 0 := by rw [en_269, pk_un (by omega)]; exact e266
                have e275 : n_269 (14 * kc2 + 111) = nI 0 := by rw [en_269, pk_un (by omega)]; exact e267
                have e276 : n_269 (14 * kc2 + 115) = nI 0 := by rw [en_269, pk_us]
                refine pm_iincX (v := nI 6) (loc' := [some (.ref (B + 54)), some (.int za), some (.int zb), some (.int zc), some (.int zd), some (.int (nI 1)), some (.int (nI kc2)), some (.int (nI 6))]) hG dX12_person_137 rfl (nI_1 _) (by decide) (pm_c1b rfl) rfl ?_
                refine pm_goto (tgt := 121) hG dX12_person_140 rfl ?_
                refine pm_iloadi hG dX12_person_121 rfl ?_
                refine pm_bipush (v := nI 14) hG dX12_person_123 (by decide) ?_
                refine pm_icmpN_ge (tgt := 143) hG dX12_person_125 rfl (by omega) (by omega) (fun q => absurd q (by omega)) (fun _ => ?_)
                refine pm_aloadn hG dX12_person_128 rfl ?_
                refine pm_iloadi hG dX12_person_129 rfl ?_
                refine pm_iloadi hG dX12_person_131 rfl ?_
                refine pm_iconst (v := nI 0) hG dX12_person_133 (by decide) ?_
                refine pm_callV (As := [.int (nI kc2), .int (nI 6), .int (nI 0)]) (rest := []) hG hR dX12_person_134 (lkX12_97 _ rfl) okV_X12_sets rfl rfl (m_sets (d := 2) (e := 14 * kc2 + 116) (by omega) (by omega) (by omega)) rfl rfl hdd (Nat.le_refl _) (Nat.le_refl _) (by decide) (pm_kv (fun σ' cnt' hq => ?_))
                obtain ⟨rfl, rfl⟩ := hq
                obtain ⟨n_277, en_277⟩ : ∃ f : Nat → Int32, f = upd n_269 (14 * kc2 + 116) (nI 0) := ⟨_, rfl⟩
                rw [← en_277]
                have hnn_277 := KI.w en_277 hnn_269 (okv_f (show kd (14 * kc2 + 116) = (0, 0, false) from (kd_P (k := kc2) (c := 6) (by omega) (by omega) (by decide))))
                have hrn_277 := NRx.w en_277 hrn_269 (by rw [(show kd (14 * kc2 + 116) = (0, 0, false) from (kd_P (k := kc2) (c := 6) (by omega) (by omega) (by decide)))])
                have ksn_277 := KSh.w (h := 14 * kc2 + 110) en_277 ksn_269 (by unfold tS; omega)
                have e278 : n_277 0 = nI kc0 := by rw [en_277, pk_un (by omega)]; exact e270
                have e279 : n_277 7 = nI kc7 := by rw [en_277, pk_un (by omega)]; exact e271
                have e280 : n_277 8 = nI kc8 := by rw [en_277, pk_un (by omega)]; exact e272
                have e281 : n_277 2 = nI (kc2 + 1) := by rw [en_277, pk_un (by omega)]; exact e273
                have e282 : n_277 (14 * kc2 + 110) = nI 0 := by rw [en_277, pk_un (by omega)]; exact e274
                have e283 : n_277 (14 * kc2 + 111) = nI 0 := by rw [en_277, pk_un (by omega)]; exact e275
                have e284 : n_277 (14 * kc2 + 116) = nI 0 := by rw [en_277, pk_us]
                refine pm_iincX (v := nI 7) (loc' := [some (.ref (B + 54)), some (.int za), some (.int zb), some (.int zc), some (.int zd), some (.int (nI 1)), some (.int (nI kc2)), some (.int (nI 7))]) hG dX12_person_137 rfl (nI_1 _) (by decide) (pm_c1b rfl) rfl ?_
                refine pm_goto (tgt := 121) hG dX12_person_140 rfl ?_
                refine pm_iloadi hG dX12_person_121 rfl ?_
                refine pm_bipush (v := nI 14) hG dX12_person_123 (by decide) ?_
                refine pm_icmpN_ge (tgt := 143) hG dX12_person_125 rfl (by omega) (by omega) (fun q => absurd q (by omega)) (fun _ => ?_)
                refine pm_aloadn hG dX12_person_128 rfl ?_
                refine pm_iloadi hG dX12_person_129 rfl ?_
                refine pm_iloadi hG dX12_person_131 rfl ?_
                refine pm_iconst (v := nI 0) hG dX12_person_133 (by decide) ?_
                refine pm_callV (As := [.int (nI kc2), .int (nI 7), .int (nI 0)]) (rest := []) hG hR dX12_person_134 (lkX12_97 _ rfl) okV_X12_sets rfl rfl (m_sets (d := 2) (e := 14 * kc2 + 117) (by omega) (by omega) (by omega)) rfl rfl hdd (Nat.le_refl _) (Nat.le_refl _) (by decide) (pm_kv (fun σ' cnt' hq => ?_))
                obtain ⟨rfl, rfl⟩ := hq
                obtain ⟨n_285, en_285⟩ : ∃ f : Nat → Int32, f = upd n_277 (14 * kc2 + 117) (nI 0) := ⟨_, rfl⟩
                rw [← en_285]
                have hnn_285 := KI.w en_285 hnn_277 (okv_f (show kd (14 * kc2 + 117) = (0, 0, false) from (kd_P (k := kc2) (c := 7) (by omega) (by omega) (by decide))))
                have hrn_285 := NRx.w en_285 hrn_277 (by rw [(show kd (14 * kc2 + 117) = (0, 0, false) from (kd_P (k := kc2) (c := 7) (by omega) (by omega) (by decide)))])
                have ksn_285 := KSh.w (h := 14 * kc2 + 110) en_285 ksn_277 (by unfold tS; omega)
                have e286 : n_285 0 = nI kc0 := by rw [en_285, pk_un (by omega)]; exact e278
                have e287 : n_285 7 = nI kc7 := by rw [en_285, pk_un (by omega)]; exact e279
                have e288 : n_285 8 = nI kc8 := by rw [en_285, pk_un (by omega)]; exact e280
                have e289 : n_285 2 = nI (kc2 + 1) := by rw [en_285, pk_un (by omega)]; exact e281
                have e290 : n_285 (14 * kc2 + 110) = nI 0 := by rw [en_285, pk_un (by omega)]; exact e282
                have e291 : n_285 (14 * kc2 + 111) = nI 0 := by rw [en_285, pk_un (by omega)]; exact e283
                have e292 : n_285 (14 * kc2 + 117) = nI 0 := by rw [en_285, pk_us]
                refine pm_iincX (v := nI 8) (loc' := [some (.ref (B + 54)), some (.int za), some (.int zb), some (.int zc), some (.int zd), some (.int (nI 1)), some (.int (nI kc2)), some (.int (nI 8))]) hG dX12_person_137 rfl (nI_1 _) (by decide) (pm_c1b rfl) rfl ?_
                refine pm_goto (tgt := 121) hG dX12_person_140 rfl ?_
                refine pm_iloadi hG dX12_person_121 rfl ?_
                refine pm_bipush (v := nI 14) hG dX12_person_123 (by decide) ?_
                refine pm_icmpN_ge (tgt := 143) hG dX12_person_125 rfl (by omega) (by omega) (fun q => absurd q (by omega)) (fun _ => ?_)
                refine pm_aloadn hG dX12_person_128 rfl ?_
                refine pm_iloadi hG dX12_person_129 rfl ?_
                refine pm_iloadi hG dX12_person_131 rfl ?_
                refine pm_iconst (v := nI 0) hG dX12_person_133 (by decide) ?_
                refine pm_callV (As := [.int (nI kc2), .int (nI 8), .int (nI 0)]) (rest := []) hG hR dX12_person_134 (lkX12_97 _ rfl) okV_X12_sets rfl rfl (m_sets (d := 2) (e := 14 * kc2 + 118) (by omega) (by omega) (by omega)) rfl rfl hdd (Nat.le_refl _) (Nat.le_refl _) (by decide) (pm_kv (fun σ' cnt' hq => ?_))
                obtain ⟨rfl, rfl⟩ := hq
                obtain ⟨n_293, en_293⟩ : ∃ f : Nat → Int32, f = upd n_285 (14 * kc2 + 118) (nI 0) := ⟨_, rfl⟩
                rw [← en_293]
                have hnn_293 := KI.w en_293 hnn_285 (okv_f (show kd (14 * kc2 + 118) = (0, 0, false) from (kd_P (k := kc2) (c := 8) (by omega) (by omega) (by decide))))
                have hrn_293 := NRx.w en_293 hrn_285 (by rw [(show kd (14 * kc2 + 118) = (0, 0, false) from (kd_P (k := kc2) (c := 8) (by omega) (by omega) (by decide)))])
                have ksn_293 := KSh.w (h := 14 * kc2 + 110) en_293 ksn_285 (by unfold tS; omega)
                have e294 : n_293 0 = nI kc0 := by rw [en_293, pk_un (by omega)]; exact e286
                have e295 : n_293 7 = nI kc7 := by rw [en_293, pk_un (by omega)]; exact e287
                have e296 : n_293 8 = nI kc8 := by rw [en_293, pk_un (by omega)]; exact e288
                have e297 : n_293 2 = nI (kc2 + 1) := by rw [en_293, pk_un (by omega)]; exact e289
                have e298 : n_293 (14 * kc2 + 110) = nI 0 := by rw [en_293, pk_un (by omega)]; exact e290
                have e299 : n_293 (14 * kc2 + 111) = nI 0 := by rw [en_293, pk_un (by omega)]; exact e291
                have e300 : n_293 (14 * kc2 + 118) = nI 0 := by rw [en_293, pk_us]
                refine pm_iincX (v := nI 9) (loc' := [some (.ref (B + 54)), some (.int za), some (.int zb), some (.int zc), some (.int zd), some (.int (nI 1)), some (.int (nI kc2)), some (.int (nI 9))]) hG dX12_person_137 rfl (nI_1 _) (by decide) (pm_c1b rfl) rfl ?_
                refine pm_goto (tgt := 121) hG dX12_person_140 rfl ?_
                refine pm_iloadi hG dX12_person_121 rfl ?_
                refine pm_bipush (v := nI 14) hG dX12_person_123 (by decide) ?_
                refine pm_icmpN_ge (tgt := 143) hG dX12_person_125 rfl (by omega) (by omega) (fun q => absurd q (by omega)) (fun _ => ?_)
                refine pm_aloadn hG dX12_person_128 rfl ?_
                refine pm_iloadi hG dX12_person_129 rfl ?_
                refine pm_iloadi hG dX12_person_131 rfl ?_
                refine pm_iconst (v := nI 0) hG dX12_person_133 (by decide) ?_
                refine pm_callV (As := [.int (nI kc2), .int (nI 9), .int (nI 0)]) (rest := []) hG hR dX12_person_134 (lkX12_97 _ rfl) okV_X12_sets rfl rfl (m_sets (d := 2) (e := 14 * kc2 + 119) (by omega) (by omega) (by omega)) rfl rfl hdd (Nat.le_refl _) (Nat.le_refl _) (by decide) (pm_kv (fun σ' cnt' hq => ?_))
                obtain ⟨rfl, rfl⟩ := hq
                obtain ⟨n_301, en_301⟩ : ∃ f : Nat → Int32, f = upd n_293 (14 * kc2 + 119) (nI 0) := ⟨_, rfl⟩
                rw [← en_301]
                have hnn_301 := KI.w en_301 hnn_293 (okv_o (show kd (14 * kc2 + 119) = (2, 2001, false) from (kd_P (k := kc2) (c := 9) (by omega) (by omega) (by decide))) (by omega))
                have hrn_301 := NRx.w en_301 hrn_293 (by rw [(show kd (14 * kc2 + 119) = (2, 2001, false) from (kd_P (k := kc2) (c := 9) (by omega) (by omega) (by decide)))])
                have ksn_301 := KSh.w (h := 14 * kc2 + 110) en_301 ksn_293 (by unfold tS; omega)
                have e302 : n_301 0 = nI kc0 := by rw [en_301, pk_un (by omega)]; exact e294
                have e303 : n_301 7 = nI kc7 := by rw [en_301, pk_un (by omega)]; exact e295
                have e304 : n_301 8 = nI kc8 := by rw [en_301, pk_un (by omega)]; exact e296
                have e305 : n_301 2 = nI (kc2 + 1) := by rw [en_301, pk_un (by omega)]; exact e297
                have e306 : n_301 (14 * kc2 + 110) = nI 0 := by rw [en_301, pk_un (by omega)]; exact e298
                have e307 : n_301 (14 * kc2 + 111) = nI 0 := by rw [en_301, pk_un (by omega)]; exact e299
                have e308 : n_301 (14 * kc2 + 119) = nI 0 := by rw [en_301, pk_us]
                refine pm_iincX (v := nI 10) (loc' := [some (.ref (B + 54)), some (.int za), some (.int zb), some (.int zc), some (.int zd), some (.int (nI 1)), some (.int (nI kc2)), some (.int (nI 10))]) hG dX12_person_137 rfl (nI_1 _) (by decide) (pm_c1b rfl) rfl ?_
                refine pm_goto (tgt := 121) hG dX12_person_140 rfl ?_
                refine pm_iloadi hG dX12_person_121 rfl ?_
                refine pm_bipush (v := nI 14) hG dX12_person_123 (by decide) ?_
                refine pm_icmpN_ge (tgt := 143) hG dX12_person_125 rfl (by omega) (by omega) (fun q => absurd q (by omega)) (fun _ => ?_)
                refine pm_aloadn hG dX12_person_128 rfl ?_
                refine pm_iloadi hG dX12_person_129 rfl ?_
                refine pm_iloadi hG dX12_person_131 rfl ?_
                refine pm_iconst (v := nI 0) hG dX12_person_133 (by decide) ?_
                refine pm_callV (As := [.int (nI kc2), .int (nI 10), .int (nI 0)]) (rest := []) hG hR dX12_person_134 (lkX12_97 _ rfl) okV_X12_sets rfl rfl (m_sets (d := 2) (e := 14 * kc2 + 120) (by omega) (by omega) (by omega)) rfl rfl hdd (Nat.le_refl _) (Nat.le_refl _) (by decide) (pm_kv (fun σ' cnt' hq => ?_))
                obtain ⟨rfl, rfl⟩ := hq
                obtain ⟨n_309, en_309⟩ : ∃ f : Nat → Int32, f = upd n_301 (14 * kc2 + 120) (nI 0) := ⟨_, rfl⟩
                rw [← en_309]
                have hnn_309 := KI.w en_309 hnn_301 (okv_f (show kd (14 * kc2 + 120) = (0, 0, false) from (kd_P (k := kc2) (c := 10) (by omega) (by omega) (by decide))))
                have hrn_309 := NRx.w en_309 hrn_301 (by rw [(show kd (14 * kc2 + 120) = (0, 0, false) from (kd_P (k := kc2) (c := 10) (by omega) (by omega) (by decide)))])
                have ksn_309 := KSh.w (h := 14 * kc2 + 110) en_309 ksn_301 (by unfold tS; omega)
                have e310 : n_309 0 = nI kc0 := by rw [en_309, pk_un (by omega)]; exact e302
                have e311 : n_309 7 = nI kc7 := by rw [en_309, pk_un (by omega)]; exact e303
                have e312 : n_309 8 = nI kc8 := by rw [en_309, pk_un (by omega)]; exact e304
                have e313 : n_309 2 = nI (kc2 + 1) := by rw [en_309, pk_un (by omega)]; exact e305
                have e314 : n_309 (14 * kc2 + 110) = nI 0 := by rw [en_309, pk_un (by omega)]; exact e306
                have e315 : n_309 (14 * kc2 + 111) = nI 0 := by rw [en_309, pk_un (by omega)]; exact e307
                have e316 : n_309 (14 * kc2 + 119) = nI 0 := by rw [en_309, pk_un (by omega)]; exact e308
                have e317 : n_309 (14 * kc2 + 120) = nI 0 := by rw [en_309, pk_us]
                refine pm_iincX (v := nI 11) (loc' := [some (.ref (B + 54)), some (.int za), some (.int zb), some (.int zc), some (.int zd), some (.int (nI 1)), some (.int (nI kc2)), some (.int (nI 11))]) hG dX12_person_137 rfl (nI_1 _) (by decide) (pm_c1b rfl) rfl ?_
                refine pm_goto (tgt := 121) hG dX12_person_140 rfl ?_
                refine pm_iloadi hG dX12_person_121 rfl ?_
                refine pm_bipush (v := nI 14) hG dX12_person_123 (by decide) ?_
                refine pm_icmpN_ge (tgt := 143) hG dX12_person_125 rfl (by omega) (by omega) (fun q => absurd q (by omega)) (fun _ => ?_)
                refine pm_aloadn hG dX12_person_128 rfl ?_
                refine pm_iloadi hG dX12_person_129 rfl ?_
                refine pm_iloadi hG dX12_person_131 rfl ?_
                refine pm_iconst (v := nI 0) hG dX12_person_133 (by decide) ?_
                refine pm_callV (As := [.int (nI kc2), .int (nI 11), .int (nI 0)]) (rest := []) hG hR dX12_person_134 (lkX12_97 _ rfl) okV_X12_sets rfl rfl (m_sets (d := 2) (e := 14 * kc2 + 121) (by omega) (by omega) (by omega)) rfl rfl hdd (Nat.le_refl _) (Nat.le_refl _) (by decide) (pm_kv (fun σ' cnt' hq => ?_))
                obtain ⟨rfl, rfl⟩ := hq
                obtain ⟨n_318, en_318⟩ : ∃ f : Nat → Int32, f = upd n_309 (14 * kc2 + 121) (nI 0) := ⟨_, rfl⟩
                rw [← en_318]
                have hnn_318 := KI.w en_318 hnn_309 (okv_n (show kd (14 * kc2 + 121) = (1, 2, true) from (kd_P (k := kc2) (c := 11) (by omega) (by omega) (by decide))) (by omega))
                have hrn_318 := NRx.unseat (p := kc2) en_318 hrn_309 (by omega)
                have ksn_318 := KSh.w (h := 14 * kc2 + 110) en_318 ksn_309 (by unfold tS; omega)
                have e319 : n_318 0 = nI kc0 := by rw [en_318, pk_un (by omega)]; exact e310
                have e320 : n_318 7 = nI kc7 := by rw [en_318, pk_un (by omega)]; exact e311
                have e321 : n_318 8 = nI kc8 := by rw [en_318, pk_un (by omega)]; exact e312
                have e322 : n_318 2 = nI (kc2 + 1) := by rw [en_318, pk_un (by omega)]; exact e313
                have e323 : n_318 (14 * kc2 + 110) = nI 0 := by rw [en_318, pk_un (by omega)]; exact e314
                have e324 : n_318 (14 * kc2 + 111) = nI 0 := by rw [en_318, pk_un (by omega)]; exact e315
                have e325 : n_318 (14 * kc2 + 119) = nI 0 := by rw [en_318, pk_un (by omega)]; exact e316
                have e326 : n_318 (14 * kc2 + 121) = nI 0 := by rw [en_318, pk_us]
                refine pm_iincX (v := nI 12) (loc' := [some (.ref (B + 54)), some (.int za), some (.int zb), some (.int zc), some (.int zd), some (.int (nI 1)), some (.int (nI kc2)), some (.int (nI 12))]) hG dX12_person_137 rfl (nI_1 _) (by decide) (pm_c1b rfl) rfl ?_
                refine pm_goto (tgt := 121) hG dX12_person_140 rfl ?_
                refine pm_iloadi hG dX12_person_121 rfl ?_
                refine pm_bipush (v := nI 14) hG dX12_person_123 (by decide) ?_
                refine pm_icmpN_ge (tgt := 143) hG dX12_person_125 rfl (by omega) (by omega) (fun q => absurd q (by omega)) (fun _ => ?_)
                refine pm_aloadn hG dX12_person_128 rfl ?_
                refine pm_iloadi hG dX12_person_129 rfl ?_
                refine pm_iloadi hG dX12_person_131 rfl ?_
                refine pm_iconst (v := nI 0) hG dX12_person_133 (by decide) ?_
                refine pm_callV (As := [.int (nI kc2), .int (nI 12), .int (nI 0)]) (rest := []) hG hR dX12_person_134 (lkX12_97 _ rfl) okV_X12_sets rfl rfl (m_sets (d := 2) (e := 14 * kc2 + 122) (by omega) (by omega) (by omega)) rfl rfl hdd (Nat.le_refl _) (Nat.le_refl _) (by decide) (pm_kv (fun σ' cnt' hq => ?_))
                obtain ⟨rfl, rfl⟩ := hq
                obtain ⟨n_327, en_327⟩ : ∃ f : Nat → Int32, f = upd n_318 (14 * kc2 + 122) (nI 0) := ⟨_, rfl⟩
                rw [← en_327]
                have hnn_327 := KI.w en_327 hnn_318 (okv_f (show kd (14 * kc2 + 122) = (0, 0, false) from (kd_P (k := kc2) (c := 12) (by omega) (by omega) (by decide))))
                have hrn_327 := NRx.w en_327 hrn_318 (by rw [(show kd (14 * kc2 + 122) = (0, 0, false) from (kd_P (k := kc2) (c := 12) (by omega) (by omega) (by decide)))])
                have ksn_327 := KSh.w (h := 14 * kc2 + 110) en_327 ksn_318 (by unfold tS; omega)
                have e328 : n_327 0 = nI kc0 := by rw [en_327, pk_un (by omega)]; exact e319
                have e329 : n_327 7 = nI kc7 := by rw [en_327, pk_un (by omega)]; exact e320
                have e330 : n_327 8 = nI kc8 := by rw [en_327, pk_un (by omega)]; exact e321
                have e331 : n_327 2 = nI (kc2 + 1) := by rw [en_327, pk_un (by omega)]; exact e322
                have e332 : n_327 (14 * kc2 + 110) = nI 0 := by rw [en_327, pk_un (by omega)]; exact e323
                have e333 : n_327 (14 * kc2 + 111) = nI 0 := by rw [en_327, pk_un (by omega)]; exact e324
                have e334 : n_327 (14 * kc2 + 119) = nI 0 := by rw [en_327, pk_un (by omega)]; exact e325
                have e335 : n_327 (14 * kc2 + 121) = nI 0 := by rw [en_327, pk_un (by omega)]; exact e326
                have e336 : n_327 (14 * kc2 + 122) = nI 0 := by rw [en_327, pk_us]
                refine pm_iincX (v := nI 13) (loc' := [some (.ref (B + 54)), some (.int za), some (.int zb), some (.int zc), some (.int zd), some (.int (nI 1)), some (.int (nI kc2)), some (.int (nI 13))]) hG dX12_person_137 rfl (nI_1 _) (by decide) (pm_c1b rfl) rfl ?_
                refine pm_goto (tgt := 121) hG dX12_person_140 rfl ?_
                refine pm_iloadi hG dX12_person_121 rfl ?_
                refine pm_bipush (v := nI 14) hG dX12_person_123 (by decide) ?_
                refine pm_icmpN_ge (tgt := 143) hG dX12_person_125 rfl (by omega) (by omega) (fun q => absurd q (by omega)) (fun _ => ?_)
                refine pm_aloadn hG dX12_person_128 rfl ?_
                refine pm_iloadi hG dX12_person_129 rfl ?_
                refine pm_iloadi hG dX12_person_131 rfl ?_
                refine pm_iconst (v := nI 0) hG dX12_person_133 (by decide) ?_
                refine pm_callV (As := [.int (nI kc2), .int (nI 13), .int (nI 0)]) (rest := []) hG hR dX12_person_134 (lkX12_97 _ rfl) okV_X12_sets rfl rfl (m_sets (d := 2) (e := 14 * kc2 + 123) (by omega) (by omega) (by omega)) rfl rfl hdd (Nat.le_refl _) (Nat.le_refl _) (by decide) (pm_kv (fun σ' cnt' hq => ?_))
                obtain ⟨rfl, rfl⟩ := hq
                obtain ⟨n_337, en_337⟩ : ∃ f : Nat → Int32, f = upd n_327 (14 * kc2 + 123) (nI 0) := ⟨_, rfl⟩
                rw [← en_337]
                have hnn_337 := KI.w en_337 hnn_327 (okv_f (show kd (14 * kc2 + 123) = (0, 0, false) from (kd_P (k := kc2) (c := 13) (by omega) (by omega) (by decide))))
                have hrn_337 := NRx.w en_337 hrn_327 (by rw [(show kd (14 * kc2 + 123) = (0, 0, false) from (kd_P (k := kc2) (c := 13) (by omega) (by omega) (by decide)))])
                have ksn_337 := KSh.w (h := 14 * kc2 + 110) en_337 ksn_327 (by unfold tS; omega)
                have e338 : n_337 0 = nI kc0 := by rw [en_337, pk_un (by omega)]; exact e328
                have e339 : n_337 7 = nI kc7 := by rw [en_337, pk_un (by omega)]; exact e329
                have e340 : n_337 8 = nI kc8 := by rw [en_337, pk_un (by omega)]; exact e330
                have e341 : n_337 2 = nI (kc2 + 1) := by rw [en_337, pk_un (by omega)]; exact e331
                have e342 : n_337 (14 * kc2 + 110) = nI 0 := by rw [en_337, pk_un (by omega)]; exact e332
                have e343 : n_337 (14 * kc2 + 111) = nI 0 := by rw [en_337, pk_un (by omega)]; exact e333
                have e344 : n_337 (14 * kc2 + 119) = nI 0 := by rw [en_337, pk_un (by omega)]; exact e334
                have e345 : n_337 (14 * kc2 + 121) = nI 0 := by rw [en_337, pk_un (by omega)]; exact e335
                have e346 : n_337 (14 * kc2 + 123) = nI 0 := by rw [en_337, pk_us]
                refine pm_iincX (v := nI 14) (loc' := [some (.ref (B + 54)), some (.int za), some (.int zb), some (.int zc), some (.int zd), some (.int (nI 1)), some (.int (nI kc2)), some (.int (nI 14))]) hG dX12_person_137 rfl (nI_1 _) (by decide) (pm_c1b rfl) rfl ?_
                refine pm_goto (tgt := 121) hG dX12_person_140 rfl ?_
                refine pm_iloadi hG dX12_person_121 rfl ?_
                refine pm_bipush (v := nI 14) hG dX12_person_123 (by decide) ?_
                refine pm_icmpN_ge (tgt := 143) hG dX12_person_125 rfl (by omega) (by omega) (fun _ => ?_) (fun q => absurd q (by omega))
                refine pm_aloadn hG dX12_person_143 rfl ?_
                refine pm_iloadi hG dX12_person_144 rfl ?_
                refine pm_iconst (v := nI 0) hG dX12_person_146 (by decide) ?_
                refine pm_iloadn hG dX12_person_147 rfl ?_
                refine pm_top (v := nI k3) ek3 ?_
                refine pm_callV (As := [.int (nI kc2), .int (nI 0), .int (nI k3)]) (rest := []) hG hR dX12_person_148 (lkX12_97 _ rfl) okV_X12_sets rfl rfl (m_sets (d := 2) (e := 14 * kc2 + 110) (by omega) (by omega) (by omega)) rfl rfl hdd (Nat.le_refl _) (Nat.le_refl _) (by decide) (pm_kv (fun σ' cnt' hq => ?_))
                obtain ⟨rfl, rfl⟩ := hq
                obtain ⟨n_347, en_347⟩ : ∃ f : Nat → Int32, f = upd n_337 (14 * kc2 + 110) (nI k3) := ⟨_, rfl⟩
                rw [← en_347]
                have hnn_347 := KI.w en_347 hnn_337 (okv_f (show kd (14 * kc2 + 110) = (0, 0, false) from (kd_P (k := kc2) (c := 0) (by omega) (by omega) (by decide))))
                have hrn_347 := NRx.w en_347 hrn_337 (by rw [(show kd (14 * kc2 + 110) = (0, 0, false) from (kd_P (k := kc2) (c := 0) (by omega) (by omega) (by decide)))])
                have ksn_347 := KSh.w (h := 14 * kc2 + 110) en_347 ksn_337 (by unfold tS; omega)
                have e348 : n_347 0 = nI kc0 := by rw [en_347, pk_un (by omega)]; exact e338
                have e349 : n_347 7 = nI kc7 := by rw [en_347, pk_un (by omega)]; exact e339
                have e350 : n_347 8 = nI kc8 := by rw [en_347, pk_un (by omega)]; exact e340
                have e351 : n_347 2 = nI (kc2 + 1) := by rw [en_347, pk_un (by omega)]; exact e341
                have e352 : n_347 (14 * kc2 + 111) = nI 0 := by rw [en_347, pk_un (by omega)]; exact e343
                have e353 : n_347 (14 * kc2 + 119) = nI 0 := by rw [en_347, pk_un (by omega)]; exact e344
                have e354 : n_347 (14 * kc2 + 121) = nI 0 := by rw [en_347, pk_un (by omega)]; exact e345
                have e355 : n_347 (14 * kc2 + 110) = nI k3 := by rw [en_347, pk_us]
                refine pm_aloadn hG dX12_person_151 rfl ?_
                refine pm_iloadi hG dX12_person_152 rfl ?_
                refine pm_iconst (v := nI 1) hG dX12_person_154 (by decide) ?_
                refine pm_iloadn hG dX12_person_155 rfl ?_
                refine pm_callV (As := [.int (nI kc2), .int (nI 1), .int zb]) (rest := []) hG hR dX12_person_156 (lkX12_97 _ rfl) okV_X12_sets rfl rfl (m_sets (d := 2) (e := 14 * kc2 + 111) (by omega) (by omega) (by omega)) rfl rfl hdd (Nat.le_refl _) (Nat.le_refl _) (by decide) (pm_kv (fun σ' cnt' hq => ?_))
                obtain ⟨rfl, rfl⟩ := hq
                obtain ⟨n_356, en_356⟩ : ∃ f : Nat → Int32, f = upd n_347 (14 * kc2 + 111) zb := ⟨_, rfl⟩
                rw [← en_356]
                have hnn_356 := KI.w en_356 hnn_347 (okv_f (show kd (14 * kc2 + 111) = (0, 0, false) from (kd_P (k := kc2) (c := 1) (by omega) (by omega) (by decide))))
                have hrn_356 := NRx.w en_356 hrn_347 (by rw [(show kd (14 * kc2 + 111) = (0, 0, false) from (kd_P (k := kc2) (c := 1) (by omega) (by omega) (by decide)))])
                have ksn_356 := KSh.w (h := 14 * kc2 + 110) en_356 ksn_347 (by unfold tS; omega)
                have e357 : n_356 0 = nI kc0 := by rw [en_356, pk_un (by omega)]; exact e348
                have e358 : n_356 7 = nI kc7 := by rw [en_356, pk_un (by omega)]; exact e349
                have e359 : n_356 8 = nI kc8 := by rw [en_356, pk_un (by omega)]; exact e350
                have e360 : n_356 2 = nI (kc2 + 1) := by rw [en_356, pk_un (by omega)]; exact e351
                have e361 : n_356 (14 * kc2 + 119) = nI 0 := by rw [en_356, pk_un (by omega)]; exact e353
                have e362 : n_356 (14 * kc2 + 121) = nI 0 := by rw [en_356, pk_un (by omega)]; exact e354
                have e363 : n_356 (14 * kc2 + 110) = nI k3 := by rw [en_356, pk_un (by omega)]; exact e355
                have e364 : n_356 (14 * kc2 + 111) = zb := by rw [en_356, pk_us]
                refine pm_aloadn hG dX12_person_159 rfl ?_
                refine pm_iloadi hG dX12_person_160 rfl ?_
                refine pm_iconst (v := nI 2) hG dX12_person_162 (by decide) ?_
                refine pm_iloadn hG dX12_person_163 rfl ?_
                refine pm_top (v := nI k9) ek9 ?_
                refine pm_bipush (v := nI 100) hG dX12_person_164 (by decide) ?_
                refine pm_idivN hG dX12_person_166 (by omega) (by decide) (by decide) ?_
                refine pm_iconst (v := nI 1) hG dX12_person_167 (by decide) ?_
                refine pm_isub hG dX12_person_168 ?_
                refine pm_top (v := (-1)) ek11 ?_
                refine pm_callV (As := [.int (nI kc2), .int (nI 2), .int (-1)]) (rest := []) hG hR dX12_person_169 (lkX12_97 _ rfl) okV_X12_sets rfl rfl (m_sets (d := 2) (e := 14 * kc2 + 112) (by omega) (by omega) (by omega)) rfl rfl hdd (Nat.le_refl _) (Nat.le_refl _) (by decide) (pm_kv (fun σ' cnt' hq => ?_))
                obtain ⟨rfl, rfl⟩ := hq
                obtain ⟨n_365, en_365⟩ : ∃ f : Nat → Int32, f = upd n_356 (14 * kc2 + 112) (-1) := ⟨_, rfl⟩
                rw [← en_365]
                have hnn_365 := KI.w en_365 hnn_356 (okv_m (show kd (14 * kc2 + 112) = (2, 20, false) from (kd_P (k := kc2) (c := 2) (by omega) (by omega) (by decide))))
                have hrn_365 := NRx.w en_365 hrn_356 (by rw [(show kd (14 * kc2 + 112) = (2, 20, false) from (kd_P (k := kc2) (c := 2) (by omega) (by omega) (by decide)))])
                have ksn_365 := KSh.w (h := 14 * kc2 + 110) en_365 ksn_356 (by unfold tS; omega)
                have e366 : n_365 0 = nI kc0 := by rw [en_365, pk_un (by omega)]; exact e357
                have e367 : n_365 7 = nI kc7 := by rw [en_365, pk_un (by omega)]; exact e358
                have e368 : n_365 8 = nI kc8 := by rw [en_365, pk_un (by omega)]; exact e359
                have e369 : n_365 2 = nI (kc2 + 1) := by rw [en_365, pk_un (by omega)]; exact e360
                have e370 : n_365 (14 * kc2 + 119) = nI 0 := by rw [en_365, pk_un (by omega)]; exact e361
                have e371 : n_365 (14 * kc2 + 121) = nI 0 := by rw [en_365, pk_un (by omega)]; exact e362
                have e372 : n_365 (14 * kc2 + 110) = nI k3 := by rw [en_365, pk_un (by omega)]; exact e363
                have e373 : n_365 (14 * kc2 + 111) = zb := by rw [en_365, pk_un (by omega)]; exact e364
                have e374 : n_365 (14 * kc2 + 112) = (-1) := by rw [en_365, pk_us]
                refine pm_aloadn hG dX12_person_172 rfl ?_
                refine pm_iloadi hG dX12_person_173 rfl ?_
                refine pm_iconst (v := nI 3) hG dX12_person_175 (by decide) ?_
                refine pm_iloadn hG dX12_person_176 rfl ?_
                refine pm_top (v := nI k9) ek9 ?_
                refine pm_bipush (v := nI 100) hG dX12_person_177 (by decide) ?_
                refine pm_iremM hG dX12_person_179 (by omega) (by decide) (by decide) ?_
                refine pm_iconst (v := nI 1) hG dX12_person_180 (by decide) ?_
                refine pm_isub hG dX12_person_181 ?_
                refine pm_top (v := nI k15) ek15 ?_
                refine pm_callV (As := [.int (nI kc2), .int (nI 3), .int (nI k15)]) (rest := []) hG hR dX12_person_182 (lkX12_97 _ rfl) okV_X12_sets rfl rfl (m_sets (d := 2) (e := 14 * kc2 + 113) (by omega) (by omega) (by omega)) rfl rfl hdd (Nat.le_refl _) (Nat.le_refl _) (by decide) (pm_kv (fun σ' cnt' hq => ?_))
                obtain ⟨rfl, rfl⟩ := hq
                obtain ⟨n_375, en_375⟩ : ∃ f : Nat → Int32, f = upd n_365 (14 * kc2 + 113) (nI k15) := ⟨_, rfl⟩
                rw [← en_375]
                have hnn_375 := KI.w en_375 hnn_365 (okv_o (show kd (14 * kc2 + 113) = (2, 20, false) from (kd_P (k := kc2) (c := 3) (by omega) (by omega) (by decide))) (by omega))
                have hrn_375 := NRx.w en_375 hrn_365 (by rw [(show kd (14 * kc2 + 113) = (2, 20, false) from (kd_P (k := kc2) (c := 3) (by omega) (by omega) (by decide)))])
                have ksn_375 := KSh.w (h := 14 * kc2 + 110) en_375 ksn_365 (by unfold tS; omega)
                have e376 : n_375 0 = nI kc0 := by rw [en_375, pk_un (by omega)]; exact e366
                have e377 : n_375 7 = nI kc7 := by rw [en_375, pk_un (by omega)]; exact e367
                have e378 : n_375 8 = nI kc8 := by rw [en_375, pk_un (by omega)]; exact e368
                have e379 : n_375 2 = nI (kc2 + 1) := by rw [en_375, pk_un (by omega)]; exact e369
                have e380 : n_375 (14 * kc2 + 119) = nI 0 := by rw [en_375, pk_un (by omega)]; exact e370
                have e381 : n_375 (14 * kc2 + 121) = nI 0 := by rw [en_375, pk_un (by omega)]; exact e371
                have e382 : n_375 (14 * kc2 + 110) = nI k3 := by rw [en_375, pk_un (by omega)]; exact e372
                have e383 : n_375 (14 * kc2 + 111) = zb := by rw [en_375, pk_un (by omega)]; exact e373
                have e384 : n_375 (14 * kc2 + 113) = nI k15 := by rw [en_375, pk_us]
                refine pm_aloadn hG dX12_person_185 rfl ?_
                refine pm_iloadi hG dX12_person_186 rfl ?_
                refine pm_iconst (v := nI 4) hG dX12_person_188 (by decide) ?_
                refine pm_iloadi hG dX12_person_189 rfl ?_
                refine pm_top (v := nI k225) ek225 ?_
                refine pm_callV (As := [.int (nI kc2), .int (nI 4), .int (nI k225)]) (rest := []) hG hR dX12_person_191 (lkX12_97 _ rfl) okV_X12_sets rfl rfl (m_sets (d := 2) (e := 14 * kc2 + 114) (by omega) (by omega) (by omega)) rfl rfl hdd (Nat.le_refl _) (Nat.le_refl _) (by decide) (pm_kv (fun σ' cnt' hq => ?_))
                obtain ⟨rfl, rfl⟩ := hq
                obtain ⟨n_385, en_385⟩ : ∃ f : Nat → Int32, f = upd n_375 (14 * kc2 + 114) (nI k225) := ⟨_, rfl⟩
                rw [← en_385]
                have hnn_385 := KI.w en_385 hnn_375 (okv_o (show kd (14 * kc2 + 114) = (2, 10, false) from (kd_P (k := kc2) (c := 4) (by omega) (by omega) (by decide))) (by omega))
                have hrn_385 := NRx.w en_385 hrn_375 (by rw [(show kd (14 * kc2 + 114) = (2, 10, false) from (kd_P (k := kc2) (c := 4) (by omega) (by omega) (by decide)))])
                have ksn_385 := KSh.w (h := 14 * kc2 + 110) en_385 ksn_375 (by unfold tS; omega)
                have e386 : n_385 0 = nI kc0 := by rw [en_385, pk_un (by omega)]; exact e376
                have e387 : n_385 7 = nI kc7 := by rw [en_385, pk_un (by omega)]; exact e377
                have e388 : n_385 8 = nI kc8 := by rw [en_385, pk_un (by omega)]; exact e378
                have e389 : n_385 2 = nI (kc2 + 1) := by rw [en_385, pk_un (by omega)]; exact e379
                have e390 : n_385 (14 * kc2 + 119) = nI 0 := by rw [en_385, pk_un (by omega)]; exact e380
                have e391 : n_385 (14 * kc2 + 121) = nI 0 := by rw [en_385, pk_un (by omega)]; exact e381
                have e392 : n_385 (14 * kc2 + 110) = nI k3 := by rw [en_385, pk_un (by omega)]; exact e382
                have e393 : n_385 (14 * kc2 + 111) = zb := by rw [en_385, pk_un (by omega)]; exact e383
                have e394 : n_385 (14 * kc2 + 114) = nI k225 := by rw [en_385, pk_us]
                refine pm_aloadn hG dX12_person_194 rfl ?_
                refine pm_iloadi hG dX12_person_195 rfl ?_
                refine pm_bipush (v := nI 9) hG dX12_person_197 (by decide) ?_
                refine pm_iconst (v := (-1)) hG dX12_person_199 (by decide) ?_
                refine pm_callV (As := [.int (nI kc2), .int (nI 9), .int (-1)]) (rest := []) hG hR dX12_person_200 (lkX12_97 _ rfl) okV_X12_sets rfl rfl (m_sets (d := 2) (e := 14 * kc2 + 119) (by omega) (by omega) (by omega)) rfl rfl hdd (Nat.le_refl _) (Nat.le_refl _) (by decide) (pm_kv (fun σ' cnt' hq => ?_))
                obtain ⟨rfl, rfl⟩ := hq
                obtain ⟨n_395, en_395⟩ : ∃ f : Nat → Int32, f = upd n_385 (14 * kc2 + 119) (-1) := ⟨_, rfl⟩
                rw [← en_395]
                have hnn_395 := KI.w en_395 hnn_385 (okv_m (show kd (14 * kc2 + 119) = (2, 2001, false) from (kd_P (k := kc2) (c := 9) (by omega) (by omega) (by decide))))
                have hrn_395 := NRx.w en_395 hrn_385 (by rw [(show kd (14 * kc2 + 119) = (2, 2001, false) from (kd_P (k := kc2) (c := 9) (by omega) (by omega) (by decide)))])
                have ksn_395 := KSh.w (h := 14 * kc2 + 110) en_395 ksn_385 (by unfold tS; omega)
                have e396 : n_395 0 = nI kc0 := by rw [en_395, pk_un (by omega)]; exact e386
                have e397 : n_395 7 = nI kc7 := by rw [en_395, pk_un (by omega)]; exact e387
                have e398 : n_395 8 = nI kc8 := by rw [en_395, pk_un (by omega)]; exact e388
                have e399 : n_395 2 = nI (kc2 + 1) := by rw [en_395, pk_un (by omega)]; exact e389
                have e400 : n_395 (14 * kc2 + 121) = nI 0 := by rw [en_395, pk_un (by omega)]; exact e391
                have e401 : n_395 (14 * kc2 + 110) = nI k3 := by rw [en_395, pk_un (by omega)]; exact e392
                have e402 : n_395 (14 * kc2 + 111) = zb := by rw [en_395, pk_un (by omega)]; exact e393
                have e403 : n_395 (14 * kc2 + 119) = (-1) := by rw [en_395, pk_us]
                refine pm_aloadn hG dX12_person_203 rfl ?_
                refine pm_iloadi hG dX12_person_204 rfl ?_
                refine pm_bipush (v := nI 10) hG dX12_person_206 (by decide) ?_
                refine pm_iconst (v := (-1)) hG dX12_person_208 (by decide) ?_
                refine pm_callV (As := [.int (nI kc2), .int (nI 10), .int (-1)]) (rest := []) hG hR dX12_person_209 (lkX12_97 _ rfl) okV_X12_sets rfl rfl (m_sets (d := 2) (e := 14 * kc2 + 120) (by omega) (by omega) (by omega)) rfl rfl hdd (Nat.le_refl _) (Nat.le_refl _) (by decide) (pm_kv (fun σ' cnt' hq => ?_))
                obtain ⟨rfl, rfl⟩ := hq
                obtain ⟨n_404, en_404⟩ : ∃ f : Nat → Int32, f = upd n_395 (14 * kc2 + 120) (-1) := ⟨_, rfl⟩
                rw [← en_404]
                have hnn_404 := KI.w en_404 hnn_395 (okv_f (show kd (14 * kc2 + 120) = (0, 0, false) from (kd_P (k := kc2) (c := 10) (by omega) (by omega) (by decide))))
                have hrn_404 := NRx.w en_404 hrn_395 (by rw [(show kd (14 * kc2 + 120) = (0, 0, false) from (kd_P (k := kc2) (c := 10) (by omega) (by omega) (by decide)))])
                have ksn_404 := KSh.w (h := 14 * kc2 + 110) en_404 ksn_395 (by unfold tS; omega)
                have e405 : n_404 0 = nI kc0 := by rw [en_404, pk_un (by omega)]; exact e396
                have e406 : n_404 7 = nI kc7 := by rw [en_404, pk_un (by omega)]; exact e397
                have e407 : n_404 8 = nI kc8 := by rw [en_404, pk_un (by omega)]; exact e398
                have e408 : n_404 2 = nI (kc2 + 1) := by rw [en_404, pk_un (by omega)]; exact e399
                have e409 : n_404 (14 * kc2 + 121) = nI 0 := by rw [en_404, pk_un (by omega)]; exact e400
                have e410 : n_404 (14 * kc2 + 110) = nI k3 := by rw [en_404, pk_un (by omega)]; exact e401
                have e411 : n_404 (14 * kc2 + 111) = zb := by rw [en_404, pk_un (by omega)]; exact e402
                have e412 : n_404 (14 * kc2 + 119) = (-1) := by rw [en_404, pk_un (by omega)]; exact e403
                have e413 : n_404 (14 * kc2 + 120) = (-1) := by rw [en_404, pk_us]
                refine pm_aloadn hG dX12_person_212 rfl ?_
                refine pm_iloadi hG dX12_person_213 rfl ?_
                refine pm_bipush (v := nI 12) hG dX12_person_215 (by decide) ?_
                refine pm_iconst (v := nI 1) hG dX12_person_217 (by decide) ?_
                refine pm_callV (As := [.int (nI kc2), .int (nI 12), .int (nI 1)]) (rest := []) hG hR dX12_person_218 (lkX12_97 _ rfl) okV_X12_sets rfl rfl (m_sets (d := 2) (e := 14 * kc2 + 122) (by omega) (by omega) (by omega)) rfl rfl hdd (Nat.le_refl _) (Nat.le_refl _) (by decide) (pm_kv (fun σ' cnt' hq => ?_))
                obtain ⟨rfl, rfl⟩ := hq
                obtain ⟨n_414, en_414⟩ : ∃ f : Nat → Int32, f = upd n_404 (14 * kc2 + 122) (nI 1) := ⟨_, rfl⟩
                rw [← en_414]
                have hnn_414 := KI.w en_414 hnn_404 (okv_f (show kd (14 * kc2 + 122) = (0, 0, false) from (kd_P (k := kc2) (c := 12) (by omega) (by omega) (by decide))))
                have hrn_414 := NRx.w en_414 hrn_404 (by rw [(show kd (14 * kc2 + 122) = (0, 0, false) from (kd_P (k := kc2) (c := 12) (by omega) (by omega) (by decide)))])
                have ksn_414 := KSh.w (h := 14 * kc2 + 110) en_414 ksn_404 (by unfold tS; omega)
                have e415 : n_414 0 = nI kc0 := by rw [en_414, pk_un (by omega)]; exact e405
                have e416 : n_414 7 = nI kc7 := by rw [en_414, pk_un (by omega)]; exact e406
                have e417 : n_414 8 = nI kc8 := by rw [en_414, pk_un (by omega)]; exact e407
                have e418 : n_414 2 = nI (kc2 + 1) := by rw [en_414, pk_un (by omega)]; exact e408
                have e419 : n_414 (14 * kc2 + 121) = nI 0 := by rw [en_414, pk_un (by omega)]; exact e409
                have e420 : n_414 (14 * kc2 + 110) = nI k3 := by rw [en_414, pk_un (by omega)]; exact e410
                have e421 : n_414 (14 * kc2 + 111) = zb := by rw [en_414, pk_un (by omega)]; exact e411
                have e422 : n_414 (14 * kc2 + 119) = (-1) := by rw [en_414, pk_un (by omega)]; exact e412
                have e423 : n_414 (14 * kc2 + 122) = nI 1 := by rw [en_414, pk_us]
                refine pm_iloadi hG dX12_person_221 rfl ?_
                exact pm_iret hG hF dX12_person_223 rfl (Nat.le_refl _) (Nat.le_refl _) ⟨_, rfl, ⟨_, _, _, rfl, hnn_414, hrn_414, e415.trans ekc0.symm, e416.trans ekc7.symm, e417.trans ekc8.symm, ⟨(vE_y (T := pN n) (d := n 8) (t := n 0) (p := n 2) (a := za) (b := zb) (c := zc) (e := zd) (not6 (rg_in (a := 0) (b := 1) (by omega) ek3 (by omega) (by omega)) (fun q => q.elim ac5 (by rw [ekc8]; exact bc5)) (by rw [ek9]; exact nI_pos (by omega)) (nt_in ekc0 (by omega) ek225 (by omega)) (fun q => q (by rw [dv1 ek9 (by omega)]; exact pk11)) (fun q => q (by rw [rm1 ek9 (by omega)]; exact pk15))) ekc2 (by omega)).1, e418.trans (vE_y (T := pN n) (d := n 8) (t := n 0) (p := n 2) (a := za) (b := zb) (c := zc) (e := zd) (not6 (rg_in (a := 0) (b := 1) (by omega) ek3 (by omega) (by omega)) (fun q => q.elim ac5 (by rw [ekc8]; exact bc5)) (by rw [ek9]; exact nI_pos (by omega)) (nt_in ekc0 (by omega) ek225 (by omega)) (fun q => q (by rw [dv1 ek9 (by omega)]; exact pk11)) (fun q => q (by rw [rm1 ek9 (by omega)]; exact pk15))) ekc2 (by omega)).2.1, fun j hj => by rw [e418, nI_clamp (by omega)] at hj; rw [(vE_y (T := pN n) (d := n 8) (t := n 0) (p := n 2) (a := za) (b := zb) (c := zc) (e := zd) (not6 (rg_in (a := 0) (b := 1) (by omega) ek3 (by omega) (by omega)) (fun q => q.elim ac5 (by rw [ekc8]; exact bc5)) (by rw [ek9]; exact nI_pos (by omega)) (nt_in ekc0 (by omega) ek225 (by omega)) (fun q => q (by rw [dv1 ek9 (by omega)]; exact pk11)) (fun q => q (by rw [rm1 ek9 (by omega)]; exact pk15))) ekc2 (by omega)).2.2]; exact tP_ok ksn_414 (e420.trans ek3.symm) e421 e422 e419 (by omega) j hj⟩⟩, rfl⟩
              · refine pm_aloadn hG dX12_person_102 rfl ?_
                refine pm_iconst (v := nI 4) hG dX12_person_103 (by decide) ?_
                refine pm_callV (As := [.int (nI 4)]) (rest := []) hG hR dX12_person_104 (lkX12_80 _ rfl) okV_X12_finds rfl rfl (m_finds (d := 2) (by decide) hn hz (by omega)) rfl rfl hdd (Nat.le_refl _) (Nat.le_refl _) (by decide) (pm_ki (fun v424 σ' cnt' hq => ?_))
                obtain ⟨⟨I425, A425, rfl⟩, rfl, fv424⟩ := hq
                exact pm_iret hG hF dX12_person_107 rfl (Nat.le_refl _) (Nat.le_refl _) ⟨_, rfl, ⟨_, _, _, rfl, hn, hr, ekc0.trans ekc0.symm, ekc7.trans ekc7.symm, ekc8.trans ekc8.symm, ⟨fv424.trans ((by decide : (-1000000 : Int32) - nI 4 = -1000004).trans (vE_f (T := pN n) (d := n 8) (t := n 0) (p := n 2) (a := za) (b := zb) (c := zc) (e := zd) (not6 (rg_in (a := 0) (b := 1) (by omega) ek3 (by omega) (by omega)) (fun q => q.elim ac5 (by rw [ekc8]; exact bc5)) (by rw [ek9]; exact nI_pos (by omega)) (nt_in ekc0 (by omega) ek225 (by omega)) (fun q => q (by rw [dv1 ek9 (by omega)]; exact pk11)) (fun q => q (by rw [rm1 ek9 (by omega)]; exact pk15))) (ekc2.trans (congrArg nI (by omega)))).1), (vE_f (T := pN n) (d := n 8) (t := n 0) (p := n 2) (a := za) (b := zb) (c := zc) (e := zd) (not6 (rg_in (a := 0) (b := 1) (by omega) ek3 (by omega) (by omega)) (fun q => q.elim ac5 (by rw [ekc8]; exact bc5)) (by rw [ek9]; exact nI_pos (by omega)) (nt_in ekc0 (by omega) ek225 (by omega)) (fun q => q (by rw [dv1 ek9 (by omega)]; exact pk11)) (fun q => q (by rw [rm1 ek9 (by omega)]; exact pk15))) (ekc2.trans (congrArg nI (by omega)))).2.1, fun j _ => by rw [(vE_f (T := pN n) (d := n 8) (t := n 0) (p := n 2) (a := za) (b := zb) (c := zc) (e := zd) (not6 (rg_in (a := 0) (b := 1) (by omega) ek3 (by omega) (by omega)) (fun q => q.elim ac5 (by rw [ekc8]; exact bc5)) (by rw [ek9]; exact nI_pos (by omega)) (nt_in ekc0 (by omega) ek225 (by omega)) (fun q => q (by rw [dv1 ek9 (by omega)]; exact pk11)) (fun q => q (by rw [rm1 ek9 (by omega)]; exact pk15))) (ekc2.trans (congrArg nI (by omega)))).2.2]⟩⟩, rfl⟩
            · refine pm_ifN_eq (tgt := 73) hG dX12_person_66 rfl (by omega) (fun _ => ?_) (fun q => absurd q (by omega))
              refine pm_iconst (v := nI 0) hG dX12_person_73 (by decide) ?_
              refine pm_istoreXi (loc' := [some (.ref (B + 54)), some (.int za), some (.int zb), some (.int zc), some (.int zd), some (.int (nI 0)), none, none]) hG dX12_person_74 (by decide) (pm_c1b rfl) rfl ?_
              refine pm_iloadi hG dX12_person_76 rfl ?_
              refine pm_ifN_ne (tgt := 87) hG dX12_person_78 rfl (by omega) (fun q => absurd q (by omega)) (fun _ => ?_)
              refine pm_aloadn hG dX12_person_81 rfl ?_
              refine pm_iconst (v := nI 1) hG dX12_person_82 (by decide) ?_
              refine pm_callV (As := [.int (nI 1)]) (rest := []) hG hR dX12_person_83 (lkX12_80 _ rfl) okV_X12_finds rfl rfl (m_finds (d := 2) (by decide) hn hz (by omega)) rfl rfl hdd (Nat.le_refl _) (Nat.le_refl _) (by decide) (pm_ki (fun v426 σ' cnt' hq => ?_))
              obtain ⟨⟨I427, A427, rfl⟩, rfl, fv426⟩ := hq
              exact pm_iret hG hF dX12_person_86 rfl (Nat.le_refl _) (Nat.le_refl _) ⟨_, rfl, ⟨_, _, _, rfl, hn, hr, ekc0.trans ekc0.symm, ekc7.trans ekc7.symm, ekc8.trans ekc8.symm, ⟨fv426.trans ((by decide : (-1000000 : Int32) - nI 1 = -1000001).trans (vE_n (T := pN n) (d := n 8) (t := n 0) (p := n 2) (a := za) (b := zb) (c := zc) (e := zd) (Or.inr (Or.inr (Or.inr (Or.inl (nt_out ekc0 (by omega) ntk225)))))).1), (vE_n (T := pN n) (d := n 8) (t := n 0) (p := n 2) (a := za) (b := zb) (c := zc) (e := zd) (Or.inr (Or.inr (Or.inr (Or.inl (nt_out ekc0 (by omega) ntk225)))))).2.1, fun j _ => by rw [(vE_n (T := pN n) (d := n 8) (t := n 0) (p := n 2) (a := za) (b := zb) (c := zc) (e := zd) (Or.inr (Or.inr (Or.inr (Or.inl (nt_out ekc0 (by omega) ntk225)))))).2.2]⟩⟩, rfl⟩
        · refine pm_ifN_eq (tgt := 73) hG dX12_person_42 rfl (by omega) (fun q => absurd q (by omega)) (fun _ => ?_)
          refine pm_aloadn hG dX12_person_45 rfl ?_
          refine pm_iloadn hG dX12_person_46 rfl ?_
          refine pm_top (v := nI k9) ek9 ?_
          refine pm_bipush (v := nI 100) hG dX12_person_47 (by decide) ?_
          refine pm_iremM hG dX12_person_49 (by omega) (by decide) (by decide) ?_
          refine pm_iconst (v := nI 1) hG dX12_person_50 (by decide) ?_
          refine pm_isub hG dX12_person_51 ?_
          refine pm_iconst (v := nI 0) hG dX12_person_52 (by decide) ?_
          refine pm_iloadn hG dX12_person_53 rfl ?_
          refine pm_callV (As := [.int ((nI ((k9 % 100))) - (nI 1)), .int (nI 0), .int zb]) (rest := []) hG hR dX12_person_54 (lkX12_94 _ rfl) okV_X12_isParent rfl rfl (m_isParent (d := 2) (by decide) hn hz) rfl rfl hdd (Nat.le_refl _) (Nat.le_refl _) (by decide) (pm_ki (fun v428 σ' cnt' hq => ?_))
          obtain ⟨rfl, rfl, hq⟩ := hq
          rcases hq with ⟨rfl, pk429⟩ | ⟨rfl, pk429, ek429 | ⟨k429, hk429, ek429⟩⟩
          · refine pm_ifN_eq (tgt := 73) hG dX12_person_57 rfl (by omega) (fun _ => ?_) (fun q => absurd q (by omega))
            refine pm_iconst (v := nI 0) hG dX12_person_73 (by decide) ?_
            refine pm_istoreXi (loc' := [some (.ref (B + 54)), some (.int za), some (.int zb), some (.int zc), some (.int zd), some (.int (nI 0)), none, none]) hG dX12_person_74 (by decide) (pm_c1b rfl) rfl ?_
            refine pm_iloadi hG dX12_person_76 rfl ?_
            refine pm_ifN_ne (tgt := 87) hG dX12_person_78 rfl (by omega) (fun q => absurd q (by omega)) (fun _ => ?_)
            refine pm_aloadn hG dX12_person_81 rfl ?_
            refine pm_iconst (v := nI 1) hG dX12_person_82 (by decide) ?_
            refine pm_callV (As := [.int (nI 1)]) (rest := []) hG hR dX12_person_83 (lkX12_80 _ rfl) okV_X12_finds rfl rfl (m_finds (d := 2) (by decide) hn hz (by omega)) rfl rfl hdd (Nat.le_refl _) (Nat.le_refl _) (by decide) (pm_ki (fun v430 σ' cnt' hq => ?_))
            obtain ⟨⟨I431, A431, rfl⟩, rfl, fv430⟩ := hq
            exact pm_iret hG hF dX12_person_86 rfl (Nat.le_refl _) (Nat.le_refl _) ⟨_, rfl, ⟨_, _, _, rfl, hn, hr, ekc0.trans ekc0.symm, ekc7.trans ekc7.symm, ekc8.trans ekc8.symm, ⟨fv430.trans ((by decide : (-1000000 : Int32) - nI 1 = -1000001).trans (vE_n (T := pN n) (d := n 8) (t := n 0) (p := n 2) (a := za) (b := zb) (c := zc) (e := zd) (Or.inr (Or.inr (Or.inr (Or.inr (Or.inr (by rw [rm1 ek9 (by omega)]; exact pk429))))))).1), (vE_n (T := pN n) (d := n 8) (t := n 0) (p := n 2) (a := za) (b := zb) (c := zc) (e := zd) (Or.inr (Or.inr (Or.inr (Or.inr (Or.inr (by rw [rm1 ek9 (by omega)]; exact pk429))))))).2.1, fun j _ => by rw [(vE_n (T := pN n) (d := n 8) (t := n 0) (p := n 2) (a := za) (b := zb) (c := zc) (e := zd) (Or.inr (Or.inr (Or.inr (Or.inr (Or.inr (by rw [rm1 ek9 (by omega)]; exact pk429))))))).2.2]⟩⟩, rfl⟩
          · refine pm_ifN_eq (tgt := 73) hG dX12_person_57 rfl (by omega) (fun q => absurd q (by omega)) (fun _ => ?_)
            refine pm_aloadn hG dX12_person_60 rfl ?_
            refine pm_iloadi hG dX12_person_61 rfl ?_
            refine pm_callV (As := [.int zd]) (rest := []) hG hR dX12_person_63 (lkX12_84 _ rfl) okV_X12_isTown rfl rfl (m_isTown (d := 2) (by decide) ekc0 (by omega)) rfl rfl hdd (Nat.le_refl _) (Nat.le_refl _) (by decide) (pm_ki (fun v432 σ' cnt' hq => ?_))
            obtain ⟨hq, rfl, rfl⟩ := hq
            rcases hq with ⟨rfl, k434, hk434, ek434⟩ | ⟨rfl, ntk434⟩
            · refine pm_ifN_eq (tgt := 73) hG dX12_person_66 rfl (by omega) (fun q => absurd q (by omega)) (fun _ => ?_)
              refine pm_iconst (v := nI 1) hG dX12_person_69 (by decide) ?_
              refine pm_goto (tgt := 74) hG dX12_person_70 rfl ?_
              refine pm_istoreXi (loc' := [some (.ref (B + 54)), some (.int za), some (.int zb), some (.int zc), some (.int zd), some (.int (nI 1)), none, none]) hG dX12_person_74 (by decide) (pm_c1b rfl) rfl ?_
              refine pm_iloadi hG dX12_person_76 rfl ?_
              refine pm_ifN_ne (tgt := 87) hG dX12_person_78 rfl (by omega) (fun _ => ?_) (fun q => absurd q (by omega))
              refine pm_aloadn hG dX12_person_87 rfl ?_
              refine pm_getf hG dX12_person_88 (flX12_7 _ rfl) rfl rfl ?_
              refine pm_iconst (v := nI 2) hG dX12_person_91 (by decide) ?_
              refine pm_ialdN hG dX12_person_92 rfl (by decide) (by omega) ?_
              refine pm_top (v := nI kc2) ekc2 ?_
              refine pm_istoreXi (loc' := [some (.ref (B + 54)), some (.int za), some (.int zb), some (.int zc), some (.int zd), some (.int (nI 1)), some (.int (nI kc2)), none]) hG dX12_person_93 (by decide) (pm_c1b rfl) rfl ?_
              refine pm_iloadi hG dX12_person_95 rfl ?_
              refine pm_bipush (v := nI 20) hG dX12_person_97 (by decide) ?_
              refine pm_icmpN_ne (tgt := 108) hG dX12_person_99 rfl (by omega) (by omega) (fun c435 => ?_) (fun c435 => ?_)
              · refine pm_aloadn hG dX12_person_108 rfl ?_
                refine pm_getf hG dX12_person_109 (flX12_7 _ rfl) rfl rfl ?_
                refine pm_iconst (v := nI 2) hG dX12_person_112 (by decide) ?_
                refine pm_dup2 hG dX12_person_113 rfl rfl ?_
                refine pm_ialdN hG dX12_person_114 rfl (by decide) (by omega) ?_
                refine pm_top (v := nI kc2) ekc2 ?_
                refine pm_iconst (v := nI 1) hG dX12_person_115 (by decide) ?_
                refine pm_iaddN (c := kc2 + 1) hG dX12_person_116 (by omega) ?_
                refine pm_iastN hG dX12_person_117 rfl (by decide) (by omega) ?_
                refine mdn_now (fun n_436 en_436 => ?_)
                have hnn_436 := KI.w en_436 hn (okv_n (show kd 2 = (1, 21, true) by decide) (by omega))
                have hrn_436 := NRx.pers en_436 hr ekc0 (by omega) ekc2 (by omega)
                have ksn_436 := KSh.w (h := 14 * kc2 + 110) en_436 KSh.rf (by unfold tS; omega)
                have e437 : n_436 0 = nI kc0 := by rw [en_436, pk_un (by omega)]; exact ekc0
                have e438 : n_436 7 = nI kc7 := by rw [en_436, pk_un (by omega)]; exact ekc7
                have e439 : n_436 8 = nI kc8 := by rw [en_436, pk_un (by omega)]; exact ekc8
                have e440 : n_436 2 = nI (kc2 + 1) := by rw [en_436, pk_us]
                refine pm_iconst (v := nI 0) hG dX12_person_118 (by decide) ?_
                refine pm_istoreXi (loc' := [some (.ref (B + 54)), some (.int za), some (.int zb), some (.int zc), some (.int zd), some (.int (nI 1)), some (.int (nI kc2)), some (.int (nI 0))]) hG dX12_person_119 (by decide) (pm_c1b rfl) rfl ?_
                refine pm_iloadi hG dX12_person_121 rfl ?_
                refine pm_bipush (v := nI 14) hG dX12_person_123 (by decide) ?_
                refine pm_icmpN_ge (tgt := 143) hG dX12_person_125 rfl (by omega) (by omega) (fun q => absurd q (by omega)) (fun _ => ?_)
                refine pm_aloadn hG dX12_person_128 rfl ?_
                refine pm_iloadi hG dX12_person_129 rfl ?_
                refine pm_iloadi hG dX12_person_131 rfl ?_
                refine pm_iconst (v := nI 0) hG dX12_person_133 (by decide) ?_
                refine pm_callV (As := [.int (nI kc2), .int (nI 0), .int (nI 0)]) (rest := []) hG hR dX12_person_134 (lkX12_97 _ rfl) okV_X12_sets rfl rfl (m_sets (d := 2) (e := 14 * kc2 + 110) (by omega) (by omega) (by omega)) rfl rfl hdd (Nat.le_refl _) (Nat.le_refl _) (by decide) (pm_kv (fun σ' cnt' hq => ?_))
                obtain ⟨rfl, rfl⟩ := hq
                obtain ⟨n_441, en_441⟩ : ∃ f : Nat → Int32, f = upd n_436 (14 * kc2 + 110) (nI 0) := ⟨_, rfl⟩
                rw [← en_441]
                have hnn_441 := KI.w en_441 hnn_436 (okv_f (show kd (14 * kc2 + 110) = (0, 0, false) from (kd_P (k := kc2) (c := 0) (by omega) (by omega) (by decide))))
                have hrn_441 := NRx.w en_441 hrn_436 (by rw [(show kd (14 * kc2 + 110) = (0, 0, false) from (kd_P (k := kc2) (c := 0) (by omega) (by omega) (by decide)))])
                have ksn_441 := KSh.w (h := 14 * kc2 + 110) en_441 ksn_436 (by unfold tS; omega)
                have e442 : n_441 0 = nI kc0 := by rw [en_441, pk_un (by omega)]; exact e437
                have e443 : n_441 7 = nI kc7 := by rw [en_441, pk_un (by omega)]; exact e438
                have e444 : n_441 8 = nI kc8 := by rw [en_441, pk_un (by omega)]; exact e439
                have e445 : n_441 2 = nI (kc2 + 1) := by rw [en_441, pk_un (by omega)]; exact e440
                have e446 : n_441 (14 * kc2 + 110) = nI 0 := by rw [en_441, pk_us]
                refine pm_iincX (v := nI 1) (loc' := [some (.ref (B + 54)), some (.int za), some (.int zb), some (.int zc), some (.int zd), some (.int (nI 1)), some (.int (nI kc2)), some (.int (nI 1))]) hG dX12_person_137 rfl (nI_1 _) (by decide) (pm_c1b rfl) rfl ?_
                refine pm_goto (tgt := 121) hG dX12_person_140 rfl ?_
                refine pm_iloadi hG dX12_person_121 rfl ?_
                refine pm_bipush (v := nI 14) hG dX12_person_123 (by decide) ?_
                refine pm_icmpN_ge (tgt := 143) hG dX12_person_125 rfl (by omega) (by omega) (fun q => absurd q (by omega)) (fun _ => ?_)
                refine pm_aloadn hG dX12_person_128 rfl ?_
                refine pm_iloadi hG dX12_person_129 rfl ?_
                refine pm_iloadi hG dX12_person_131 rfl ?_
                refine pm_iconst (v := nI 0) hG dX12_person_133 (by decide) ?_
                refine pm_callV (As := [.int (nI kc2), .int (nI 1), .int (nI 0)]) (rest := []) hG hR dX12_person_134 (lkX12_97 _ rfl) okV_X12_sets rfl rfl (m_sets (d := 2) (e := 14 * kc2 + 111) (by omega) (by omega) (by omega)) rfl rfl hdd (Nat.le_refl _) (Nat.le_refl _) (by decide) (pm_kv (fun σ' cnt' hq => ?_))
                obtain ⟨rfl, rfl⟩ := hq
                obtain ⟨n_447, en_447⟩ : ∃ f : Nat → Int32, f = upd n_441 (14 * kc2 + 111) (nI 0) := ⟨_, rfl⟩
                rw [← en_447]
                have hnn_447 := KI.w en_447 hnn_441 (okv_f (show kd (14 * kc2 + 111) = (0, 0, false) from (kd_P (k := kc2) (c := 1) (by omega) (by omega) (by decide))))
                have hrn_447 := NRx.w en_447 hrn_441 (by rw [(show kd (14 * kc2 + 111) = (0, 0, false) from (kd_P (k := kc2) (c := 1) (by omega) (by omega) (by decide)))])
                have ksn_447 := KSh.w (h := 14 * kc2 + 110) en_447 ksn_441 (by unfold tS; omega)
                have e448 : n_447 0 = nI kc0 := by rw [en_447, pk_un (by omega)]; exact e442
                have e449 : n_447 7 = nI kc7 := by rw [en_447, pk_un (by omega)]; exact e443
                have e450 : n_447 8 = nI kc8 := by rw [en_447, pk_un (by omega)]; exact e444
                have e451 : n_447 2 = nI (kc2 + 1) := by rw [en_447, pk_un (by omega)]; exact e445
                have e452 : n_447 (14 * kc2 + 110) = nI 0 := by rw [en_447, pk_un (by omega)]; exact e446
                have e453 : n_447 (14 * kc2 + 111) = nI 0 := by rw [en_447, pk_us]
                refine pm_iincX (v := nI 2) (loc' := [some (.ref (B + 54)), some (.int za), some (.int zb), some (.int zc), some (.int zd), some (.int (nI 1)), some (.int (nI kc2)), some (.int (nI 2))]) hG dX12_person_137 rfl (nI_1 _) (by decide) (pm_c1b rfl) rfl ?_
                refine pm_goto (tgt := 121) hG dX12_person_140 rfl ?_
                refine pm_iloadi hG dX12_person_121 rfl ?_
                refine pm_bipush (v := nI 14) hG dX12_person_123 (by decide) ?_
                refine pm_icmpN_ge (tgt := 143) hG dX12_person_125 rfl (by omega) (by omega) (fun q => absurd q (by omega)) (fun _ => ?_)
                refine pm_aloadn hG dX12_person_128 rfl ?_
                refine pm_iloadi hG dX12_person_129 rfl ?_
                refine pm_iloadi hG dX12_person_131 rfl ?_
                refine pm_iconst (v := nI 0) hG dX12_person_133 (by decide) ?_
                refine pm_callV (As := [.int (nI kc2), .int (nI 2), .int (nI 0)]) (rest := []) hG hR dX12_person_134 (lkX12_97 _ rfl) okV_X12_sets rfl rfl (m_sets (d := 2) (e := 14 * kc2 + 112) (by omega) (by omega) (by omega)) rfl rfl hdd (Nat.le_refl _) (Nat.le_refl _) (by decide) (pm_kv (fun σ' cnt' hq => ?_))
                obtain ⟨rfl, rfl⟩ := hq
                obtain ⟨n_454, en_454⟩ : ∃ f : Nat → Int32, f = upd n_447 (14 * kc2 + 112) (nI 0) := ⟨_, rfl⟩
                rw [← en_454]
                have hnn_454 := KI.w en_454 hnn_447 (okv_o (show kd (14 * kc2 + 112) = (2, 20, false) from (kd_P (k := kc2) (c := 2) (by omega) (by omega) (by decide))) (by omega))
                have hrn_454 := NRx.w en_454 hrn_447 (by rw [(show kd (14 * kc2 + 112) = (2, 20, false) from (kd_P (k := kc2) (c := 2) (by omega) (by omega) (by decide)))])
                have ksn_454 := KSh.w (h := 14 * kc2 + 110) en_454 ksn_447 (by unfold tS; omega)
                have e455 : n_454 0 = nI kc0 := by rw [en_454, pk_un (by omega)]; exact e448
                have e456 : n_454 7 = nI kc7 := by rw [en_454, pk_un (by omega)]; exact e449
                have e457 : n_454 8 = nI kc8 := by rw [en_454, pk_un (by omega)]; exact e450
                have e458 : n_454 2 = nI (kc2 + 1) := by rw [en_454, pk_un (by omega)]; exact e451
                have e459 : n_454 (14 * kc2 + 110) = nI 0 := by rw [en_454, pk_un (by omega)]; exact e452
                have e460 : n_454 (14 * kc2 + 111) = nI 0 := by rw [en_454, pk_un (by omega)]; exact e453
                have e461 : n_454 (14 * kc2 + 112) = nI 0 := by rw [en_454, pk_us]
                refine pm_iincX (v := nI 3) (loc' := [some (.ref (B + 54)), some (.int za), some (.int zb), some (.int zc), some (.int zd), some (.int (nI 1)), some (.int (nI kc2)), some (.int (nI 3))]) hG dX12_person_137 rfl (nI_1 _) (by decide) (pm_c1b rfl) rfl ?_
                refine pm_goto (tgt := 121) hG dX12_person_140 rfl ?_
                refine pm_iloadi hG dX12_person_121 rfl ?_
                refine pm_bipush (v := nI 14) hG dX12_person_123 (by decide) ?_
                refine pm_icmpN_ge (tgt := 143) hG dX12_person_125 rfl (by omega) (by omega) (fun q => absurd q (by omega)) (fun _ => ?_)
                refine pm_aloadn hG dX12_person_128 rfl ?_
                refine pm_iloadi hG dX12_person_129 rfl ?_
                refine pm_iloadi hG dX12_person_131 rfl ?_
                refine pm_iconst (v := nI 0) hG dX12_person_133 (by decide) ?_
                refine pm_callV (As := [.int (nI kc2), .int (nI 3), .int (nI 0)]) (rest := []) hG hR dX12_person_134 (lkX12_97 _ rfl) okV_X12_sets rfl rfl (m_sets (d := 2) (e := 14 * kc2 + 113) (by omega) (by omega) (by omega)) rfl rfl hdd (Nat.le_refl _) (Nat.le_refl _) (by decide) (pm_kv (fun σ' cnt' hq => ?_))
                obtain ⟨rfl, rfl⟩ := hq
                obtain ⟨n_462, en_462⟩ : ∃ f : Nat → Int32, f = upd n_454 (14 * kc2 + 113) (nI 0) := ⟨_, rfl⟩
                rw [← en_462]
                have hnn_462 := KI.w en_462 hnn_454 (okv_o (show kd (14 * kc2 + 113) = (2, 20, false) from (kd_P (k := kc2) (c := 3) (by omega) (by omega) (by decide))) (by omega))
                have hrn_462 := NRx.w en_462 hrn_454 (by rw [(show kd (14 * kc2 + 113) = (2, 20, false) from (kd_P (k := kc2) (c := 3) (by omega) (by omega) (by decide)))])
                have ksn_462 := KSh.w (h := 14 * kc2 + 110) en_462 ksn_454 (by unfold tS; omega)
                have e463 : n_462 0 = nI kc0 := by rw [en_462, pk_un (by omega)]; exact e455
                have e464 : n_462 7 = nI kc7 := by rw [en_462, pk_un (by omega)]; exact e456
                have e465 : n_462 8 = nI kc8 := by rw [en_462, pk_un (by omega)]; exact e457
                have e466 : n_462 2 = nI (kc2 + 1) := by rw [en_462, pk_un (by omega)]; exact e458
                have e467 : n_462 (14 * kc2 + 110) = nI 0 := by rw [en_462, pk_un (by omega)]; exact e459
                have e468 : n_462 (14 * kc2 + 111) = nI 0 := by rw [en_462, pk_un (by omega)]; exact e460
                have e469 : n_462 (14 * kc2 + 113) = nI 0 := by rw [en_462, pk_us]
                refine pm_iincX (v := nI 4) (loc' := [some (.ref (B + 54)), some (.int za), some (.int zb), some (.int zc), some (.int zd), some (.int (nI 1)), some (.int (nI kc2)), some (.int (nI 4))]) hG dX12_person_137 rfl (nI_1 _) (by decide) (pm_c1b rfl) rfl ?_
                refine pm_goto (tgt := 121) hG dX12_person_140 rfl ?_
                refine pm_iloadi hG dX12_person_121 rfl ?_
                refine pm_bipush (v := nI 14) hG dX12_person_123 (by decide) ?_
                refine pm_icmpN_ge (tgt := 143) hG dX12_person_125 rfl (by omega) (by omega) (fun q => absurd q (by omega)) (fun _ => ?_)
                refine pm_aloadn hG dX12_person_128 rfl ?_
                refine pm_iloadi hG dX12_person_129 rfl ?_
                refine pm_iloadi hG dX12_person_131 rfl ?_
                refine pm_iconst (v := nI 0) hG dX12_person_133 (by decide) ?_
                refine pm_callV (As := [.int (nI kc2), .int (nI 4), .int (nI 0)]) (rest := []) hG hR dX12_person_134 (lkX12_97 _ rfl) okV_X12_sets rfl rfl (m_sets (d := 2) (e := 14 * kc2 + 114) (by omega) (by omega) (by omega)) rfl rfl hdd (Nat.le_refl _) (Nat.le_refl _) (by decide) (pm_kv (fun σ' cnt' hq => ?_))
                obtain ⟨rfl, rfl⟩ := hq
                obtain ⟨n_470, en_470⟩ : ∃ f : Nat → Int32, f = upd n_462 (14 * kc2 + 114) (nI 0) := ⟨_, rfl⟩
                rw [← en_470]
                have hnn_470 := KI.w en_470 hnn_462 (okv_o (show kd (14 * kc2 + 114) = (2, 10, false) from (kd_P (k := kc2) (c := 4) (by omega) (by omega) (by decide))) (by omega))
                have hrn_470 := NRx.w en_470 hrn_462 (by rw [(show kd (14 * kc2 + 114) = (2, 10, false) from (kd_P (k := kc2) (c := 4) (by omega) (by omega) (by decide)))])
                have ksn_470 := KSh.w (h := 14 * kc2 + 110) en_470 ksn_462 (by unfold tS; omega)
                have e471 : n_470 0 = nI kc0 := by rw [en_470, pk_un (by omega)]; exact e463
                have e472 : n_470 7 = nI kc7 := by rw [en_470, pk_un (by omega)]; exact e464
                have e473 : n_470 8 = nI kc8 := by rw [en_470, pk_un (by omega)]; exact e465
                have e474 : n_470 2 = nI (kc2 + 1) := by rw [en_470, pk_un (by omega)]; exact e466
                have e475 : n_470 (14 * kc2 + 110) = nI 0 := by rw [en_470, pk_un (by omega)]; exact e467
                have e476 : n_470 (14 * kc2 + 111) = nI 0 := by rw [en_470, pk_un (by omega)]; exact e468
                have e477 : n_470 (14 * kc2 + 114) = nI 0 := by rw [en_470, pk_us]
                refine pm_iincX (v := nI 5) (loc' := [some (.ref (B + 54)), some (.int za), some (.int zb), some (.int zc), some (.int zd), some (.int (nI 1)), some (.int (nI kc2)), some (.int (nI 5))]) hG dX12_person_137 rfl (nI_1 _) (by decide) (pm_c1b rfl) rfl ?_
                refine pm_goto (tgt := 121) hG dX12_person_140 rfl ?_
                refine pm_iloadi hG dX12_person_121 rfl ?_
                refine pm_bipush (v := nI 14) hG dX12_person_123 (by decide) ?_
                refine pm_icmpN_ge (tgt := 143) hG dX12_person_125 rfl (by omega) (by omega) (fun q => absurd q (by omega)) (fun _ => ?_)
                refine pm_aloadn hG dX12_person_128 rfl ?_
                refine pm_iloadi hG dX12_person_129 rfl ?_
                refine pm_iloadi hG dX12_person_131 rfl ?_
                refine pm_iconst (v := nI 0) hG dX12_person_133 (by decide) ?_
                refine pm_callV (As := [.int (nI kc2), .int (nI 5), .int (nI 0)]) (rest := []) hG hR dX12_person_134 (lkX12_97 _ rfl) okV_X12_sets rfl rfl (m_sets (d := 2) (e := 14 * kc2 + 115) (by omega) (by omega) (by omega)) rfl rfl hdd (Nat.le_refl _) (Nat.le_refl _) (by decide) (pm_kv (fun σ' cnt' hq => ?_))
                obtain ⟨rfl, rfl⟩ := hq
                obtain ⟨n_478, en_478⟩ : ∃ f : Nat → Int32, f = upd n_470 (14 * kc2 + 115) (nI 0) := ⟨_, rfl⟩
                rw [← en_478]
                have hnn_478 := KI.w en_478 hnn_470 (okv_n (show kd (14 * kc2 + 115) = (1, 10, false) from (kd_P (k := kc2) (c := 5) (by omega) (by omega) (by decide))) (by omega))
                have hrn_478 := NRx.w en_478 hrn_470 (by rw [(show kd (14 * kc2 + 115) = (1, 10, false) from (kd_P (k := kc2) (c := 5) (by omega) (by omega) (by decide)))])
                have ksn_478 := KSh.w (h := 14 * kc2 + 110) en_478 ksn_470 (by unfold tS; omega)
                have e479 : n_478 0 = nI kc0 := by rw [en_478, pk_un (by omega)]; exact e471
                have e480 : n_478 7 = nI kc7 := by rw [en_478, pk_un (by omega)]; exact e472
                have e481 : n_478 8 = nI kc8 := by rw [en_478, pk_un (by omega)]; exact e473
                have e482 : n_478 2 = nI (kc2 + 1) := by rw [en_478, pk_un (by omega)]; exact e474
                have e483 : n_478 (14 * kc2 + 110) = nI 0 := by rw [en_478, pk_un (by omega)]; exact e475
                have e484 : n_478 (14 * kc2 + 111) = nI 0 := by rw [en_478, pk_un (by omega)]; exact e476
                have e485 : n_478 (14 * kc2 + 115) = nI 0 := by rw [en_478, pk_us]
                refine pm_iincX (v := nI 6) (loc' := [some (.ref (B + 54)), some (.int za), some (.int zb), some (.int zc), some (.int zd), some (.int (nI 1)), some (.int (nI kc2)), some (.int (nI 6))]) hG dX12_person_137 rfl (nI_1 _) (by decide) (pm_c1b rfl) rfl ?_
                refine pm_goto (tgt := 121) hG dX12_person_140 rfl ?_
                refine pm_iloadi hG dX12_person_121 rfl ?_
                refine pm_bipush (v := nI 14) hG dX12_person_123 (by decide) ?_
                refine pm_icmpN_ge (tgt := 143) hG dX12_person_125 rfl (by omega) (by omega) (fun q => absurd q (by omega)) (fun _ => ?_)
                refine pm_aloadn hG dX12_person_128 rfl ?_
                refine pm_iloadi hG dX12_person_129 rfl ?_
                refine pm_iloadi hG dX12_person_131 rfl ?_
                refine pm_iconst (v := nI 0) hG dX12_person_133 (by decide) ?_
                refine pm_callV (As := [.int (nI kc2), .int (nI 6), .int (nI 0)]) (rest := []) hG hR dX12_person_134 (lkX12_97 _ rfl) okV_X12_sets rfl rfl (m_sets (d := 2) (e := 14 * kc2 + 116) (by omega) (by omega) (by omega)) rfl rfl hdd (Nat.le_refl _) (Nat.le_refl _) (by decide) (pm_kv (fun σ' cnt' hq => ?_))
                obtain ⟨rfl, rfl⟩ := hq
                obtain ⟨n_486, en_486⟩ : ∃ f : Nat → Int32, f = upd n_478 (14 * kc2 + 116) (nI 0) := ⟨_, rfl⟩
                rw [← en_486]
                have hnn_486 := KI.w en_486 hnn_478 (okv_f (show kd (14 * kc2 + 116) = (0, 0, false) from (kd_P (k := kc2) (c := 6) (by omega) (by omega) (by decide))))
                have hrn_486 := NRx.w en_486 hrn_478 (by rw [(show kd (14 * kc2 + 116) = (0, 0, false) from (kd_P (k := kc2) (c := 6) (by omega) (by omega) (by decide)))])
                have ksn_486 := KSh.w (h := 14 * kc2 + 110) en_486 ksn_478 (by unfold tS; omega)
                have e487 : n_486 0 = nI kc0 := by rw [en_486, pk_un (by omega)]; exact e479
                have e488 : n_486 7 = nI kc7 := by rw [en_486, pk_un (by omega)]; exact e480
                have e489 : n_486 8 = nI kc8 := by rw [en_486, pk_un (by omega)]; exact e481
                have e490 : n_486 2 = nI (kc2 + 1) := by rw [en_486, pk_un (by omega)]; exact e482
                have e491 : n_486 (14 * kc2 + 110) = nI 0 := by rw [en_486, pk_un (by omega)]; exact e483
                have e492 : n_486 (14 * kc2 + 111) = nI 0 := by rw [en_486, pk_un (by omega)]; exact e484
                have e493 : n_486 (14 * kc2 + 116) = nI 0 := by rw [en_486, pk_us]
                refine pm_iincX (v := nI 7) (loc' := [some (.ref (B + 54)), some (.int za), some (.int zb), some (.int zc), some (.int zd), some (.int (nI 1)), some (.int (nI kc2)), some (.int (nI 7))]) hG dX12_person_137 rfl (nI_1 _) (by decide) (pm_c1b rfl) rfl ?_
                refine pm_goto (tgt := 121) hG dX12_person_140 rfl ?_
                refine pm_iloadi hG dX12_person_121 rfl ?_
                refine pm_bipush (v := nI 14) hG dX12_person_123 (by decide) ?_
                refine pm_icmpN_ge (tgt := 143) hG dX12_person_125 rfl (by omega) (by omega) (fun q => absurd q (by omega)) (fun _ => ?_)
                refine pm_aloadn hG dX12_person_128 rfl ?_
                refine pm_iloadi hG dX12_person_129 rfl ?_
                refine pm_iloadi hG dX12_person_131 rfl ?_
                refine pm_iconst (v := nI 0) hG dX12_person_133 (by decide) ?_
                refine pm_callV (As := [.int (nI kc2), .int (nI 7), .int (nI 0)]) (rest := []) hG hR dX12_person_134 (lkX12_97 _ rfl) okV_X12_sets rfl rfl (m_sets (d := 2) (e := 14 * kc2 + 117) (by omega) (by omega) (by omega)) rfl rfl hdd (Nat.le_refl _) (Nat.le_refl _) (by decide) (pm_kv (fun σ' cnt' hq => ?_))
                obtain ⟨rfl, rfl⟩ := hq
                obtain ⟨n_494, en_494⟩ : ∃ f : Nat → Int32, f = upd n_486 (14 * kc2 + 117) (nI 0) := ⟨_, rfl⟩
                rw [← en_494]
                have hnn_494 := KI.w en_494 hnn_486 (okv_f (show kd (14 * kc2 + 117) = (0, 0, false) from (kd_P (k := kc2) (c := 7) (by omega) (by omega) (by decide))))
                have hrn_494 := NRx.w en_494 hrn_486 (by rw [(show kd (14 * kc2 + 117) = (0, 0, false) from (kd_P (k := kc2) (c := 7) (by omega) (by omega) (by decide)))])
                have ksn_494 := KSh.w (h := 14 * kc2 + 110) en_494 ksn_486 (by unfold tS; omega)
                have e495 : n_494 0 = nI kc0 := by rw [en_494, pk_un (by omega)]; exact e487
                have e496 : n_494 7 = nI kc7 := by rw [en_494, pk_un (by omega)]; exact e488
                have e497 : n_494 8 = nI kc8 := by rw [en_494, pk_un (by omega)]; exact e489
                have e498 : n_494 2 = nI (kc2 + 1) := by rw [en_494, pk_un (by omega)]; exact e490
                have e499 : n_494 (14 * kc2 + 110) = nI 0 := by rw [en_494, pk_un (by omega)]; exact e491
                have e500 : n_494 (14 * kc2 + 111) = nI 0 := by rw [en_494, pk_un (by omega)]; exact e492
                have e501 : n_494 (14 * kc2 + 117) = nI 0 := by rw [en_494, pk_us]
                refine pm_iincX (v := nI 8) (loc' := [some (.ref (B + 54)), some (.int za), some (.int zb), some (.int zc), some (.int zd), some (.int (nI 1)), some (.int (nI kc2)), some (.int (nI 8))]) hG dX12_person_137 rfl (nI_1 _) (by decide) (pm_c1b rfl) rfl ?_
                refine pm_goto (tgt := 121) hG dX12_person_140 rfl ?_
                refine pm_iloadi hG dX12_person_121 rfl ?_
                refine pm_bipush (v := nI 14) hG dX12_person_123 (by decide) ?_
                refine pm_icmpN_ge (tgt := 143) hG dX12_person_125 rfl (by omega) (by omega) (fun q => absurd q (by omega)) (fun _ => ?_)
                refine pm_aloadn hG dX12_person_128 rfl ?_
                refine pm_iloadi hG dX12_person_129 rfl ?_
                refine pm_iloadi hG dX12_person_131 rfl ?_
                refine pm_iconst (v := nI 0) hG dX12_person_133 (by decide) ?_
                refine pm_callV (As := [.int (nI kc2), .int (nI 8), .int (nI 0)]) (rest := []) hG hR dX12_person_134 (lkX12_97 _ rfl) okV_X12_sets rfl rfl (m_sets (d := 2) (e := 14 * kc2 + 118) (by omega) (by omega) (by omega)) rfl rfl hdd (Nat.le_refl _) (Nat.le_refl _) (by decide) (pm_kv (fun σ' cnt' hq => ?_))
                obtain ⟨rfl, rfl⟩ := hq
                obtain ⟨n_502, en_502⟩ : ∃ f : Nat → Int32, f = upd n_494 (14 * kc2 + 118) (nI 0) := ⟨_, rfl⟩
                rw [← en_502]
                have hnn_502 := KI.w en_502 hnn_494 (okv_f (show kd (14 * kc2 + 118) = (0, 0, false) from (kd_P (k := kc2) (c := 8) (by omega) (by omega) (by decide))))
                have hrn_502 := NRx.w en_502 hrn_494 (by rw [(show kd (14 * kc2 + 118) = (0, 0, false) from (kd_P (k := kc2) (c := 8) (by omega) (by omega) (by decide)))])
                have ksn_502 := KSh.w (h := 14 * kc2 + 110) en_502 ksn_494 (by unfold tS; omega)
                have e503 : n_502 0 = nI kc0 := by rw [en_502, pk_un (by omega)]; exact e495
                have e504 : n_502 7 = nI kc7 := by rw [en_502, pk_un (by omega)]; exact e496
                have e505 : n_502 8 = nI kc8 := by rw [en_502, pk_un (by omega)]; exact e497
                have e506 : n_502 2 = nI (kc2 + 1) := by rw [en_502, pk_un (by omega)]; exact e498
                have e507 : n_502 (14 * kc2 + 110) = nI 0 := by rw [en_502, pk_un (by omega)]; exact e499
                have e508 : n_502 (14 * kc2 + 111) = nI 0 := by rw [en_502, pk_un (by omega)]; exact e500
                have e509 : n_502 (14 * kc2 + 118) = nI 0 := by rw [en_502, pk_us]
                refine pm_iincX (v := nI 9) (loc' := [some (.ref (B + 54)), some (.int za), some (.int zb), some (.int zc), some (.int zd), some (.int (nI 1)), some (.int (nI kc2)), some (.int (nI 9))]) hG dX12_person_137 rfl (nI_1 _) (by decide) (pm_c1b rfl) rfl ?_
                refine pm_goto (tgt := 121) hG dX12_person_140 rfl ?_
                refine pm_iloadi hG dX12_person_121 rfl ?_
                refine pm_bipush (v := nI 14) hG dX12_person_123 (by decide) ?_
                refine pm_icmpN_ge (tgt := 143) hG dX12_person_125 rfl (by omega) (by omega) (fun q => absurd q (by omega)) (fun _ => ?_)
                refine pm_aloadn hG dX12_person_128 rfl ?_
                refine pm_iloadi hG dX12_person_129 rfl ?_
                refine pm_iloadi hG dX12_person_131 rfl ?_
                refine pm_iconst (v := nI 0) hG dX12_person_133 (by decide) ?_
                refine pm_callV (As := [.int (nI kc2), .int (nI 9), .int (nI 0)]) (rest := []) hG hR dX12_person_134 (lkX12_97 _ rfl) okV_X12_sets rfl rfl (m_sets (d := 2) (e := 14 * kc2 + 119) (by omega) (by omega) (by omega)) rfl rfl hdd (Nat.le_refl _) (Nat.le_refl _) (by decide) (pm_kv (fun σ' cnt' hq => ?_))
                obtain ⟨rfl, rfl⟩ := hq
                obtain ⟨n_510, en_510⟩ : ∃ f : Nat → Int32, f = upd n_502 (14 * kc2 + 119) (nI 0) := ⟨_, rfl⟩
                rw [← en_510]
                have hnn_510 := KI.w en_510 hnn_502 (okv_o (show kd (14 * kc2 + 119) = (2, 2001, false) from (kd_P (k := kc2) (c := 9) (by omega) (by omega) (by decide))) (by omega))
                have hrn_510 := NRx.w en_510 hrn_502 (by rw [(show kd (14 * kc2 + 119) = (2, 2001, false) from (kd_P (k := kc2) (c := 9) (by omega) (by omega) (by decide)))])
                have ksn_510 := KSh.w (h := 14 * kc2 + 110) en_510 ksn_502 (by unfold tS; omega)
                have e511 : n_510 0 = nI kc0 := by rw [en_510, pk_un (by omega)]; exact e503
                have e512 : n_510 7 = nI kc7 := by rw [en_510, pk_un (by omega)]; exact e504
                have e513 : n_510 8 = nI kc8 := by rw [en_510, pk_un (by omega)]; exact e505
                have e514 : n_510 2 = nI (kc2 + 1) := by rw [en_510, pk_un (by omega)]; exact e506
                have e515 : n_510 (14 * kc2 + 110) = nI 0 := by rw [en_510, pk_un (by omega)]; exact e507
                have e516 : n_510 (14 * kc2 + 111) = nI 0 := by rw [en_510, pk_un (by omega)]; exact e508
                have e517 : n_510 (14 * kc2 + 119) = nI 0 := by rw [en_510, pk_us]
                refine pm_iincX (v := nI 10) (loc' := [some (.ref (B + 54)), some (.int za), some (.int zb), some (.int zc), some (.int zd), some (.int (nI 1)), some (.int (nI kc2)), some (.int (nI 10))]) hG dX12_person_137 rfl (nI_1 _) (by decide) (pm_c1b rfl) rfl ?_
                refine pm_goto (tgt := 121) hG dX12_person_140 rfl ?_
                refine pm_iloadi hG dX12_person_121 rfl ?_
                refine pm_bipush (v := nI 14) hG dX12_person_123 (by decide) ?_
                refine pm_icmpN_ge (tgt := 143) hG dX12_person_125 rfl (by omega) (by omega) (fun q => absurd q (by omega)) (fun _ => ?_)
                refine pm_aloadn hG dX12_person_128 rfl ?_
                refine pm_iloadi hG dX12_person_129 rfl ?_
                refine pm_iloadi hG dX12_person_131 rfl ?_
                refine pm_iconst (v := nI 0) hG dX12_person_133 (by decide) ?_
                refine pm_callV (As := [.int (nI kc2), .int (nI 10), .int (nI 0)]) (rest := []) hG hR dX12_person_134 (lkX12_97 _ rfl) okV_X12_sets rfl rfl (m_sets (d := 2) (e := 14 * kc2 + 120) (by omega) (by omega) (by omega)) rfl rfl hdd (Nat.le_refl _) (Nat.le_refl _) (by decide) (pm_kv (fun σ' cnt' hq => ?_))
                obtain ⟨rfl, rfl⟩ := hq
                obtain ⟨n_518, en_518⟩ : ∃ f : Nat → Int32, f = upd n_510 (14 * kc2 + 120) (nI 0) := ⟨_, rfl⟩
                rw [← en_518]
                have hnn_518 := KI.w en_518 hnn_510 (okv_f (show kd (14 * kc2 + 120) = (0, 0, false) from (kd_P (k := kc2) (c := 10) (by omega) (by omega) (by decide))))
                have hrn_518 := NRx.w en_518 hrn_510 (by rw [(show kd (14 * kc2 + 120) = (0, 0, false) from (kd_P (k := kc2) (c := 10) (by omega) (by omega) (by decide)))])
                have ksn_518 := KSh.w (h := 14 * kc2 + 110) en_518 ksn_510 (by unfold tS; omega)
                have e519 : n_518 0 = nI kc0 := by rw [en_518, pk_un (by omega)]; exact e511
                have e520 : n_518 7 = nI kc7 := by rw [en_518, pk_un (by omega)]; exact e512
                have e521 : n_518 8 = nI kc8 := by rw [en_518, pk_un (by omega)]; exact e513
                have e522 : n_518 2 = nI (kc2 + 1) := by rw [en_518, pk_un (by omega)]; exact e514
                have e523 : n_518 (14 * kc2 + 110) = nI 0 := by rw [en_518, pk_un (by omega)]; exact e515
                have e524 : n_518 (14 * kc2 + 111) = nI 0 := by rw [en_518, pk_un (by omega)]; exact e516
                have e525 : n_518 (14 * kc2 + 119) = nI 0 := by rw [en_518, pk_un (by omega)]; exact e517
                have e526 : n_518 (14 * kc2 + 120) = nI 0 := by rw [en_518, pk_us]
                refine pm_iincX (v := nI 11) (loc' := [some (.ref (B + 54)), some (.int za), some (.int zb), some (.int zc), some (.int zd), some (.int (nI 1)), some (.int (nI kc2)), some (.int (nI 11))]) hG dX12_person_137 rfl (nI_1 _) (by decide) (pm_c1b rfl) rfl ?_
                refine pm_goto (tgt := 121) hG dX12_person_140 rfl ?_
                refine pm_iloadi hG dX12_person_121 rfl ?_
                refine pm_bipush (v := nI 14) hG dX12_person_123 (by decide) ?_
                refine pm_icmpN_ge (tgt := 143) hG dX12_person_125 rfl (by omega) (by omega) (fun q => absurd q (by omega)) (fun _ => ?_)
                refine pm_aloadn hG dX12_person_128 rfl ?_
                refine pm_iloadi hG dX12_person_129 rfl ?_
                refine pm_iloadi hG dX12_person_131 rfl ?_
                refine pm_iconst (v := nI 0) hG dX12_person_133 (by decide) ?_
                refine pm_callV (As := [.int (nI kc2), .int (nI 11), .int (nI 0)]) (rest := []) hG hR dX12_person_134 (lkX12_97 _ rfl) okV_X12_sets rfl rfl (m_sets (d := 2) (e := 14 * kc2 + 121) (by omega) (by omega) (by omega)) rfl rfl hdd (Nat.le_refl _) (Nat.le_refl _) (by decide) (pm_kv (fun σ' cnt' hq => ?_))
                obtain ⟨rfl, rfl⟩ := hq
                obtain ⟨n_527, en_527⟩ : ∃ f : Nat → Int32, f = upd n_518 (14 * kc2 + 121) (nI 0) := ⟨_, rfl⟩
                rw [← en_527]
                have hnn_527 := KI.w en_527 hnn_518 (okv_n (show kd (14 * kc2 + 121) = (1, 2, true) from (kd_P (k := kc2) (c := 11) (by omega) (by omega) (by decide))) (by omega))
                have hrn_527 := NRx.unseat (p := kc2) en_527 hrn_518 (by omega)
                have ksn_527 := KSh.w (h := 14 * kc2 + 110) en_527 ksn_518 (by unfold tS; omega)
                have e528 : n_527 0 = nI kc0 := by rw [en_527, pk_un (by omega)]; exact e519
                have e529 : n_527 7 = nI kc7 := by rw [en_527, pk_un (by omega)]; exact e520
                have e530 : n_527 8 = nI kc8 := by rw [en_527, pk_un (by omega)]; exact e521
                have e531 : n_527 2 = nI (kc2 + 1) := by rw [en_527, pk_un (by omega)]; exact e522
                have e532 : n_527 (14 * kc2 + 110) = nI 0 := by rw [en_527, pk_un (by omega)]; exact e523
                have e533 : n_527 (14 * kc2 + 111) = nI 0 := by rw [en_527, pk_un (by omega)]; exact e524
                have e534 : n_527 (14 * kc2 + 119) = nI 0 := by rw [en_527, pk_un (by omega)]; exact e525
                have e535 : n_527 (14 * kc2 + 121) = nI 0 := by rw [en_527, pk_us]
                refine pm_iincX (v := nI 12) (loc' := [some (.ref (B + 54)), some (.int za), some (.int zb), some (.int zc), some (.int zd), some (.int (nI 1)), some (.int (nI kc2)), some (.int (nI 12))]) hG dX12_person_137 rfl (nI_1 _) (by decide) (pm_c1b rfl) rfl ?_
                refine pm_goto (tgt := 121) hG dX12_person_140 rfl ?_
                refine pm_iloadi hG dX12_person_121 rfl ?_
                refine pm_bipush (v := nI 14) hG dX12_person_123 (by decide) ?_
                refine pm_icmpN_ge (tgt := 143) hG dX12_person_125 rfl (by omega) (by omega) (fun q => absurd q (by omega)) (fun _ => ?_)
                refine pm_aloadn hG dX12_person_128 rfl ?_
                refine pm_iloadi hG dX12_person_129 rfl ?_
                refine pm_iloadi hG dX12_person_131 rfl ?_
                refine pm_iconst (v := nI 0) hG dX12_person_133 (by decide) ?_
                refine pm_callV (As := [.int (nI kc2), .int (nI 12), .int (nI 0)]) (rest := []) hG hR dX12_person_134 (lkX12_97 _ rfl) okV_X12_sets rfl rfl (m_sets (d := 2) (e := 14 * kc2 + 122) (by omega) (by omega) (by omega)) rfl rfl hdd (Nat.le_refl _) (Nat.le_refl _) (by decide) (pm_kv (fun σ' cnt' hq => ?_))
                obtain ⟨rfl, rfl⟩ := hq
                obtain ⟨n_536, en_536⟩ : ∃ f : Nat → Int32, f = upd n_527 (14 * kc2 + 122) (nI 0) := ⟨_, rfl⟩
                rw [← en_536]
                have hnn_536 := KI.w en_536 hnn_527 (okv_f (show kd (14 * kc2 + 122) = (0, 0, false) from (kd_P (k := kc2) (c := 12) (by omega) (by omega) (by decide))))
                have hrn_536 := NRx.w en_536 hrn_527 (by rw [(show kd (14 * kc2 + 122) = (0, 0, false) from (kd_P (k := kc2) (c := 12) (by omega) (by omega) (by decide)))])
                have ksn_536 := KSh.w (h := 14 * kc2 + 110) en_536 ksn_527 (by unfold tS; omega)
                have e537 : n_536 0 = nI kc0 := by rw [en_536, pk_un (by omega)]; exact e528
                have e538 : n_536 7 = nI kc7 := by rw [en_536, pk_un (by omega)]; exact e529
                have e539 : n_536 8 = nI kc8 := by rw [en_536, pk_un (by omega)]; exact e530
                have e540 : n_536 2 = nI (kc2 + 1) := by rw [en_536, pk_un (by omega)]; exact e531
                have e541 : n_536 (14 * kc2 + 110) = nI 0 := by rw [en_536, pk_un (by omega)]; exact e532
                have e542 : n_536 (14 * kc2 + 111) = nI 0 := by rw [en_536, pk_un (by omega)]; exact e533
                have e543 : n_536 (14 * kc2 + 119) = nI 0 := by rw [en_536, pk_un (by omega)]; exact e534
                have e544 : n_536 (14 * kc2 + 121) = nI 0 := by rw [en_536, pk_un (by omega)]; exact e535
                have e545 : n_536 (14 * kc2 + 122) = nI 0 := by rw [en_536, pk_us]
                refine pm_iincX (v := nI 13) (loc' := [some (.ref (B + 54)), some (.int za), some (.int zb), some (.int zc), some (.int zd), some (.int (nI 1)), some (.int (nI kc2)), some (.int (nI 13))]) hG dX12_person_137 rfl (nI_1 _) (by decide) (pm_c1b rfl) rfl ?_
                refine pm_goto (tgt := 121) hG dX12_person_140 rfl ?_
                refine pm_iloadi hG dX12_person_121 rfl ?_
                refine pm_bipush (v := nI 14) hG dX12_person_123 (by decide) ?_
                refine pm_icmpN_ge (tgt := 143) hG dX12_person_125 rfl (by omega) (by omega) (fun q => absurd q (by omega)) (fun _ => ?_)
                refine pm_aloadn hG dX12_person_128 rfl ?_
                refine pm_iloadi hG dX12_person_129 rfl ?_
                refine pm_iloadi hG dX12_person_131 rfl ?_
                refine pm_iconst (v := nI 0) hG dX12_person_133 (by decide) ?_
                refine pm_callV (As := [.int (nI kc2), .int (nI 13), .int (nI 0)]) (rest := []) hG hR dX12_person_134 (lkX12_97 _ rfl) okV_X12_sets rfl rfl (m_sets (d := 2) (e := 14 * kc2 + 123) (by omega) (by omega) (by omega)) rfl rfl hdd (Nat.le_refl _) (Nat.le_refl _) (by decide) (pm_kv (fun σ' cnt' hq => ?_))
                obtain ⟨rfl, rfl⟩ := hq
                obtain ⟨n_546, en_546⟩ : ∃ f : Nat → Int32, f = upd n_536 (14 * kc2 + 123) (nI 0) := ⟨_, rfl⟩
                rw [← en_546]
                have hnn_546 := KI.w en_546 hnn_536 (okv_f (show kd (14 * kc2 + 123) = (0, 0, false) from (kd_P (k := kc2) (c := 13) (by omega) (by omega) (by decide))))
                have hrn_546 := NRx.w en_546 hrn_536 (by rw [(show kd (14 * kc2 + 123) = (0, 0, false) from (kd_P (k := kc2) (c := 13) (by omega) (by omega) (by decide)))])
                have ksn_546 := KSh.w (h := 14 * kc2 + 110) en_546 ksn_536 (by unfold tS; omega)
                have e547 : n_546 0 = nI kc0 := by rw [en_546, pk_un (by omega)]; exact e537
                have e548 : n_546 7 = nI kc7 := by rw [en_546, pk_un (by omega)]; exact e538
                have e549 : n_546 8 = nI kc8 := by rw [en_546, pk_un (by omega)]; exact e539
                have e550 : n_546 2 = nI (kc2 + 1) := by rw [en_546, pk_un (by omega)]; exact e540
                have e551 : n_546 (14 * kc2 + 110) = nI 0 := by rw [en_546, pk_un (by omega)]; exact e541
                have e552 : n_546 (14 * kc2 + 111) = nI 0 := by rw [en_546, pk_un (by omega)]; exact e542
                have e553 : n_546 (14 * kc2 + 119) = nI 0 := by rw [en_546, pk_un (by omega)]; exact e543
                have e554 : n_546 (14 * kc2 + 121) = nI 0 := by rw [en_546, pk_un (by omega)]; exact e544
                have e555 : n_546 (14 * kc2 + 123) = nI 0 := by rw [en_546, pk_us]
                refine pm_iincX (v := nI 14) (loc' := [some (.ref (B + 54)), some (.int za), some (.int zb), some (.int zc), some (.int zd), some (.int (nI 1)), some (.int (nI kc2)), some (.int (nI 14))]) hG dX12_person_137 rfl (nI_1 _) (by decide) (pm_c1b rfl) rfl ?_
                refine pm_goto (tgt := 121) hG dX12_person_140 rfl ?_
                refine pm_iloadi hG dX12_person_121 rfl ?_
                refine pm_bipush (v := nI 14) hG dX12_person_123 (by decide) ?_
                refine pm_icmpN_ge (tgt := 143) hG dX12_person_125 rfl (by omega) (by omega) (fun _ => ?_) (fun q => absurd q (by omega))
                refine pm_aloadn hG dX12_person_143 rfl ?_
                refine pm_iloadi hG dX12_person_144 rfl ?_
                refine pm_iconst (v := nI 0) hG dX12_person_146 (by decide) ?_
                refine pm_iloadn hG dX12_person_147 rfl ?_
                refine pm_top (v := nI k3) ek3 ?_
                refine pm_callV (As := [.int (nI kc2), .int (nI 0), .int (nI k3)]) (rest := []) hG hR dX12_person_148 (lkX12_97 _ rfl) okV_X12_sets rfl rfl (m_sets (d := 2) (e := 14 * kc2 + 110) (by omega) (by omega) (by omega)) rfl rfl hdd (Nat.le_refl _) (Nat.le_refl _) (by decide) (pm_kv (fun σ' cnt' hq => ?_))
                obtain ⟨rfl, rfl⟩ := hq
                obtain ⟨n_556, en_556⟩ : ∃ f : Nat → Int32, f = upd n_546 (14 * kc2 + 110) (nI k3) := ⟨_, rfl⟩
                rw [← en_556]
                have hnn_556 := KI.w en_556 hnn_546 (okv_f (show kd (14 * kc2 + 110) = (0, 0, false) from (kd_P (k := kc2) (c := 0) (by omega) (by omega) (by decide))))
                have hrn_556 := NRx.w en_556 hrn_546 (by rw [(show kd (14 * kc2 + 110) = (0, 0, false) from (kd_P (k := kc2) (c := 0) (by omega) (by omega) (by decide)))])
                have ksn_556 := KSh.w (h := 14 * kc2 + 110) en_556 ksn_546 (by unfold tS; omega)
                have e557 : n_556 0 = nI kc0 := by rw [en_556, pk_un (by omega)]; exact e547
                have e558 : n_556 7 = nI kc7 := by rw [en_556, pk_un (by omega)]; exact e548
                have e559 : n_556 8 = nI kc8 := by rw [en_556, pk_un (by omega)]; exact e549
                have e560 : n_556 2 = nI (kc2 + 1) := by rw [en_556, pk_un (by omega)]; exact e550
                have e561 : n_556 (14 * kc2 + 111) = nI 0 := by rw [en_556, pk_un (by omega)]; exact e552
                have e562 : n_556 (14 * kc2 + 119) = nI 0 := by rw [en_556, pk_un (by omega)]; exact e553
                have e563 : n_556 (14 * kc2 + 121) = nI 0 := by rw [en_556, pk_un (by omega)]; exact e554
                have e564 : n_556 (14 * kc2 + 110) = nI k3 := by rw [en_556, pk_us]
                refine pm_aloadn hG dX12_person_151 rfl ?_
                refine pm_iloadi hG dX12_person_152 rfl ?_
                refine pm_iconst (v := nI 1) hG dX12_person_154 (by decide) ?_
                refine pm_iloadn hG dX12_person_155 rfl ?_
                refine pm_callV (As := [.int (nI kc2), .int (nI 1), .int zb]) (rest := []) hG hR dX12_person_156 (lkX12_97 _ rfl) okV_X12_sets rfl rfl (m_sets (d := 2) (e := 14 * kc2 + 111) (by omega) (by omega) (by omega)) rfl rfl hdd (Nat.le_refl _) (Nat.le_refl _) (by decide) (pm_kv (fun σ' cnt' hq => ?_))
                obtain ⟨rfl, rfl⟩ := hq
                obtain ⟨n_565, en_565⟩ : ∃ f : Nat → Int32, f = upd n_556 (14 * kc2 + 111) zb := ⟨_, rfl⟩
                rw [← en_565]
                have hnn_565 := KI.w en_565 hnn_556 (okv_f (show kd (14 * kc2 + 111) = (0, 0, false) from (kd_P (k := kc2) (c := 1) (by omega) (by omega) (by decide))))
                have hrn_565 := NRx.w en_565 hrn_556 (by rw [(show kd (14 * kc2 + 111) = (0, 0, false) from (kd_P (k := kc2) (c := 1) (by omega) (by omega) (by decide)))])
                have ksn_565 := KSh.w (h := 14 * kc2 + 110) en_565 ksn_556 (by unfold tS; omega)
                have e566 : n_565 0 = nI kc0 := by rw [en_565, pk_un (by omega)]; exact e557
                have e567 : n_565 7 = nI kc7 := by rw [en_565, pk_un (by omega)]; exact e558
                have e568 : n_565 8 = nI kc8 := by rw [en_565, pk_un (by omega)]; exact e559
                have e569 : n_565 2 = nI (kc2 + 1) := by rw [en_565, pk_un (by omega)]; exact e560
                have e570 : n_565 (14 * kc2 + 119) = nI 0 := by rw [en_565, pk_un (by omega)]; exact e562
                have e571 : n_565 (14 * kc2 + 121) = nI 0 := by rw [en_565, pk_un (by omega)]; exact e563
                have e572 : n_565 (14 * kc2 + 110) = nI k3 := by rw [en_565, pk_un (by omega)]; exact e564
                have e573 : n_565 (14 * kc2 + 111) = zb := by rw [en_565, pk_us]
                refine pm_aloadn hG dX12_person_159 rfl ?_
                refine pm_iloadi hG dX12_person_160 rfl ?_
                refine pm_iconst (v := nI 2) hG dX12_person_162 (by decide) ?_
                refine pm_iloadn hG dX12_person_163 rfl ?_
                refine pm_top (v := nI k9) ek9 ?_
                refine pm_bipush (v := nI 100) hG dX12_person_164 (by decide) ?_
                refine pm_idivN hG dX12_person_166 (by omega) (by decide) (by decide) ?_
                refine pm_iconst (v := nI 1) hG dX12_person_167 (by decide) ?_
                refine pm_isub hG dX12_person_168 ?_
                refine pm_top (v := nI k11) ek11 ?_
                refine pm_callV (As := [.int (nI kc2), .int (nI 2), .int (nI k11)]) (rest := []) hG hR dX12_person_169 (lkX12_97 _ rfl) okV_X12_sets rfl rfl (m_sets (d := 2) (e := 14 * kc2 + 112) (by omega) (by omega) (by omega)) rfl rfl hdd (Nat.le_refl _) (Nat.le_refl _) (by decide) (pm_kv (fun σ' cnt' hq => ?_))
                obtain ⟨rfl, rfl⟩ := hq
                obtain ⟨n_574, en_574⟩ : ∃ f : Nat → Int32, f = upd n_565 (14 * kc2 + 112) (nI k11) := ⟨_, rfl⟩
                rw [← en_574]
                have hnn_574 := KI.w en_574 hnn_565 (okv_o (show kd (14 * kc2 + 112) = (2, 20, false) from (kd_P (k := kc2) (c := 2) (by omega) (by omega) (by decide))) (by omega))
                have hrn_574 := NRx.w en_574 hrn_565 (by rw [(show kd (14 * kc2 + 112) = (2, 20, false) from (kd_P (k := kc2) (c := 2) (by omega) (by omega) (by decide)))])
                have ksn_574 := KSh.w (h := 14 * kc2 + 110) en_574 ksn_565 (by unfold tS; omega)
                have e575 : n_574 0 = nI kc0 := by rw [en_574, pk_un (by omega)]; exact e566
                have e576 : n_574 7 = nI kc7 := by rw [en_574, pk_un (by omega)]; exact e567
                have e577 : n_574 8 = nI kc8 := by rw [en_574, pk_un (by omega)]; exact e568
                have e578 : n_574 2 = nI (kc2 + 1) := by rw [en_574, pk_un (by omega)]; exact e569
                have e579 : n_574 (14 * kc2 + 119) = nI 0 := by rw [en_574, pk_un (by omega)]; exact e570
                have e580 : n_574 (14 * kc2 + 121) = nI 0 := by rw [en_574, pk_un (by omega)]; exact e571
                have e581 : n_574 (14 * kc2 + 110) = nI k3 := by rw [en_574, pk_un (by omega)]; exact e572
                have e582 : n_574 (14 * kc2 + 111) = zb := by rw [en_574, pk_un (by omega)]; exact e573
                have e583 : n_574 (14 * kc2 + 112) = nI k11 := by rw [en_574, pk_us]
                refine pm_aloadn hG dX12_person_172 rfl ?_
                refine pm_iloadi hG dX12_person_173 rfl ?_
                refine pm_iconst (v := nI 3) hG dX12_person_175 (by decide) ?_
                refine pm_iloadn hG dX12_person_176 rfl ?_
                refine pm_top (v := nI k9) ek9 ?_
                refine pm_bipush (v := nI 100) hG dX12_person_177 (by decide) ?_
                refine pm_iremM hG dX12_person_179 (by omega) (by decide) (by decide) ?_
                refine pm_iconst (v := nI 1) hG dX12_person_180 (by decide) ?_
                refine pm_isub hG dX12_person_181 ?_
                refine pm_top (v := (-1)) ek429 ?_
                refine pm_callV (As := [.int (nI kc2), .int (nI 3), .int (-1)]) (rest := []) hG hR dX12_person_182 (lkX12_97 _ rfl) okV_X12_sets rfl rfl (m_sets (d := 2) (e := 14 * kc2 + 113) (by omega) (by omega) (by omega)) rfl rfl hdd (Nat.le_refl _) (Nat.le_refl _) (by decide) (pm_kv (fun σ' cnt' hq => ?_))
                obtain ⟨rfl, rfl⟩ := hq
                obtain ⟨n_584, en_584⟩ : ∃ f : Nat → Int32, f = upd n_574 (14 * kc2 + 113) (-1) := ⟨_, rfl⟩
                rw [← en_584]
                have hnn_584 := KI.w en_584 hnn_574 (okv_m (show kd (14 * kc2 + 113) = (2, 20, false) from (kd_P (k := kc2) (c := 3) (by omega) (by omega) (by decide))))
                have hrn_584 := NRx.w en_584 hrn_574 (by rw [(show kd (14 * kc2 + 113) = (2, 20, false) from (kd_P (k := kc2) (c := 3) (by omega) (by omega) (by decide)))])
                have ksn_584 := KSh.w (h := 14 * kc2 + 110) en_584 ksn_574 (by unfold tS; omega)
                have e585 : n_584 0 = nI kc0 := by rw [en_584, pk_un (by omega)]; exact e575
                have e586 : n_584 7 = nI kc7 := by rw [en_584, pk_un (by omega)]; exact e576
                have e587 : n_584 8 = nI kc8 := by rw [en_584, pk_un (by omega)]; exact e577
                have e588 : n_584 2 = nI (kc2 + 1) := by rw [en_584, pk_un (by omega)]; exact e578
                have e589 : n_584 (14 * kc2 + 119) = nI 0 := by rw [en_584, pk_un (by omega)]; exact e579
                have e590 : n_584 (14 * kc2 + 121) = nI 0 := by rw [en_584, pk_un (by omega)]; exact e580
                have e591 : n_584 (14 * kc2 + 110) = nI k3 := by rw [en_584, pk_un (by omega)]; exact e581
                have e592 : n_584 (14 * kc2 + 111) = zb := by rw [en_584, pk_un (by omega)]; exact e582
                have e593 : n_584 (14 * kc2 + 113) = (-1) := by rw [en_584, pk_us]
                refine pm_aloadn hG dX12_person_185 rfl ?_
                refine pm_iloadi hG dX12_person_186 rfl ?_
                refine pm_iconst (v := nI 4) hG dX12_person_188 (by decide) ?_
                refine pm_iloadi hG dX12_person_189 rfl ?_
                refine pm_top (v := nI k434) ek434 ?_
                refine pm_callV (As := [.int (nI kc2), .int (nI 4), .int (nI k434)]) (rest := []) hG hR dX12_person_191 (lkX12_97 _ rfl) okV_X12_sets rfl rfl (m_sets (d := 2) (e := 14 * kc2 + 114) (by omega) (by omega) (by omega)) rfl rfl hdd (Nat.le_refl _) (Nat.le_refl _) (by decide) (pm_kv (fun σ' cnt' hq => ?_))
                obtain ⟨rfl, rfl⟩ := hq
                obtain ⟨n_594, en_594⟩ : ∃ f : Nat → Int32, f = upd n_584 (14 * kc2 + 114) (nI k434) := ⟨_, rfl⟩
                rw [← en_594]
                have hnn_594 := KI.w en_594 hnn_584 (okv_o (show kd (14 * kc2 + 114) = (2, 10, false) from (kd_P (k := kc2) (c := 4) (by omega) (by omega) (by decide))) (by omega))
                have hrn_594 := NRx.w en_594 hrn_584 (by rw [(show kd (14 * kc2 + 114) = (2, 10, false) from (kd_P (k := kc2) (c := 4) (by omega) (by omega) (by decide)))])
                have ksn_594 := KSh.w (h := 14 * kc2 + 110) en_594 ksn_584 (by unfold tS; omega)
                have e595 : n_594 0 = nI kc0 := by rw [en_594, pk_un (by omega)]; exact e585
                have e596 : n_594 7 = nI kc7 := by rw [en_594, pk_un (by omega)]; exact e586
                have e597 : n_594 8 = nI kc8 := by rw [en_594, pk_un (by omega)]; exact e587
                have e598 : n_594 2 = nI (kc2 + 1) := by rw [en_594, pk_un (by omega)]; exact e588
                have e599 : n_594 (14 * kc2 + 119) = nI 0 := by rw [en_594, pk_un (by omega)]; exact e589
                have e600 : n_594 (14 * kc2 + 121) = nI 0 := by rw [en_594, pk_un (by omega)]; exact e590
                have e601 : n_594 (14 * kc2 + 110) = nI k3 := by rw [en_594, pk_un (by omega)]; exact e591
                have e602 : n_594 (14 * kc2 + 111) = zb := by rw [en_594, pk_un (by omega)]; exact e592
                have e603 : n_594 (14 * kc2 + 114) = nI k434 := by rw [en_594, pk_us]
                refine pm_aloadn hG dX12_person_194 rfl ?_
                refine pm_iloadi hG dX12_person_195 rfl ?_
                refine pm_bipush (v := nI 9) hG dX12_person_197 (by decide) ?_
                refine pm_iconst (v := (-1)) hG dX12_person_199 (by decide) ?_
                refine pm_callV (As := [.int (nI kc2), .int (nI 9), .int (-1)]) (rest := []) hG hR dX12_person_200 (lkX12_97 _ rfl) okV_X12_sets rfl rfl (m_sets (d := 2) (e := 14 * kc2 + 119) (by omega) (by omega) (by omega)) rfl rfl hdd (Nat.le_refl _) (Nat.le_refl _) (by decide) (pm_kv (fun σ' cnt' hq => ?_))
                obtain ⟨rfl, rfl⟩ := hq
                obtain ⟨n_604, en_604⟩ : ∃ f : Nat → Int32, f = upd n_594 (14 * kc2 + 119) (-1) := ⟨_, rfl⟩
                rw [← en_604]
                have hnn_604 := KI.w en_604 hnn_594 (okv_m (show kd (14 * kc2 + 119) = (2, 2001, false) from (kd_P (k := kc2) (c := 9) (by omega) (by omega) (by decide))))
                have hrn_604 := NRx.w en_604 hrn_594 (by rw [(show kd (14 * kc2 + 119) = (2, 2001, false) from (kd_P (k := kc2) (c := 9) (by omega) (by omega) (by decide)))])
                have ksn_604 := KSh.w (h := 14 * kc2 + 110) en_604 ksn_594 (by unfold tS; omega)
                have e605 : n_604 0 = nI kc0 := by rw [en_604, pk_un (by omega)]; exact e595
                have e606 : n_604 7 = nI kc7 := by rw [en_604, pk_un (by omega)]; exact e596
                have e607 : n_604 8 = nI kc8 := by rw [en_604, pk_un (by omega)]; exact e597
                have e608 : n_604 2 = nI (kc2 + 1) := by rw [en_604, pk_un (by omega)]; exact e598
                have e609 : n_604 (14 * kc2 + 121) = nI 0 := by rw [en_604, pk_un (by omega)]; exact e600
                have e610 : n_604 (14 * kc2 + 110) = nI k3 := by rw [en_604, pk_un (by omega)]; exact e601
                have e611 : n_604 (14 * kc2 + 111) = zb := by rw [en_604, pk_un (by omega)]; exact e602
                have e612 : n_604 (14 * kc2 + 119) = (-1) := by rw [en_604, pk_us]
                refine pm_aloadn hG dX12_person_203 rfl ?_
                refine pm_iloadi hG dX12_person_204 rfl ?_
                refine pm_bipush (v := nI 10) hG dX12_person_206 (by decide) ?_
                refine pm_iconst (v := (-1)) hG dX12_person_208 (by decide) ?_
                refine pm_callV (As := [.int (nI kc2), .int (nI 10), .int (-1)]) (rest := []) hG hR dX12_person_209 (lkX12_97 _ rfl) okV_X12_sets rfl rfl (m_sets (d := 2) (e := 14 * kc2 + 120) (by omega) (by omega) (by omega)) rfl rfl hdd (Nat.le_refl _) (Nat.le_refl _) (by decide) (pm_kv (fun σ' cnt' hq => ?_))
                obtain ⟨rfl, rfl⟩ := hq
                obtain ⟨n_613, en_613⟩ : ∃ f : Nat → Int32, f = upd n_604 (14 * kc2 + 120) (-1) := ⟨_, rfl⟩
                rw [← en_613]
                have hnn_613 := KI.w en_613 hnn_604 (okv_f (show kd (14 * kc2 + 120) = (0, 0, false) from (kd_P (k := kc2) (c := 10) (by omega) (by omega) (by decide))))
                have hrn_613 := NRx.w en_613 hrn_604 (by rw [(show kd (14 * kc2 + 120) = (0, 0, false) from (kd_P (k := kc2) (c := 10) (by omega) (by omega) (by decide)))])
                have ksn_613 := KSh.w (h := 14 * kc2 + 110) en_613 ksn_604 (by unfold tS; omega)
                have e614 : n_613 0 = nI kc0 := by rw [en_613, pk_un (by omega)]; exact e605
                have e615 : n_613 7 = nI kc7 := by rw [en_613, pk_un (by omega)]; exact e606
                have e616 : n_613 8 = nI kc8 := by rw [en_613, pk_un (by omega)]; exact e607
                have e617 : n_613 2 = nI (kc2 + 1) := by rw [en_613, pk_un (by omega)]; exact e608
                have e618 : n_613 (14 * kc2 + 121) = nI 0 := by rw [en_613, pk_un (by omega)]; exact e609
                have e619 : n_613 (14 * kc2 + 110) = nI k3 := by rw [en_613, pk_un (by omega)]; exact e610
                have e620 : n_613 (14 * kc2 + 111) = zb := by rw [en_613, pk_un (by omega)]; exact e611
                have e621 : n_613 (14 * kc2 + 119) = (-1) := by rw [en_613, pk_un (by omega)]; exact e612
                have e622 : n_613 (14 * kc2 + 120) = (-1) := by rw [en_613, pk_us]
                refine pm_aloadn hG dX12_person_212 rfl ?_
                refine pm_iloadi hG dX12_person_213 rfl ?_
                refine pm_bipush (v := nI 12) hG dX12_person_215 (by decide) ?_
                refine pm_iconst (v := nI 1) hG dX12_person_217 (by decide) ?_
                refine pm_callV (As := [.int (nI kc2), .int (nI 12), .int (nI 1)]) (rest := []) hG hR dX12_person_218 (lkX12_97 _ rfl) okV_X12_sets rfl rfl (m_sets (d := 2) (e := 14 * kc2 + 122) (by omega) (by omega) (by omega)) rfl rfl hdd (Nat.le_refl _) (Nat.le_refl _) (by decide) (pm_kv (fun σ' cnt' hq => ?_))
                obtain ⟨rfl, rfl⟩ := hq
                obtain ⟨n_623, en_623⟩ : ∃ f : Nat → Int32, f = upd n_613 (14 * kc2 + 122) (nI 1) := ⟨_, rfl⟩
                rw [← en_623]
                have hnn_623 := KI.w en_623 hnn_613 (okv_f (show kd (14 * kc2 + 122) = (0, 0, false) from (kd_P (k := kc2) (c := 12) (by omega) (by omega) (by decide))))
                have hrn_623 := NRx.w en_623 hrn_613 (by rw [(show kd (14 * kc2 + 122) = (0, 0, false) from (kd_P (k := kc2) (c := 12) (by omega) (by omega) (by decide)))])
                have ksn_623 := KSh.w (h := 14 * kc2 + 110) en_623 ksn_613 (by unfold tS; omega)
                have e624 : n_623 0 = nI kc0 := by rw [en_623, pk_un (by omega)]; exact e614
                have e625 : n_623 7 = nI kc7 := by rw [en_623, pk_un (by omega)]; exact e615
                have e626 : n_623 8 = nI kc8 := by rw [en_623, pk_un (by omega)]; exact e616
                have e627 : n_623 2 = nI (kc2 + 1) := by rw [en_623, pk_un (by omega)]; exact e617
                have e628 : n_623 (14 * kc2 + 121) = nI 0 := by rw [en_623, pk_un (by omega)]; exact e618
                have e629 : n_623 (14 * kc2 + 110) = nI k3 := by rw [en_623, pk_un (by omega)]; exact e619
                have e630 : n_623 (14 * kc2 + 111) = zb := by rw [en_623, pk_un (by omega)]; exact e620
                have e631 : n_623 (14 * kc2 + 119) = (-1) := by rw [en_623, pk_un (by omega)]; exact e621
                have e632 : n_623 (14 * kc2 + 122) = nI 1 := by rw [en_623, pk_us]
                refine pm_iloadi hG dX12_person_221 rfl ?_
                exact pm_iret hG hF dX12_person_223 rfl (Nat.le_refl _) (Nat.le_refl _) ⟨_, rfl, ⟨_, _, _, rfl, hnn_623, hrn_623, e624.trans ekc0.symm, e625.trans ekc7.symm, e626.trans ekc8.symm, ⟨(vE_y (T := pN n) (d := n 8) (t := n 0) (p := n 2) (a := za) (b := zb) (c := zc) (e := zd) (not6 (rg_in (a := 0) (b := 1) (by omega) ek3 (by omega) (by omega)) (fun q => q.elim ac5 (by rw [ekc8]; exact bc5)) (by rw [ek9]; exact nI_pos (by omega)) (nt_in ekc0 (by omega) ek434 (by omega)) (fun q => q (by rw [dv1 ek9 (by omega)]; exact pk11)) (fun q => q (by rw [rm1 ek9 (by omega)]; exact pk429))) ekc2 (by omega)).1, e627.trans (vE_y (T := pN n) (d := n 8) (t := n 0) (p := n 2) (a := za) (b := zb) (c := zc) (e := zd) (not6 (rg_in (a := 0) (b := 1) (by omega) ek3 (by omega) (by omega)) (fun q => q.elim ac5 (by rw [ekc8]; exact bc5)) (by rw [ek9]; exact nI_pos (by omega)) (nt_in ekc0 (by omega) ek434 (by omega)) (fun q => q (by rw [dv1 ek9 (by omega)]; exact pk11)) (fun q => q (by rw [rm1 ek9 (by omega)]; exact pk429))) ekc2 (by omega)).2.1, fun j hj => by rw [e627, nI_clamp (by omega)] at hj; rw [(vE_y (T := pN n) (d := n 8) (t := n 0) (p := n 2) (a := za) (b := zb) (c := zc) (e := zd) (not6 (rg_in (a := 0) (b := 1) (by omega) ek3 (by omega) (by omega)) (fun q => q.elim ac5 (by rw [ekc8]; exact bc5)) (by rw [ek9]; exact nI_pos (by omega)) (nt_in ekc0 (by omega) ek434 (by omega)) (fun q => q (by rw [dv1 ek9 (by omega)]; exact pk11)) (fun q => q (by rw [rm1 ek9 (by omega)]; exact pk429))) ekc2 (by omega)).2.2]; exact tP_ok ksn_623 (e629.trans ek3.symm) e630 e631 e628 (by omega) j hj⟩⟩, rfl⟩
              · refine pm_aloadn hG dX12_person_102 rfl ?_
                refine pm_iconst (v := nI 4) hG dX12_person_103 (by decide) ?_
                refine pm_callV (As := [.int (nI 4)]) (rest := []) hG hR dX12_person_104 (lkX12_80 _ rfl) okV_X12_finds rfl rfl (m_finds (d := 2) (by decide) hn hz (by omega)) rfl rfl hdd (Nat.le_refl _) (Nat.le_refl _) (by decide) (pm_ki (fun v633 σ' cnt' hq => ?_))
                obtain ⟨⟨I634, A634, rfl⟩, rfl, fv633⟩ := hq
                exact pm_iret hG hF dX12_person_107 rfl (Nat.le_refl _) (Nat.le_refl _) ⟨_, rfl, ⟨_, _, _, rfl, hn, hr, ekc0.trans ekc0.symm, ekc7.trans ekc7.symm, ekc8.trans ekc8.symm, ⟨fv633.trans ((by decide : (-1000000 : Int32) - nI 4 = -1000004).trans (vE_f (T := pN n) (d := n 8) (t := n 0) (p := n 2) (a := za) (b := zb) (c := zc) (e := zd) (not6 (rg_in (a := 0) (b := 1) (by omega) ek3 (by omega) (by omega)) (fun q => q.elim ac5 (by rw [ekc8]; exact bc5)) (by rw [ek9]; exact nI_pos (by omega)) (nt_in ekc0 (by omega) ek434 (by omega)) (fun q => q (by rw [dv1 ek9 (by omega)]; exact pk11)) (fun q => q (by rw [rm1 ek9 (by omega)]; exact pk429))) (ekc2.trans (congrArg nI (by omega)))).1), (vE_f (T := pN n) (d := n 8) (t := n 0) (p := n 2) (a := za) (b := zb) (c := zc) (e := zd) (not6 (rg_in (a := 0) (b := 1) (by omega) ek3 (by omega) (by omega)) (fun q => q.elim ac5 (by rw [ekc8]; exact bc5)) (by rw [ek9]; exact nI_pos (by omega)) (nt_in ekc0 (by omega) ek434 (by omega)) (fun q => q (by rw [dv1 ek9 (by omega)]; exact pk11)) (fun q => q (by rw [rm1 ek9 (by omega)]; exact pk429))) (ekc2.trans (congrArg nI (by omega)))).2.1, fun j _ => by rw [(vE_f (T := pN n) (d := n 8) (t := n 0) (p := n 2) (a := za) (b := zb) (c := zc) (e := zd) (not6 (rg_in (a := 0) (b := 1) (by omega) ek3 (by omega) (by omega)) (fun q => q.elim ac5 (by rw [ekc8]; exact bc5)) (by rw [ek9]; exact nI_pos (by omega)) (nt_in ekc0 (by omega) ek434 (by omega)) (fun q => q (by rw [dv1 ek9 (by omega)]; exact pk11)) (fun q => q (by rw [rm1 ek9 (by omega)]; exact pk429))) (ekc2.trans (congrArg nI (by omega)))).2.2]⟩⟩, rfl⟩
            · refine pm_ifN_eq (tgt := 73) hG dX12_person_66 rfl (by omega) (fun _ => ?_) (fun q => absurd q (by omega))
              refine pm_iconst (v := nI 0) hG dX12_person_73 (by decide) ?_
              refine pm_istoreXi (loc' := [some (.ref (B + 54)), some (.int za), some (.int zb), some (.int zc), some (.int zd), some (.int (nI 0)), none, none]) hG dX12_person_74 (by decide) (pm_c1b rfl) rfl ?_
              refine pm_iloadi hG dX12_person_76 rfl ?_
              refine pm_ifN_ne (tgt := 87) hG dX12_person_78 rfl (by omega) (fun q => absurd q (by omega)) (fun _ => ?_)
              refine pm_aloadn hG dX12_person_81 rfl ?_
              refine pm_iconst (v := nI 1) hG dX12_person_82 (by decide) ?_
              refine pm_callV (As := [.int (nI 1)]) (rest := []) hG hR dX12_person_83 (lkX12_80 _ rfl) okV_X12_finds rfl rfl (m_finds (d := 2) (by decide) hn hz (by omega)) rfl rfl hdd (Nat.le_refl _) (Nat.le_refl _) (by decide) (pm_ki (fun v635 σ' cnt' hq => ?_))
              obtain ⟨⟨I636, A636, rfl⟩, rfl, fv635⟩ := hq
              exact pm_iret hG hF dX12_person_86 rfl (Nat.le_refl _) (Nat.le_refl _) ⟨_, rfl, ⟨_, _, _, rfl, hn, hr, ekc0.trans ekc0.symm, ekc7.trans ekc7.symm, ekc8.trans ekc8.symm, ⟨fv635.trans ((by decide : (-1000000 : Int32) - nI 1 = -1000001).trans (vE_n (T := pN n) (d := n 8) (t := n 0) (p := n 2) (a := za) (b := zb) (c := zc) (e := zd) (Or.inr (Or.inr (Or.inr (Or.inl (nt_out ekc0 (by omega) ntk434)))))).1), (vE_n (T := pN n) (d := n 8) (t := n 0) (p := n 2) (a := za) (b := zb) (c := zc) (e := zd) (Or.inr (Or.inr (Or.inr (Or.inl (nt_out ekc0 (by omega) ntk434)))))).2.1, fun j _ => by rw [(vE_n (T := pN n) (d := n 8) (t := n 0) (p := n 2) (a := za) (b := zb) (c := zc) (e := zd) (Or.inr (Or.inr (Or.inr (Or.inl (nt_out ekc0 (by omega) ntk434)))))).2.2]⟩⟩, rfl⟩
          · refine pm_ifN_eq (tgt := 73) hG dX12_person_57 rfl (by omega) (fun q => absurd q (by omega)) (fun _ => ?_)
            refine pm_aloadn hG dX12_person_60 rfl ?_
            refine pm_iloadi hG dX12_person_61 rfl ?_
            refine pm_callV (As := [.int zd]) (rest := []) hG hR dX12_person_63 (lkX12_84 _ rfl) okV_X12_isTown rfl rfl (m_isTown (d := 2) (by decide) ekc0 (by omega)) rfl rfl hdd (Nat.le_refl _) (Nat.le_refl _) (by decide) (pm_ki (fun v637 σ' cnt' hq => ?_))
            obtain ⟨hq, rfl, rfl⟩ := hq
            rcases hq with ⟨rfl, k639, hk639, ek639⟩ | ⟨rfl, ntk639⟩
            · refine pm_ifN_eq (tgt := 73) hG dX12_person_66 rfl (by omega) (fun q => absurd q (by omega)) (fun _ => ?_)
              refine pm_iconst (v := nI 1) hG dX12_person_69 (by decide) ?_
              refine pm_goto (tgt := 74) hG dX12_person_70 rfl ?_
              refine pm_istoreXi (loc' := [some (.ref (B + 54)), some (.int za), some (.int zb), some (.int zc), some (.int zd), some (.int (nI 1)), none, none]) hG dX12_person_74 (by decide) (pm_c1b rfl) rfl ?_
              refine pm_iloadi hG dX12_person_76 rfl ?_
              refine pm_ifN_ne (tgt := 87) hG dX12_person_78 rfl (by omega) (fun _ => ?_) (fun q => absurd q (by omega))
              refine pm_aloadn hG dX12_person_87 rfl ?_
              refine pm_getf hG dX12_person_88 (flX12_7 _ rfl) rfl rfl ?_
              refine pm_iconst (v := nI 2) hG dX12_person_91 (by decide) ?_
              refine pm_ialdN hG dX12_person_92 rfl (by decide) (by omega) ?_
              refine pm_top (v := nI kc2) ekc2 ?_
              refine pm_istoreXi (loc' := [some (.ref (B + 54)), some (.int za), some (.int zb), some (.int zc), some (.int zd), some (.int (nI 1)), some (.int (nI kc2)), none]) hG dX12_person_93 (by decide) (pm_c1b rfl) rfl ?_
              refine pm_iloadi hG dX12_person_95 rfl ?_
              refine pm_bipush (v := nI 20) hG dX12_person_97 (by decide) ?_
              refine pm_icmpN_ne (tgt := 108) hG dX12_person_99 rfl (by omega) (by omega) (fun c640 => ?_) (fun c640 => ?_)
              · refine pm_aloadn hG dX12_person_108 rfl ?_
                refine pm_getf hG dX12_person_109 (flX12_7 _ rfl) rfl rfl ?_
                refine pm_iconst (v := nI 2) hG dX12_person_112 (by decide) ?_
                refine pm_dup2 hG dX12_person_113 rfl rfl ?_
                refine pm_ialdN hG dX12_person_114 rfl (by decide) (by omega) ?_
                refine pm_top (v := nI kc2) ekc2 ?_
                refine pm_iconst (v := nI 1) hG dX12_person_115 (by decide) ?_
                refine pm_iaddN (c := kc2 + 1) hG dX12_person_116 (by omega) ?_
                refine pm_iastN hG dX12_person_117 rfl (by decide) (by omega) ?_
                refine mdn_now (fun n_641 en_641 => ?_)
                have hnn_641 := KI.w en_641 hn (okv_n (show kd 2 = (1, 21, true) by decide) (by omega))
                have hrn_641 := NRx.pers en_641 hr ekc0 (by omega) ekc2 (by omega)
                have ksn_641 := KSh.w (h := 14 * kc2 + 110) en_641 KSh.rf (by unfold tS; omega)
                have e642 : n_641 0 = nI kc0 := by rw [en_641, pk_un (by omega)]; exact ekc0
                have e643 : n_641 7 = nI kc7 := by rw [en_641, pk_un (by omega)]; exact ekc7
                have e644 : n_641 8 = nI kc8 := by rw [en_641, pk_un (by omega)]; exact ekc8
                have e645 : n_641 2 = nI (kc2 + 1) := by rw [en_641, pk_us]
                refine pm_iconst (v := nI 0) hG dX12_person_118 (by decide) ?_
                refine pm_istoreXi (loc' := [some (.ref (B + 54)), some (.int za), some (.int zb), some (.int zc), some (.int zd), some (.int (nI 1)), some (.int (nI kc2)), some (.int (nI 0))]) hG dX12_person_119 (by decide) (pm_c1b rfl) rfl ?_
                refine pm_iloadi hG dX12_person_121 rfl ?_
                refine pm_bipush (v := nI 14) hG dX12_person_123 (by decide) ?_
                refine pm_icmpN_ge (tgt := 143) hG dX12_person_125 rfl (by omega) (by omega) (fun q => absurd q (by omega)) (fun _ => ?_)
                refine pm_aloadn hG dX12_person_128 rfl ?_
                refine pm_iloadi hG dX12_person_129 rfl ?_
                refine pm_iloadi hG dX12_person_131 rfl ?_
                refine pm_iconst (v := nI 0) hG dX12_person_133 (by decide) ?_
                refine pm_callV (As := [.int (nI kc2), .int (nI 0), .int (nI 0)]) (rest := []) hG hR dX12_person_134 (lkX12_97 _ rfl) okV_X12_sets rfl rfl (m_sets (d := 2) (e := 14 * kc2 + 110) (by omega) (by omega) (by omega)) rfl rfl hdd (Nat.le_refl _) (Nat.le_refl _) (by decide) (pm_kv (fun σ' cnt' hq => ?_))
                obtain ⟨rfl, rfl⟩ := hq
                obtain ⟨n_646, en_646⟩ : ∃ f : Nat → Int32, f = upd n_641 (14 * kc2 + 110) (nI 0) := ⟨_, rfl⟩
                rw [← en_646]
                have hnn_646 := KI.w en_646 hnn_641 (okv_f (show kd (14 * kc2 + 110) = (0, 0, false) from (kd_P (k := kc2) (c := 0) (by omega) (by omega) (by decide))))
                have hrn_646 := NRx.w en_646 hrn_641 (by rw [(show kd (14 * kc2 + 110) = (0, 0, false) from (kd_P (k := kc2) (c := 0) (by omega) (by omega) (by decide)))])
                have ksn_646 := KSh.w (h := 14 * kc2 + 110) en_646 ksn_641 (by unfold tS; omega)
                have e647 : n_646 0 = nI kc0 := by rw [en_646, pk_un (by omega)]; exact e642
                have e648 : n_646 7 = nI kc7 := by rw [en_646, pk_un (by omega)]; exact e643
                have e649 : n_646 8 = nI kc8 := by rw [en_646, pk_un (by omega)]; exact e644
                have e650 : n_646 2 = nI (kc2 + 1) := by rw [en_646, pk_un (by omega)]; exact e645
                have e651 : n_646 (14 * kc2 + 110) = nI 0 := by rw [en_646, pk_us]
                refine pm_iincX (v := nI 1) (loc' := [some (.ref (B + 54)), some (.int za), some (.int zb), some (.int zc), some (.int zd), some (.int (nI 1)), some (.int (nI kc2)), some (.int (nI 1))]) hG dX12_person_137 rfl (nI_1 _) (by decide) (pm_c1b rfl) rfl ?_
                refine pm_goto (tgt := 121) hG dX12_person_140 rfl ?_
                refine pm_iloadi hG dX12_person_121 rfl ?_
                refine pm_bipush (v := nI 14) hG dX12_person_123 (by decide) ?_
                refine pm_icmpN_ge (tgt := 143) hG dX12_person_125 rfl (by omega) (by omega) (fun q => absurd q (by omega)) (fun _ => ?_)
                refine pm_aloadn hG dX12_person_128 rfl ?_
                refine pm_iloadi hG dX12_person_129 rfl ?_
                refine pm_iloadi hG dX12_person_131 rfl ?_
                refine pm_iconst (v := nI 0) hG dX12_person_133 (by decide) ?_
                refine pm_callV (As := [.int (nI kc2), .int (nI 1), .int (nI 0)]) (rest := []) hG hR dX12_person_134 (lkX12_97 _ rfl) okV_X12_sets rfl rfl (m_sets (d := 2) (e := 14 * kc2 + 111) (by omega) (by omega) (by omega)) rfl rfl hdd (Nat.le_refl _) (Nat.le_refl _) (by decide) (pm_kv (fun σ' cnt' hq => ?_))
                obtain ⟨rfl, rfl⟩ := hq
                obtain ⟨n_652, en_652⟩ : ∃ f : Nat → Int32, f = upd n_646 (14 * kc2 + 111) (nI 0) := ⟨_, rfl⟩
                rw [← en_652]
                have hnn_652 := KI.w en_652 hnn_646 (okv_f (show kd (14 * kc2 + 111) = (0, 0, false) from (kd_P (k := kc2) (c := 1) (by omega) (by omega) (by decide))))
                have hrn_652 := NRx.w en_652 hrn_646 (by rw [(show kd (14 * kc2 + 111) = (0, 0, false) from (kd_P (k := kc2) (c := 1) (by omega) (by omega) (by decide)))])
                have ksn_652 := KSh.w (h := 14 * kc2 + 110) en_652 ksn_646 (by unfold tS; omega)
                have e653 : n_652 0 = nI kc0 := by rw [en_652, pk_un (by omega)]; exact e647
                have e654 : n_652 7 = nI kc7 := by rw [en_652, pk_un (by omega)]; exact e648
                have e655 : n_652 8 = nI kc8 := by rw [en_652, pk_un (by omega)]; exact e649
                have e656 : n_652 2 = nI (kc2 + 1) := by rw [en_652, pk_un (by omega)]; exact e650
                have e657 : n_652 (14 * kc2 + 110) = nI 0 := by rw [en_652, pk_un (by omega)]; exact e651
                have e658 : n_652 (14 * kc2 + 111) = nI 0 := by rw [en_652, pk_us]
                refine pm_iincX (v := nI 2) (loc' := [some (.ref (B + 54)), some (.int za), some (.int zb), some (.int zc), some (.int zd), some (.int (nI 1)), some (.int (nI kc2)), some (.int (nI 2))]) hG dX12_person_137 rfl (nI_1 _) (by decide) (pm_c1b rfl) rfl ?_
                refine pm_goto (tgt := 121) hG dX12_person_140 rfl ?_
                refine pm_iloadi hG dX12_person_121 rfl ?_
                refine pm_bipush (v := nI 14) hG dX12_person_123 (by decide) ?_
                refine pm_icmpN_ge (tgt := 143) hG dX12_person_125 rfl (by omega) (by omega) (fun q => absurd q (by omega)) (fun _ => ?_)
                refine pm_aloadn hG dX12_person_128 rfl ?_
                refine pm_iloadi hG dX12_person_129 rfl ?_
                refine pm_iloadi hG dX12_person_131 rfl ?_
                refine pm_iconst (v := nI 0) hG dX12_person_133 (by decide) ?_
                refine pm_callV (As := [.int (nI kc2), .int (nI 2), .int (nI 0)]) (rest := []) hG hR dX12_person_134 (lkX12_97 _ rfl) okV_X12_sets rfl rfl (m_sets (d := 2) (e := 14 * kc2 + 112) (by omega) (by omega) (by omega)) rfl rfl hdd (Nat.le_refl _) (Nat.le_refl _) (by decide) (pm_kv (fun σ' cnt' hq => ?_))
                obtain ⟨rfl, rfl⟩ := hq
                obtain ⟨n_659, en_659⟩ : ∃ f : Nat → Int32, f = upd n_652 (14 * kc2 + 112) (nI 0) := ⟨_, rfl⟩
                rw [← en_659]
                have hnn_659 := KI.w en_659 hnn_652 (okv_o (show kd (14 * kc2 + 112) = (2, 20, false) from (kd_P (k := kc2) (c := 2) (by omega) (by omega) (by decide))) (by omega))
                have hrn_659 := NRx.w en_659 hrn_652 (by rw [(show kd (14 * kc2 + 112) = (2, 20, false) from (kd_P (k := kc2) (c := 2) (by omega) (by omega) (by decide)))])
                have ksn_659 := KSh.w (h := 14 * kc2 + 110) en_659 ksn_652 (by unfold tS; omega)
                have e660 : n_659 0 = nI kc0 := by rw [en_659, pk_un (by omega)]; exact e653
                have e661 : n_659 7 = nI kc7 := by rw [en_659, pk_un (by omega)]; exact e654
                have e662 : n_659 8 = nI kc8 := by rw [en_659, pk_un (by omega)]; exact e655
                have e663 : n_659 2 = nI (kc2 + 1) := by rw [en_659, pk_un (by omega)]; exact e656
                have e664 : n_659 (14 * kc2 + 110) = nI 0 := by rw [en_659, pk_un (by omega)]; exact e657
                have e665 : n_659 (14 * kc2 + 111) = nI 0 := by rw [en_659, pk_un (by omega)]; exact e658
                have e666 : n_659 (14 * kc2 + 112) = nI 0 := by rw [en_659, pk_us]
                refine pm_iincX (v := nI 3) (loc' := [some (.ref (B + 54)), some (.int za), some (.int zb), some (.int zc), some (.int zd), some (.int (nI 1)), some (.int (nI kc2)), some (.int (nI 3))]) hG dX12_person_137 rfl (nI_1 _) (by decide) (pm_c1b rfl) rfl ?_
                refine pm_goto (tgt := 121) hG dX12_person_140 rfl ?_
                refine pm_iloadi hG dX12_person_121 rfl ?_
                refine pm_bipush (v := nI 14) hG dX12_person_123 (by decide) ?_
                refine pm_icmpN_ge (tgt := 143) hG dX12_person_125 rfl (by omega) (by omega) (fun q => absurd q (by omega)) (fun _ => ?_)
                refine pm_aloadn hG dX12_person_128 rfl ?_
                refine pm_iloadi hG dX12_person_129 rfl ?_
                refine pm_iloadi hG dX12_person_131 rfl ?_
                refine pm_iconst (v := nI 0) hG dX12_person_133 (by decide) ?_
                refine pm_callV (As := [.int (nI kc2), .int (nI 3), .int (nI 0)]) (rest := []) hG hR dX12_person_134 (lkX12_97 _ rfl) okV_X12_sets rfl rfl (m_sets (d := 2) (e := 14 * kc2 + 113) (by omega) (by omega) (by omega)) rfl rfl hdd (Nat.le_refl _) (Nat.le_refl _) (by decide) (pm_kv (fun σ' cnt' hq => ?_))
                obtain ⟨rfl, rfl⟩ := hq
                obtain ⟨n_667, en_667⟩ : ∃ f : Nat → Int32, f = upd n_659 (14 * kc2 + 113) (nI 0) := ⟨_, rfl⟩
                rw [← en_667]
                have hnn_667 := KI.w en_667 hnn_659 (okv_o (show kd (14 * kc2 + 113) = (2, 20, false) from (kd_P (k := kc2) (c := 3) (by omega) (by omega) (by decide))) (by omega))
                have hrn_667 := NRx.w en_667 hrn_659 (by rw [(show kd (14 * kc2 + 113) = (2, 20, false) from (kd_P (k := kc2) (c := 3) (by omega) (by omega) (by decide)))])
                have ksn_667 := KSh.w (h := 14 * kc2 + 110) en_667 ksn_659 (by unfold tS; omega)
                have e668 : n_667 0 = nI kc0 := by rw [en_667, pk_un (by omega)]; exact e660
                have e669 : n_667 7 = nI kc7 := by rw [en_667, pk_un (by omega)]; exact e661
                have e670 : n_667 8 = nI kc8 := by rw [en_667, pk_un (by omega)]; exact e662
                have e671 : n_667 2 = nI (kc2 + 1) := by rw [en_667, pk_un (by omega)]; exact e663
                have e672 : n_667 (14 * kc2 + 110) = nI 0 := by rw [en_667, pk_un (by omega)]; exact e664
                have e673 : n_667 (14 * kc2 + 111) = nI 0 := by rw [en_667, pk_un (by omega)]; exact e665
                have e674 : n_667 (14 * kc2 + 113) = nI 0 := by rw [en_667, pk_us]
                refine pm_iincX (v := nI 4) (loc' := [some (.ref (B + 54)), some (.int za), some (.int zb), some (.int zc), some (.int zd), some (.int (nI 1)), some (.int (nI kc2)), some (.int (nI 4))]) hG dX12_person_137 rfl (nI_1 _) (by decide) (pm_c1b rfl) rfl ?_
                refine pm_goto (tgt := 121) hG dX12_person_140 rfl ?_
                refine pm_iloadi hG dX12_person_121 rfl ?_
                refine pm_bipush (v := nI 14) hG dX12_person_123 (by decide) ?_
                refine pm_icmpN_ge (tgt := 143) hG dX12_person_125 rfl (by omega) (by omega) (fun q => absurd q (by omega)) (fun _ => ?_)
                refine pm_aloadn hG dX12_person_128 rfl ?_
                refine pm_iloadi hG dX12_person_129 rfl ?_
                refine pm_iloadi hG dX12_person_131 rfl ?_
                refine pm_iconst (v := nI 0) hG dX12_person_133 (by decide) ?_
                refine pm_callV (As := [.int (nI kc2), .int (nI 4), .int (nI 0)]) (rest := []) hG hR dX12_person_134 (lkX12_97 _ rfl) okV_X12_sets rfl rfl (m_sets (d := 2) (e := 14 * kc2 + 114) (by omega) (by omega) (by omega)) rfl rfl hdd (Nat.le_refl _) (Nat.le_refl _) (by decide) (pm_kv (fun σ' cnt' hq => ?_))
                obtain ⟨rfl, rfl⟩ := hq
                obtain ⟨n_675, en_675⟩ : ∃ f : Nat → Int32, f = upd n_667 (14 * kc2 + 114) (nI 0) := ⟨_, rfl⟩
                rw [← en_675]
                have hnn_675 := KI.w en_675 hnn_667 (okv_o (show kd (14 * kc2 + 114) = (2, 10, false) from (kd_P (k := kc2) (c := 4) (by omega) (by omega) (by decide))) (by omega))
                have hrn_675 := NRx.w en_675 hrn_667 (by rw [(show kd (14 * kc2 + 114) = (2, 10, false) from (kd_P (k := kc2) (c := 4) (by omega) (by omega) (by decide)))])
                have ksn_675 := KSh.w (h := 14 * kc2 + 110) en_675 ksn_667 (by unfold tS; omega)
                have e676 : n_675 0 = nI kc0 := by rw [en_675, pk_un (by omega)]; exact e668
                have e677 : n_675 7 = nI kc7 := by rw [en_675, pk_un (by omega)]; exact e669
                have e678 : n_675 8 = nI kc8 := by rw [en_675, pk_un (by omega)]; exact e670
                have e679 : n_675 2 = nI (kc2 + 1) := by rw [en_675, pk_un (by omega)]; exact e671
                have e680 : n_675 (14 * kc2 + 110) = nI 0 := by rw [en_675, pk_un (by omega)]; exact e672
                have e681 : n_675 (14 * kc2 + 111) = nI 0 := by rw [en_675, pk_un (by omega)]; exact e673
                have e682 : n_675 (14 * kc2 + 114) = nI 0 := by rw [en_675, pk_us]
                refine pm_iincX (v := nI 5) (loc' := [some (.ref (B + 54)), some (.int za), some (.int zb), some (.int zc), some (.int zd), some (.int (nI 1)), some (.int (nI kc2)), some (.int (nI 5))]) hG dX12_person_137 rfl (nI_1 _) (by decide) (pm_c1b rfl) rfl ?_
                refine pm_goto (tgt := 121) hG dX12_person_140 rfl ?_
                refine pm_iloadi hG dX12_person_121 rfl ?_
                refine pm_bipush (v := nI 14) hG dX12_person_123 (by decide) ?_
                refine pm_icmpN_ge (tgt := 143) hG dX12_person_125 rfl (by omega) (by omega) (fun q => absurd q (by omega)) (fun _ => ?_)
                refine pm_aloadn hG dX12_person_128 rfl ?_
                refine pm_iloadi hG dX12_person_129 rfl ?_
                refine pm_iloadi hG dX12_person_131 rfl ?_
                refine pm_iconst (v := nI 0) hG dX12_person_133 (by decide) ?_
                refine pm_callV (As := [.int (nI kc2), .int (nI 5), .int (nI 0)]) (rest := []) hG hR dX12_person_134 (lkX12_97 _ rfl) okV_X12_sets rfl rfl (m_sets (d := 2) (e := 14 * kc2 + 115) (by omega) (by omega) (by omega)) rfl rfl hdd (Nat.le_refl _) (Nat.le_refl _) (by decide) (pm_kv (fun σ' cnt' hq => ?_))
                obtain ⟨rfl, rfl⟩ := hq
                obtain ⟨n_683, en_683⟩ : ∃ f : Nat → Int32, f = upd n_675 (14 * kc2 + 115) (nI 0) := ⟨_, rfl⟩
                rw [← en_683]
                have hnn_683 := KI.w en_683 hnn_675 (okv_n (show kd (14 * kc2 + 115) = (1, 10, false) from (kd_P (k := kc2) (c := 5) (by omega) (by omega) (by decide))) (by omega))
                have hrn_683 := NRx.w en_683 hrn_675 (by rw [(show kd (14 * kc2 + 115) = (1, 10, false) from (kd_P (k := kc2) (c := 5) (by omega) (by omega) (by decide)))])
                have ksn_683 := KSh.w (h := 14 * kc2 + 110) en_683 ksn_675 (by unfold tS; omega)
                have e684 : n_683 0 = nI kc0 := by rw [en_683, pk_un (by omega)]; exact e676
                have e685 : n_683 7 = nI kc7 := by rw [en_683, pk_un (by omega)]; exact e677
                have e686 : n_683 8 = nI kc8 := by rw [en_683, pk_un (by omega)]; exact e678
                have e687 : n_683 2 = nI (kc2 + 1) := by rw [en_683, pk_un (by omega)]; exact e679
                have e688 : n_683 (14 * kc2 + 110) = nI 0 := by rw [en_683, pk_un (by omega)]; exact e680
                have e689 : n_683 (14 * kc2 + 111) = nI 0 := by rw [en_683, pk_un (by omega)]; exact e681
                have e690 : n_683 (14 * kc2 + 115) = nI 0 := by rw [en_683, pk_us]
                refine pm_iincX (v := nI 6) (loc' := [some (.ref (B + 54)), some (.int za), some (.int zb), some (.int zc), some (.int zd), some (.int (nI 1)), some (.int (nI kc2)), some (.int (nI 6))]) hG dX12_person_137 rfl (nI_1 _) (by decide) (pm_c1b rfl) rfl ?_
                refine pm_goto (tgt := 121) hG dX12_person_140 rfl ?_
                refine pm_iloadi hG dX12_person_121 rfl ?_
                refine pm_bipush (v := nI 14) hG dX12_person_123 (by decide) ?_
                refine pm_icmpN_ge (tgt := 143) hG dX12_person_125 rfl (by omega) (by omega) (fun q => absurd q (by omega)) (fun _ => ?_)
                refine pm_aloadn hG dX12_person_128 rfl ?_
                refine pm_iloadi hG dX12_person_129 rfl ?_
                refine pm_iloadi hG dX12_person_131 rfl ?_
                refine pm_iconst (v := nI 0) hG dX12_person_133 (by decide) ?_
                refine pm_callV (As := [.int (nI kc2), .int (nI 6), .int (nI 0)]) (rest := []) hG hR dX12_person_134 (lkX12_97 _ rfl) okV_X12_sets rfl rfl (m_sets (d := 2) (e := 14 * kc2 + 116) (by omega) (by omega) (by omega)) rfl rfl hdd (Nat.le_refl _) (Nat.le_refl _) (by decide) (pm_kv (fun σ' cnt' hq => ?_))
                obtain ⟨rfl, rfl⟩ := hq
                obtain ⟨n_691, en_691⟩ : ∃ f : Nat → Int32, f = upd n_683 (14 * kc2 + 116) (nI 0) := ⟨_, rfl⟩
                rw [← en_691]
                have hnn_691 := KI.w en_691 hnn_683 (okv_f (show kd (14 * kc2 + 116) = (0, 0, false) from (kd_P (k := kc2) (c := 6) (by omega) (by omega) (by decide))))
                have hrn_691 := NRx.w en_691 hrn_683 (by rw [(show kd (14 * kc2 + 116) = (0, 0, false) from (kd_P (k := kc2) (c := 6) (by omega) (by omega) (by decide)))])
                have ksn_691 := KSh.w (h := 14 * kc2 + 110) en_691 ksn_683 (by unfold tS; omega)
                have e692 : n_691 0 = nI kc0 := by rw [en_691, pk_un (by omega)]; exact e684
                have e693 : n_691 7 = nI kc7 := by rw [en_691, pk_un (by omega)]; exact e685
                have e694 : n_691 8 = nI kc8 := by rw [en_691, pk_un (by omega)]; exact e686
                have e695 : n_691 2 = nI (kc2 + 1) := by rw [en_691, pk_un (by omega)]; exact e687
                have e696 : n_691 (14 * kc2 + 110) = nI 0 := by rw [en_691, pk_un (by omega)]; exact e688
                have e697 : n_691 (14 * kc2 + 111) = nI 0 := by rw [en_691, pk_un (by omega)]; exact e689
                have e698 : n_691 (14 * kc2 + 116) = nI 0 := by rw [en_691, pk_us]
                refine pm_iincX (v := nI 7) (loc' := [some (.ref (B + 54)), some (.int za), some (.int zb), some (.int zc), some (.int zd), some (.int (nI 1)), some (.int (nI kc2)), some (.int (nI 7))]) hG dX12_person_137 rfl (nI_1 _) (by decide) (pm_c1b rfl) rfl ?_
                refine pm_goto (tgt := 121) hG dX12_person_140 rfl ?_
                refine pm_iloadi hG dX12_person_121 rfl ?_
                refine pm_bipush (v := nI 14) hG dX12_person_123 (by decide) ?_
                refine pm_icmpN_ge (tgt := 143) hG dX12_person_125 rfl (by omega) (by omega) (fun q => absurd q (by omega)) (fun _ => ?_)
                refine pm_aloadn hG dX12_person_128 rfl ?_
                refine pm_iloadi hG dX12_person_129 rfl ?_
                refine pm_iloadi hG dX12_person_131 rfl ?_
                refine pm_iconst (v := nI 0) hG dX12_person_133 (by decide) ?_
                refine pm_callV (As := [.int (nI kc2), .int (nI 7), .int (nI 0)]) (rest := []) hG hR dX12_person_134 (lkX12_97 _ rfl) okV_X12_sets rfl rfl (m_sets (d := 2) (e := 14 * kc2 + 117) (by omega) (by omega) (by omega)) rfl rfl hdd (Nat.le_refl _) (Nat.le_refl _) (by decide) (pm_kv (fun σ' cnt' hq => ?_))
                obtain ⟨rfl, rfl⟩ := hq
                obtain ⟨n_699, en_699⟩ : ∃ f : Nat → Int32, f = upd n_691 (14 * kc2 + 117) (nI 0) := ⟨_, rfl⟩
                rw [← en_699]
                have hnn_699 := KI.w en_699 hnn_691 (okv_f (show kd (14 * kc2 + 117) = (0, 0, false) from (kd_P (k := kc2) (c := 7) (by omega) (by omega) (by decide))))
                have hrn_699 := NRx.w en_699 hrn_691 (by rw [(show kd (14 * kc2 + 117) = (0, 0, false) from (kd_P (k := kc2) (c := 7) (by omega) (by omega) (by decide)))])
                have ksn_699 := KSh.w (h := 14 * kc2 + 110) en_699 ksn_691 (by unfold tS; omega)
                have e700 : n_699 0 = nI kc0 := by rw [en_699, pk_un (by omega)]; exact e692
                have e701 : n_699 7 = nI kc7 := by rw [en_699, pk_un (by omega)]; exact e693
                have e702 : n_699 8 = nI kc8 := by rw [en_699, pk_un (by omega)]; exact e694
                have e703 : n_699 2 = nI (kc2 + 1) := by rw [en_699, pk_un (by omega)]; exact e695
                have e704 : n_699 (14 * kc2 + 110) = nI 0 := by rw [en_699, pk_un (by omega)]; exact e696
                have e705 : n_699 (14 * kc2 + 111) = nI 0 := by rw [en_699, pk_un (by omega)]; exact e697
                have e706 : n_699 (14 * kc2 + 117) = nI 0 := by rw [en_699, pk_us]
                refine pm_iincX (v := nI 8) (loc' := [some (.ref (B + 54)), some (.int za), some (.int zb), some (.int zc), some (.int zd), some (.int (nI 1)), some (.int (nI kc2)), some (.int (nI 8))]) hG dX12_person_137 rfl (nI_1 _) (by decide) (pm_c1b rfl) rfl ?_
                refine pm_goto (tgt := 121) hG dX12_person_140 rfl ?_
                refine pm_iloadi hG dX12_person_121 rfl ?_
                refine pm_bipush (v := nI 14) hG dX12_person_123 (by decide) ?_
                refine pm_icmpN_ge (tgt := 143) hG dX12_person_125 rfl (by omega) (by omega) (fun q => absurd q (by omega)) (fun _ => ?_)
                refine pm_aloadn hG dX12_person_128 rfl ?_
                refine pm_iloadi hG dX12_person_129 rfl ?_
                refine pm_iloadi hG dX12_person_131 rfl ?_
                refine pm_iconst (v := nI 0) hG dX12_person_133 (by decide) ?_
                refine pm_callV (As := [.int (nI kc2), .int (nI 8), .int (nI 0)]) (rest := []) hG hR dX12_person_134 (lkX12_97 _ rfl) okV_X12_sets rfl rfl (m_sets (d := 2) (e := 14 * kc2 + 118) (by omega) (by omega) (by omega)) rfl rfl hdd (Nat.le_refl _) (Nat.le_refl _) (by decide) (pm_kv (fun σ' cnt' hq => ?_))
                obtain ⟨rfl, rfl⟩ := hq
                obtain ⟨n_707, en_707⟩ : ∃ f : Nat → Int32, f = upd n_699 (14 * kc2 + 118) (nI 0) := ⟨_, rfl⟩
                rw [← en_707]
                have hnn_707 := KI.w en_707 hnn_699 (okv_f (show kd (14 * kc2 + 118) = (0, 0, false) from (kd_P (k := kc2) (c := 8) (by omega) (by omega) (by decide))))
                have hrn_707 := NRx.w en_707 hrn_699 (by rw [(show kd (14 * kc2 + 118) = (0, 0, false) from (kd_P (k := kc2) (c := 8) (by omega) (by omega) (by decide)))])
                have ksn_707 := KSh.w (h := 14 * kc2 + 110) en_707 ksn_699 (by unfold tS; omega)
                have e708 : n_707 0 = nI kc0 := by rw [en_707, pk_un (by omega)]; exact e700
                have e709 : n_707 7 = nI kc7 := by rw [en_707, pk_un (by omega)]; exact e701
                have e710 : n_707 8 = nI kc8 := by rw [en_707, pk_un (by omega)]; exact e702
                have e711 : n_707 2 = nI (kc2 + 1) := by rw [en_707, pk_un (by omega)]; exact e703
                have e712 : n_707 (14 * kc2 + 110) = nI 0 := by rw [en_707, pk_un (by omega)]; exact e704
                have e713 : n_707 (14 * kc2 + 111) = nI 0 := by rw [en_707, pk_un (by omega)]; exact e705
                have e714 : n_707 (14 * kc2 + 118) = nI 0 := by rw [en_707, pk_us]
                refine pm_iincX (v := nI 9) (loc' := [some (.ref (B + 54)), some (.int za), some (.int zb), some (.int zc), some (.int zd), some (.int (nI 1)), some (.int (nI kc2)), some (.int (nI 9))]) hG dX12_person_137 rfl (nI_1 _) (by decide) (pm_c1b rfl) rfl ?_
                refine pm_goto (tgt := 121) hG dX12_person_140 rfl ?_
                refine pm_iloadi hG dX12_person_121 rfl ?_
                refine pm_bipush (v := nI 14) hG dX12_person_123 (by decide) ?_
                refine pm_icmpN_ge (tgt := 143) hG dX12_person_125 rfl (by omega) (by omega) (fun q => absurd q (by omega)) (fun _ => ?_)
                refine pm_aloadn hG dX12_person_128 rfl ?_
                refine pm_iloadi hG dX12_person_129 rfl ?_
                refine pm_iloadi hG dX12_person_131 rfl ?_
                refine pm_iconst (v := nI 0) hG dX12_person_133 (by decide) ?_
                refine pm_callV (As := [.int (nI kc2), .int (nI 9), .int (nI 0)]) (rest := []) hG hR dX12_person_134 (lkX12_97 _ rfl) okV_X12_sets rfl rfl (m_sets (d := 2) (e := 14 * kc2 + 119) (by omega) (by omega) (by omega)) rfl rfl hdd (Nat.le_refl _) (Nat.le_refl _) (by decide) (pm_kv (fun σ' cnt' hq => ?_))
                obtain ⟨rfl, rfl⟩ := hq
                obtain ⟨n_715, en_715⟩ : ∃ f : Nat → Int32, f = upd n_707 (14 * kc2 + 119) (nI 0) := ⟨_, rfl⟩
                rw [← en_715]
                have hnn_715 := KI.w en_715 hnn_707 (okv_o (show kd (14 * kc2 + 119) = (2, 2001, false) from (kd_P (k := kc2) (c := 9) (by omega) (by omega) (by decide))) (by omega))
                have hrn_715 := NRx.w en_715 hrn_707 (by rw [(show kd (14 * kc2 + 119) = (2, 2001, false) from (kd_P (k := kc2) (c := 9) (by omega) (by omega) (by decide)))])
                have ksn_715 := KSh.w (h := 14 * kc2 + 110) en_715 ksn_707 (by unfold tS; omega)
                have e716 : n_715 0 = nI kc0 := by rw [en_715, pk_un (by omega)]; exact e708
                have e717 : n_715 7 = nI kc7 := by rw [en_715, pk_un (by omega)]; exact e709
                have e718 : n_715 8 = nI kc8 := by rw [en_715, pk_un (by omega)]; exact e710
                have e719 : n_715 2 = nI (kc2 + 1) := by rw [en_715, pk_un (by omega)]; exact e711
                have e720 : n_715 (14 * kc2 + 110) = nI 0 := by rw [en_715, pk_un (by omega)]; exact e712
                have e721 : n_715 (14 * kc2 + 111) = nI 0 := by rw [en_715, pk_un (by omega)]; exact e713
                have e722 : n_715 (14 * kc2 + 119) = nI 0 := by rw [en_715, pk_us]
                refine pm_iincX (v := nI 10) (loc' := [some (.ref (B + 54)), some (.int za), some (.int zb), some (.int zc), some (.int zd), some (.int (nI 1)), some (.int (nI kc2)), some (.int (nI 10))]) hG dX12_person_137 rfl (nI_1 _) (by decide) (pm_c1b rfl) rfl ?_
                refine pm_goto (tgt := 121) hG dX12_person_140 rfl ?_
                refine pm_iloadi hG dX12_person_121 rfl ?_
                refine pm_bipush (v := nI 14) hG dX12_person_123 (by decide) ?_
                refine pm_icmpN_ge (tgt := 143) hG dX12_person_125 rfl (by omega) (by omega) (fun q => absurd q (by omega)) (fun _ => ?_)
                refine pm_aloadn hG dX12_person_128 rfl ?_
                refine pm_iloadi hG dX12_person_129 rfl ?_
                refine pm_iloadi hG dX12_person_131 rfl ?_
                refine pm_iconst (v := nI 0) hG dX12_person_133 (by decide) ?_
                refine pm_callV (As := [.int (nI kc2), .int (nI 10), .int (nI 0)]) (rest := []) hG hR dX12_person_134 (lkX12_97 _ rfl) okV_X12_sets rfl rfl (m_sets (d := 2) (e := 14 * kc2 + 120) (by omega) (by omega) (by omega)) rfl rfl hdd (Nat.le_refl _) (Nat.le_refl _) (by decide) (pm_kv (fun σ' cnt' hq => ?_))
                obtain ⟨rfl, rfl⟩ := hq
                obtain ⟨n_723, en_723⟩ : ∃ f : Nat → Int32, f = upd n_715 (14 * kc2 + 120) (nI 0) := ⟨_, rfl⟩
                rw [← en_723]
                have hnn_723 := KI.w en_723 hnn_715 (okv_f (show kd (14 * kc2 + 120) = (0, 0, false) from (kd_P (k := kc2) (c := 10) (by omega) (by omega) (by decide))))
                have hrn_723 := NRx.w en_723 hrn_715 (by rw [(show kd (14 * kc2 + 120) = (0, 0, false) from (kd_P (k := kc2) (c := 10) (by omega) (by omega) (by decide)))])
                have ksn_723 := KSh.w (h := 14 * kc2 + 110) en_723 ksn_715 (by unfold tS; omega)
                have e724 : n_723 0 = nI kc0 := by rw [en_723, pk_un (by omega)]; exact e716
                have e725 : n_723 7 = nI kc7 := by rw [en_723, pk_un (by omega)]; exact e717
                have e726 : n_723 8 = nI kc8 := by rw [en_723, pk_un (by omega)]; exact e718
                have e727 : n_723 2 = nI (kc2 + 1) := by rw [en_723, pk_un (by omega)]; exact e719
                have e728 : n_723 (14 * kc2 + 110) = nI 0 := by rw [en_723, pk_un (by omega)]; exact e720
                have e729 : n_723 (14 * kc2 + 111) = nI 0 := by rw [en_723, pk_un (by omega)]; exact e721
                have e730 : n_723 (14 * kc2 + 119) = nI 0 := by rw [en_723, pk_un (by omega)]; exact e722
                have e731 : n_723 (14 * kc2 + 120) = nI 0 := by rw [en_723, pk_us]
                refine pm_iincX (v := nI 11) (loc' := [some (.ref (B + 54)), some (.int za), some (.int zb), some (.int zc), some (.int zd), some (.int (nI 1)), some (.int (nI kc2)), some (.int (nI 11))]) hG dX12_person_137 rfl (nI_1 _) (by decide) (pm_c1b rfl) rfl ?_
                refine pm_goto (tgt := 121) hG dX12_person_140 rfl ?_
                refine pm_iloadi hG dX12_person_121 rfl ?_
                refine pm_bipush (v := nI 14) hG dX12_person_123 (by decide) ?_
                refine pm_icmpN_ge (tgt := 143) hG dX12_person_125 rfl (by omega) (by omega) (fun q => absurd q (by omega)) (fun _ => ?_)
                refine pm_aloadn hG dX12_person_128 rfl ?_
                refine pm_iloadi hG dX12_person_129 rfl ?_
                refine pm_iloadi hG dX12_person_131 rfl ?_
                refine pm_iconst (v := nI 0) hG dX12_person_133 (by decide) ?_
                refine pm_callV (As := [.int (nI kc2), .int (nI 11), .int (nI 0)]) (rest := []) hG hR dX12_person_134 (lkX12_97 _ rfl) okV_X12_sets rfl rfl (m_sets (d := 2) (e := 14 * kc2 + 121) (by omega) (by omega) (by omega)) rfl rfl hdd (Nat.le_refl _) (Nat.le_refl _) (by decide) (pm_kv (fun σ' cnt' hq => ?_))
                obtain ⟨rfl, rfl⟩ := hq
                obtain ⟨n_732, en_732⟩ : ∃ f : Nat → Int32, f = upd n_723 (14 * kc2 + 121) (nI 0) := ⟨_, rfl⟩
                rw [← en_732]
                have hnn_732 := KI.w en_732 hnn_723 (okv_n (show kd (14 * kc2 + 121) = (1, 2, true) from (kd_P (k := kc2) (c := 11) (by omega) (by omega) (by decide))) (by omega))
                have hrn_732 := NRx.unseat (p := kc2) en_732 hrn_723 (by omega)
                have ksn_732 := KSh.w (h := 14 * kc2 + 110) en_732 ksn_723 (by unfold tS; omega)
                have e733 : n_732 0 = nI kc0 := by rw [en_732, pk_un (by omega)]; exact e724
                have e734 : n_732 7 = nI kc7 := by rw [en_732, pk_un (by omega)]; exact e725
                have e735 : n_732 8 = nI kc8 := by rw [en_732, pk_un (by omega)]; exact e726
                have e736 : n_732 2 = nI (kc2 + 1) := by rw [en_732, pk_un (by omega)]; exact e727
                have e737 : n_732 (14 * kc2 + 110) = nI 0 := by rw [en_732, pk_un (by omega)]; exact e728
                have e738 : n_732 (14 * kc2 + 111) = nI 0 := by rw [en_732, pk_un (by omega)]; exact e729
                have e739 : n_732 (14 * kc2 + 119) = nI 0 := by rw [en_732, pk_un (by omega)]; exact e730
                have e740 : n_732 (14 * kc2 + 121) = nI 0 := by rw [en_732, pk_us]
                refine pm_iincX (v := nI 12) (loc' := [some (.ref (B + 54)), some (.int za), some (.int zb), some (.int zc), some (.int zd), some (.int (nI 1)), some (.int (nI kc2)), some (.int (nI 12))]) hG dX12_person_137 rfl (nI_1 _) (by decide) (pm_c1b rfl) rfl ?_
                refine pm_goto (tgt := 121) hG dX12_person_140 rfl ?_
                refine pm_iloadi hG dX12_person_121 rfl ?_
                refine pm_bipush (v := nI 14) hG dX12_person_123 (by decide) ?_
                refine pm_icmpN_ge (tgt := 143) hG dX12_person_125 rfl (by omega) (by omega) (fun q => absurd q (by omega)) (fun _ => ?_)
                refine pm_aloadn hG dX12_person_128 rfl ?_
                refine pm_iloadi hG dX12_person_129 rfl ?_
                refine pm_iloadi hG dX12_person_131 rfl ?_
                refine pm_iconst (v := nI 0) hG dX12_person_133 (by decide) ?_
                refine pm_callV (As := [.int (nI kc2), .int (nI 12), .int (nI 0)]) (rest := []) hG hR dX12_person_134 (lkX12_97 _ rfl) okV_X12_sets rfl rfl (m_sets (d := 2) (e := 14 * kc2 + 122) (by omega) (by omega) (by omega)) rfl rfl hdd (Nat.le_refl _) (Nat.le_refl _) (by decide) (pm_kv (fun σ' cnt' hq => ?_))
                obtain ⟨rfl, rfl⟩ := hq
                obtain ⟨n_741, en_741⟩ : ∃ f : Nat → Int32, f = upd n_732 (14 * kc2 + 122) (nI 0) := ⟨_, rfl⟩
                rw [← en_741]
                have hnn_741 := KI.w en_741 hnn_732 (okv_f (show kd (14 * kc2 + 122) = (0, 0, false) from (kd_P (k := kc2) (c := 12) (by omega) (by omega) (by decide))))
                have hrn_741 := NRx.w en_741 hrn_732 (by rw [(show kd (14 * kc2 + 122) = (0, 0, false) from (kd_P (k := kc2) (c := 12) (by omega) (by omega) (by decide)))])
                have ksn_741 := KSh.w (h := 14 * kc2 + 110) en_741 ksn_732 (by unfold tS; omega)
                have e742 : n_741 0 = nI kc0 := by rw [en_741, pk_un (by omega)]; exact e733
                have e743 : n_741 7 = nI kc7 := by rw [en_741, pk_un (by omega)]; exact e734
                have e744 : n_741 8 = nI kc8 := by rw [en_741, pk_un (by omega)]; exact e735
                have e745 : n_741 2 = nI (kc2 + 1) := by rw [en_741, pk_un (by omega)]; exact e736
                have e746 : n_741 (14 * kc2 + 110) = nI 0 := by rw [en_741, pk_un (by omega)]; exact e737
                have e747 : n_741 (14 * kc2 + 111) = nI 0 := by rw [en_741, pk_un (by omega)]; exact e738
                have e748 : n_741 (14 * kc2 + 119) = nI 0 := by rw [en_741, pk_un (by omega)]; exact e739
                have e749 : n_741 (14 * kc2 + 121) = nI 0 := by rw [en_741, pk_un (by omega)]; exact e740
                have e750 : n_741 (14 * kc2 + 122) = nI 0 := by rw [en_741, pk_us]
                refine pm_iincX (v := nI 13) (loc' := [some (.ref (B + 54)), some (.int za), some (.int zb), some (.int zc), some (.int zd), some (.int (nI 1)), some (.int (nI kc2)), some (.int (nI 13))]) hG dX12_person_137 rfl (nI_1 _) (by decide) (pm_c1b rfl) rfl ?_
                refine pm_goto (tgt := 121) hG dX12_person_140 rfl ?_
                refine pm_iloadi hG dX12_person_121 rfl ?_
                refine pm_bipush (v := nI 14) hG dX12_person_123 (by decide) ?_
                refine pm_icmpN_ge (tgt := 143) hG dX12_person_125 rfl (by omega) (by omega) (fun q => absurd q (by omega)) (fun _ => ?_)
                refine pm_aloadn hG dX12_person_128 rfl ?_
                refine pm_iloadi hG dX12_person_129 rfl ?_
                refine pm_iloadi hG dX12_person_131 rfl ?_
                refine pm_iconst (v := nI 0) hG dX12_person_133 (by decide) ?_
                refine pm_callV (As := [.int (nI kc2), .int (nI 13), .int (nI 0)]) (rest := []) hG hR dX12_person_134 (lkX12_97 _ rfl) okV_X12_sets rfl rfl (m_sets (d := 2) (e := 14 * kc2 + 123) (by omega) (by omega) (by omega)) rfl rfl hdd (Nat.le_refl _) (Nat.le_refl _) (by decide) (pm_kv (fun σ' cnt' hq => ?_))
                obtain ⟨rfl, rfl⟩ := hq
                obtain ⟨n_751, en_751⟩ : ∃ f : Nat → Int32, f = upd n_741 (14 * kc2 + 123) (nI 0) := ⟨_, rfl⟩
                rw [← en_751]
                have hnn_751 := KI.w en_751 hnn_741 (okv_f (show kd (14 * kc2 + 123) = (0, 0, false) from (kd_P (k := kc2) (c := 13) (by omega) (by omega) (by decide))))
                have hrn_751 := NRx.w en_751 hrn_741 (by rw [(show kd (14 * kc2 + 123) = (0, 0, false) from (kd_P (k := kc2) (c := 13) (by omega) (by omega) (by decide)))])
                have ksn_751 := KSh.w (h := 14 * kc2 + 110) en_751 ksn_741 (by unfold tS; omega)
                have e752 : n_751 0 = nI kc0 := by rw [en_751, pk_un (by omega)]; exact e742
                have e753 : n_751 7 = nI kc7 := by rw [en_751, pk_un (by omega)]; exact e743
                have e754 : n_751 8 = nI kc8 := by rw [en_751, pk_un (by omega)]; exact e744
                have e755 : n_751 2 = nI (kc2 + 1) := by rw [en_751, pk_un (by omega)]; exact e745
                have e756 : n_751 (14 * kc2 + 110) = nI 0 := by rw [en_751, pk_un (by omega)]; exact e746
                have e757 : n_751 (14 * kc2 + 111) = nI 0 := by rw [en_751, pk_un (by omega)]; exact e747
                have e758 : n_751 (14 * kc2 + 119) = nI 0 := by rw [en_751, pk_un (by omega)]; exact e748
                have e759 : n_751 (14 * kc2 + 121) = nI 0 := by rw [en_751, pk_un (by omega)]; exact e749
                have e760 : n_751 (14 * kc2 + 123) = nI 0 := by rw [en_751, pk_us]
                refine pm_iincX (v := nI 14) (loc' := [some (.ref (B + 54)), some (.int za), some (.int zb), some (.int zc), some (.int zd), some (.int (nI 1)), some (.int (nI kc2)), some (.int (nI 14))]) hG dX12_person_137 rfl (nI_1 _) (by decide) (pm_c1b rfl) rfl ?_
                refine pm_goto (tgt := 121) hG dX12_person_140 rfl ?_
                refine pm_iloadi hG dX12_person_121 rfl ?_
                refine pm_bipush (v := nI 14) hG dX12_person_123 (by decide) ?_
                refine pm_icmpN_ge (tgt := 143) hG dX12_person_125 rfl (by omega) (by omega) (fun _ => ?_) (fun q => absurd q (by omega))
                refine pm_aloadn hG dX12_person_143 rfl ?_
                refine pm_iloadi hG dX12_person_144 rfl ?_
                refine pm_iconst (v := nI 0) hG dX12_person_146 (by decide) ?_
                refine pm_iloadn hG dX12_person_147 rfl ?_
                refine pm_top (v := nI k3) ek3 ?_
                refine pm_callV (As := [.int (nI kc2), .int (nI 0), .int (nI k3)]) (rest := []) hG hR dX12_person_148 (lkX12_97 _ rfl) okV_X12_sets rfl rfl (m_sets (d := 2) (e := 14 * kc2 + 110) (by omega) (by omega) (by omega)) rfl rfl hdd (Nat.le_refl _) (Nat.le_refl _) (by decide) (pm_kv (fun σ' cnt' hq => ?_))
                obtain ⟨rfl, rfl⟩ := hq
                obtain ⟨n_761, en_761⟩ : ∃ f : Nat → Int32, f = upd n_751 (14 * kc2 + 110) (nI k3) := ⟨_, rfl⟩
                rw [← en_761]
                have hnn_761 := KI.w en_761 hnn_751 (okv_f (show kd (14 * kc2 + 110) = (0, 0, false) from (kd_P (k := kc2) (c := 0) (by omega) (by omega) (by decide))))
                have hrn_761 := NRx.w en_761 hrn_751 (by rw [(show kd (14 * kc2 + 110) = (0, 0, false) from (kd_P (k := kc2) (c := 0) (by omega) (by omega) (by decide)))])
                have ksn_761 := KSh.w (h := 14 * kc2 + 110) en_761 ksn_751 (by unfold tS; omega)
                have e762 : n_761 0 = nI kc0 := by rw [en_761, pk_un (by omega)]; exact e752
                have e763 : n_761 7 = nI kc7 := by rw [en_761, pk_un (by omega)]; exact e753
                have e764 : n_761 8 = nI kc8 := by rw [en_761, pk_un (by omega)]; exact e754
                have e765 : n_761 2 = nI (kc2 + 1) := by rw [en_761, pk_un (by omega)]; exact e755
                have e766 : n_761 (14 * kc2 + 111) = nI 0 := by rw [en_761, pk_un (by omega)]; exact e757
                have e767 : n_761 (14 * kc2 + 119) = nI 0 := by rw [en_761, pk_un (by omega)]; exact e758
                have e768 : n_761 (14 * kc2 + 121) = nI 0 := by rw [en_761, pk_un (by omega)]; exact e759
                have e769 : n_761 (14 * kc2 + 110) = nI k3 := by rw [en_761, pk_us]
                refine pm_aloadn hG dX12_person_151 rfl ?_
                refine pm_iloadi hG dX12_person_152 rfl ?_
                refine pm_iconst (v := nI 1) hG dX12_person_154 (by decide) ?_
                refine pm_iloadn hG dX12_person_155 rfl ?_
                refine pm_callV (As := [.int (nI kc2), .int (nI 1), .int zb]) (rest := []) hG hR dX12_person_156 (lkX12_97 _ rfl) okV_X12_sets rfl rfl (m_sets (d := 2) (e := 14 * kc2 + 111) (by omega) (by omega) (by omega)) rfl rfl hdd (Nat.le_refl _) (Nat.le_refl _) (by decide) (pm_kv (fun σ' cnt' hq => ?_))
                obtain ⟨rfl, rfl⟩ := hq
                obtain ⟨n_770, en_770⟩ : ∃ f : Nat → Int32, f = upd n_761 (14 * kc2 + 111) zb := ⟨_, rfl⟩
                rw [← en_770]
                have hnn_770 := KI.w en_770 hnn_761 (okv_f (show kd (14 * kc2 + 111) = (0, 0, false) from (kd_P (k := kc2) (c := 1) (by omega) (by omega) (by decide))))
                have hrn_770 := NRx.w en_770 hrn_761 (by rw [(show kd (14 * kc2 + 111) = (0, 0, false) from (kd_P (k := kc2) (c := 1) (by omega) (by omega) (by decide)))])
                have ksn_770 := KSh.w (h := 14 * kc2 + 110) en_770 ksn_761 (by unfold tS; omega)
                have e771 : n_770 0 = nI kc0 := by rw [en_770, pk_un (by omega)]; exact e762
                have e772 : n_770 7 = nI kc7 := by rw [en_770, pk_un (by omega)]; exact e763
                have e773 : n_770 8 = nI kc8 := by rw [en_770, pk_un (by omega)]; exact e764
                have e774 : n_770 2 = nI (kc2 + 1) := by rw [en_770, pk_un (by omega)]; exact e765
                have e775 : n_770 (14 * kc2 + 119) = nI 0 := by rw [en_770, pk_un (by omega)]; exact e767
                have e776 : n_770 (14 * kc2 + 121) = nI 0 := by rw [en_770, pk_un (by omega)]; exact e768
                have e777 : n_770 (14 * kc2 + 110) = nI k3 := by rw [en_770, pk_un (by omega)]; exact e769
                have e778 : n_770 (14 * kc2 + 111) = zb := by rw [en_770, pk_us]
                refine pm_aloadn hG dX12_person_159 rfl ?_
                refine pm_iloadi hG dX12_person_160 rfl ?_
                refine pm_iconst (v := nI 2) hG dX12_person_162 (by decide) ?_
                refine pm_iloadn hG dX12_person_163 rfl ?_
                refine pm_top (v := nI k9) ek9 ?_
                refine pm_bipush (v := nI 100) hG dX12_person_164 (by decide) ?_
                refine pm_idivN hG dX12_person_166 (by omega) (by decide) (by decide) ?_
                refine pm_iconst (v := nI 1) hG dX12_person_167 (by decide) ?_
                refine pm_isub hG dX12_person_168 ?_
                refine pm_top (v := nI k11) ek11 ?_
                refine pm_callV (As := [.int (nI kc2), .int (nI 2), .int (nI k11)]) (rest := []) hG hR dX12_person_169 (lkX12_97 _ rfl) okV_X12_sets rfl rfl (m_sets (d := 2) (e := 14 * kc2 + 112) (by omega) (by omega) (by omega)) rfl rfl hdd (Nat.le_refl _) (Nat.le_refl _) (by decide) (pm_kv (fun σ' cnt' hq => ?_))
                obtain ⟨rfl, rfl⟩ := hq
                obtain ⟨n_779, en_779⟩ : ∃ f : Nat → Int32, f = upd n_770 (14 * kc2 + 112) (nI k11) := ⟨_, rfl⟩
                rw [← en_779]
                have hnn_779 := KI.w en_779 hnn_770 (okv_o (show kd (14 * kc2 + 112) = (2, 20, false) from (kd_P (k := kc2) (c := 2) (by omega) (by omega) (by decide))) (by omega))
                have hrn_779 := NRx.w en_779 hrn_770 (by rw [(show kd (14 * kc2 + 112) = (2, 20, false) from (kd_P (k := kc2) (c := 2) (by omega) (by omega) (by decide)))])
                have ksn_779 := KSh.w (h := 14 * kc2 + 110) en_779 ksn_770 (by unfold tS; omega)
                have e780 : n_779 0 = nI kc0 := by rw [en_779, pk_un (by omega)]; exact e771
                have e781 : n_779 7 = nI kc7 := by rw [en_779, pk_un (by omega)]; exact e772
                have e782 : n_779 8 = nI kc8 := by rw [en_779, pk_un (by omega)]; exact e773
                have e783 : n_779 2 = nI (kc2 + 1) := by rw [en_779, pk_un (by omega)]; exact e774
                have e784 : n_779 (14 * kc2 + 119) = nI 0 := by rw [en_779, pk_un (by omega)]; exact e775
                have e785 : n_779 (14 * kc2 + 121) = nI 0 := by rw [en_779, pk_un (by omega)]; exact e776
                have e786 : n_779 (14 * kc2 + 110) = nI k3 := by rw [en_779, pk_un (by omega)]; exact e777
                have e787 : n_779 (14 * kc2 + 111) = zb := by rw [en_779, pk_un (by omega)]; exact e778
                have e788 : n_779 (14 * kc2 + 112) = nI k11 := by rw [en_779, pk_us]
                refine pm_aloadn hG dX12_person_172 rfl ?_
                refine pm_iloadi hG dX12_person_173 rfl ?_
                refine pm_iconst (v := nI 3) hG dX12_person_175 (by decide) ?_
                refine pm_iloadn hG dX12_person_176 rfl ?_
                refine pm_top (v := nI k9) ek9 ?_
                refine pm_bipush (v := nI 100) hG dX12_person_177 (by decide) ?_
                refine pm_iremM hG dX12_person_179 (by omega) (by decide) (by decide) ?_
                refine pm_iconst (v := nI 1) hG dX12_person_180 (by decide) ?_
                refine pm_isub hG dX12_person_181 ?_
                refine pm_top (v := nI k429) ek429 ?_
                refine pm_callV (As := [.int (nI kc2), .int (nI 3), .int (nI k429)]) (rest := []) hG hR dX12_person_182 (lkX12_97 _ rfl) okV_X12_sets rfl rfl (m_sets (d := 2) (e := 14 * kc2 + 113) (by omega) (by omega) (by omega)) rfl rfl hdd (Nat.le_refl _) (Nat.le_refl _) (by decide) (pm_kv (fun σ' cnt' hq => ?_))
                obtain ⟨rfl, rfl⟩ := hq
                obtain ⟨n_789, en_789⟩ : ∃ f : Nat → Int32, f = upd n_779 (14 * kc2 + 113) (nI k429) := ⟨_, rfl⟩
                rw [← en_789]
                have hnn_789 := KI.w en_789 hnn_779 (okv_o (show kd (14 * kc2 + 113) = (2, 20, false) from (kd_P (k := kc2) (c := 3) (by omega) (by omega) (by decide))) (by omega))
                have hrn_789 := NRx.w en_789 hrn_779 (by rw [(show kd (14 * kc2 + 113) = (2, 20, false) from (kd_P (k := kc2) (c := 3) (by omega) (by omega) (by decide)))])
                have ksn_789 := KSh.w (h := 14 * kc2 + 110) en_789 ksn_779 (by unfold tS; omega)
                have e790 : n_789 0 = nI kc0 := by rw [en_789, pk_un (by omega)]; exact e780
                have e791 : n_789 7 = nI kc7 := by rw [en_789, pk_un (by omega)]; exact e781
                have e792 : n_789 8 = nI kc8 := by rw [en_789, pk_un (by omega)]; exact e782
                have e793 : n_789 2 = nI (kc2 + 1) := by rw [en_789, pk_un (by omega)]; exact e783
                have e794 : n_789 (14 * kc2 + 119) = nI 0 := by rw [en_789, pk_un (by omega)]; exact e784
                have e795 : n_789 (14 * kc2 + 121) = nI 0 := by rw [en_789, pk_un (by omega)]; exact e785
                have e796 : n_789 (14 * kc2 + 110) = nI k3 := by rw [en_789, pk_un (by omega)]; exact e786
                have e797 : n_789 (14 * kc2 + 111) = zb := by rw [en_789, pk_un (by omega)]; exact e787
                have e798 : n_789 (14 * kc2 + 113) = nI k429 := by rw [en_789, pk_us]
                refine pm_aloadn hG dX12_person_185 rfl ?_
                refine pm_iloadi hG dX12_person_186 rfl ?_
                refine pm_iconst (v := nI 4) hG dX12_person_188 (by decide) ?_
                refine pm_iloadi hG dX12_person_189 rfl ?_
                refine pm_top (v := nI k639) ek639 ?_
                refine pm_callV (As := [.int (nI kc2), .int (nI 4), .int (nI k639)]) (rest := []) hG hR dX12_person_191 (lkX12_97 _ rfl) okV_X12_sets rfl rfl (m_sets (d := 2) (e := 14 * kc2 + 114) (by omega) (by omega) (by omega)) rfl rfl hdd (Nat.le_refl _) (Nat.le_refl _) (by decide) (pm_kv (fun σ' cnt' hq => ?_))
                obtain ⟨rfl, rfl⟩ := hq
                obtain ⟨n_799, en_799⟩ : ∃ f : Nat → Int32, f = upd n_789 (14 * kc2 + 114) (nI k639) := ⟨_, rfl⟩
                rw [← en_799]
                have hnn_799 := KI.w en_799 hnn_789 (okv_o (show kd (14 * kc2 + 114) = (2, 10, false) from (kd_P (k := kc2) (c := 4) (by omega) (by omega) (by decide))) (by omega))
                have hrn_799 := NRx.w en_799 hrn_789 (by rw [(show kd (14 * kc2 + 114) = (2, 10, false) from (kd_P (k := kc2) (c := 4) (by omega) (by omega) (by decide)))])
                have ksn_799 := KSh.w (h := 14 * kc2 + 110) en_799 ksn_789 (by unfold tS; omega)
                have e800 : n_799 0 = nI kc0 := by rw [en_799, pk_un (by omega)]; exact e790
                have e801 : n_799 7 = nI kc7 := by rw [en_799, pk_un (by omega)]; exact e791
                have e802 : n_799 8 = nI kc8 := by rw [en_799, pk_un (by omega)]; exact e792
                have e803 : n_799 2 = nI (kc2 + 1) := by rw [en_799, pk_un (by omega)]; exact e793
                have e804 : n_799 (14 * kc2 + 119) = nI 0 := by rw [en_799, pk_un (by omega)]; exact e794
                have e805 : n_799 (14 * kc2 + 121) = nI 0 := by rw [en_799, pk_un (by omega)]; exact e795
                have e806 : n_799 (14 * kc2 + 110) = nI k3 := by rw [en_799, pk_un (by omega)]; exact e796
                have e807 : n_799 (14 * kc2 + 111) = zb := by rw [en_799, pk_un (by omega)]; exact e797
                have e808 : n_799 (14 * kc2 + 114) = nI k639 := by rw [en_799, pk_us]
                refine pm_aloadn hG dX12_person_194 rfl ?_
                refine pm_iloadi hG dX12_person_195 rfl ?_
                refine pm_bipush (v := nI 9) hG dX12_person_197 (by decide) ?_
                refine pm_iconst (v := (-1)) hG dX12_person_199 (by decide) ?_
                refine pm_callV (As := [.int (nI kc2), .int (nI 9), .int (-1)]) (rest := []) hG hR dX12_person_200 (lkX12_97 _ rfl) okV_X12_sets rfl rfl (m_sets (d := 2) (e := 14 * kc2 + 119) (by omega) (by omega) (by omega)) rfl rfl hdd (Nat.le_refl _) (Nat.le_refl _) (by decide) (pm_kv (fun σ' cnt' hq => ?_))
                obtain ⟨rfl, rfl⟩ := hq
                obtain ⟨n_809, en_809⟩ : ∃ f : Nat → Int32, f = upd n_799 (14 * kc2 + 119) (-1) := ⟨_, rfl⟩
                rw [← en_809]
                have hnn_809 := KI.w en_809 hnn_799 (okv_m (show kd (14 * kc2 + 119) = (2, 2001, false) from (kd_P (k := kc2) (c := 9) (by omega) (by omega) (by decide))))
                have hrn_809 := NRx.w en_809 hrn_799 (by rw [(show kd (14 * kc2 + 119) = (2, 2001, false) from (kd_P (k := kc2) (c := 9) (by omega) (by omega) (by decide)))])
                have ksn_809 := KSh.w (h := 14 * kc2 + 110) en_809 ksn_799 (by unfold tS; omega)
                have e810 : n_809 0 = nI kc0 := by rw [en_809, pk_un (by omega)]; exact e800
                have e811 : n_809 7 = nI kc7 := by rw [en_809, pk_un (by omega)]; exact e801
                have e812 : n_809 8 = nI kc8 := by rw [en_809, pk_un (by omega)]; exact e802
                have e813 : n_809 2 = nI (kc2 + 1) := by rw [en_809, pk_un (by omega)]; exact e803
                have e814 : n_809 (14 * kc2 + 121) = nI 0 := by rw [en_809, pk_un (by omega)]; exact e805
                have e815 : n_809 (14 * kc2 + 110) = nI k3 := by rw [en_809, pk_un (by omega)]; exact e806
                have e816 : n_809 (14 * kc2 + 111) = zb := by rw [en_809, pk_un (by omega)]; exact e807
                have e817 : n_809 (14 * kc2 + 119) = (-1) := by rw [en_809, pk_us]
                refine pm_aloadn hG dX12_person_203 rfl ?_
                refine pm_iloadi hG dX12_person_204 rfl ?_
                refine pm_bipush (v := nI 10) hG dX12_person_206 (by decide) ?_
                refine pm_iconst (v := (-1)) hG dX12_person_208 (by decide) ?_
                refine pm_callV (As := [.int (nI kc2), .int (nI 10), .int (-1)]) (rest := []) hG hR dX12_person_209 (lkX12_97 _ rfl) okV_X12_sets rfl rfl (m_sets (d := 2) (e := 14 * kc2 + 120) (by omega) (by omega) (by omega)) rfl rfl hdd (Nat.le_refl _) (Nat.le_refl _) (by decide) (pm_kv (fun σ' cnt' hq => ?_))
                obtain ⟨rfl, rfl⟩ := hq
                obtain ⟨n_818, en_818⟩ : ∃ f : Nat → Int32, f = upd n_809 (14 * kc2 + 120) (-1) := ⟨_, rfl⟩
                rw [← en_818]
                have hnn_818 := KI.w en_818 hnn_809 (okv_f (show kd (14 * kc2 + 120) = (0, 0, false) from (kd_P (k := kc2) (c := 10) (by omega) (by omega) (by decide))))
                have hrn_818 := NRx.w en_818 hrn_809 (by rw [(show kd (14 * kc2 + 120) = (0, 0, false) from (kd_P (k := kc2) (c := 10) (by omega) (by omega) (by decide)))])
                have ksn_818 := KSh.w (h := 14 * kc2 + 110) en_818 ksn_809 (by unfold tS; omega)
                have e819 : n_818 0 = nI kc0 := by rw [en_818, pk_un (by omega)]; exact e810
                have e820 : n_818 7 = nI kc7 := by rw [en_818, pk_un (by omega)]; exact e811
                have e821 : n_818 8 = nI kc8 := by rw [en_818, pk_un (by omega)]; exact e812
                have e822 : n_818 2 = nI (kc2 + 1) := by rw [en_818, pk_un (by omega)]; exact e813
                have e823 : n_818 (14 * kc2 + 121) = nI 0 := by rw [en_818, pk_un (by omega)]; exact e814
                have e824 : n_818 (14 * kc2 + 110) = nI k3 := by rw [en_818, pk_un (by omega)]; exact e815
                have e825 : n_818 (14 * kc2 + 111) = zb := by rw [en_818, pk_un (by omega)]; exact e816
                have e826 : n_818 (14 * kc2 + 119) = (-1) := by rw [en_818, pk_un (by omega)]; exact e817
                have e827 : n_818 (14 * kc2 + 120) = (-1) := by rw [en_818, pk_us]
                refine pm_aloadn hG dX12_person_212 rfl ?_
                refine pm_iloadi hG dX12_person_213 rfl ?_
                refine pm_bipush (v := nI 12) hG dX12_person_215 (by decide) ?_
                refine pm_iconst (v := nI 1) hG dX12_person_217 (by decide) ?_
                refine pm_callV (As := [.int (nI kc2), .int (nI 12), .int (nI 1)]) (rest := []) hG hR dX12_person_218 (lkX12_97 _ rfl) okV_X12_sets rfl rfl (m_sets (d := 2) (e := 14 * kc2 + 122) (by omega) (by omega) (by omega)) rfl rfl hdd (Nat.le_refl _) (Nat.le_refl _) (by decide) (pm_kv (fun σ' cnt' hq => ?_))
                obtain ⟨rfl, rfl⟩ := hq
                obtain ⟨n_828, en_828⟩ : ∃ f : Nat → Int32, f = upd n_818 (14 * kc2 + 122) (nI 1) := ⟨_, rfl⟩
                rw [← en_828]
                have hnn_828 := KI.w en_828 hnn_818 (okv_f (show kd (14 * kc2 + 122) = (0, 0, false) from (kd_P (k := kc2) (c := 12) (by omega) (by omega) (by decide))))
                have hrn_828 := NRx.w en_828 hrn_818 (by rw [(show kd (14 * kc2 + 122) = (0, 0, false) from (kd_P (k := kc2) (c := 12) (by omega) (by omega) (by decide)))])
                have ksn_828 := KSh.w (h := 14 * kc2 + 110) en_828 ksn_818 (by unfold tS; omega)
                have e829 : n_828 0 = nI kc0 := by rw [en_828, pk_un (by omega)]; exact e819
                have e830 : n_828 7 = nI kc7 := by rw [en_828, pk_un (by omega)]; exact e820
                have e831 : n_828 8 = nI kc8 := by rw [en_828, pk_un (by omega)]; exact e821
                have e832 : n_828 2 = nI (kc2 + 1) := by rw [en_828, pk_un (by omega)]; exact e822
                have e833 : n_828 (14 * kc2 + 121) = nI 0 := by rw [en_828, pk_un (by omega)]; exact e823
                have e834 : n_828 (14 * kc2 + 110) = nI k3 := by rw [en_828, pk_un (by omega)]; exact e824
                have e835 : n_828 (14 * kc2 + 111) = zb := by rw [en_828, pk_un (by omega)]; exact e825
                have e836 : n_828 (14 * kc2 + 119) = (-1) := by rw [en_828, pk_un (by omega)]; exact e826
                have e837 : n_828 (14 * kc2 + 122) = nI 1 := by rw [en_828, pk_us]
                refine pm_iloadi hG dX12_person_221 rfl ?_
                exact pm_iret hG hF dX12_person_223 rfl (Nat.le_refl _) (Nat.le_refl _) ⟨_, rfl, ⟨_, _, _, rfl, hnn_828, hrn_828, e829.trans ekc0.symm, e830.trans ekc7.symm, e831.trans ekc8.symm, ⟨(vE_y (T := pN n) (d := n 8) (t := n 0) (p := n 2) (a := za) (b := zb) (c := zc) (e := zd) (not6 (rg_in (a := 0) (b := 1) (by omega) ek3 (by omega) (by omega)) (fun q => q.elim ac5 (by rw [ekc8]; exact bc5)) (by rw [ek9]; exact nI_pos (by omega)) (nt_in ekc0 (by omega) ek639 (by omega)) (fun q => q (by rw [dv1 ek9 (by omega)]; exact pk11)) (fun q => q (by rw [rm1 ek9 (by omega)]; exact pk429))) ekc2 (by omega)).1, e832.trans (vE_y (T := pN n) (d := n 8) (t := n 0) (p := n 2) (a := za) (b := zb) (c := zc) (e := zd) (not6 (rg_in (a := 0) (b := 1) (by omega) ek3 (by omega) (by omega)) (fun q => q.elim ac5 (by rw [ekc8]; exact bc5)) (by rw [ek9]; exact nI_pos (by omega)) (nt_in ekc0 (by omega) ek639 (by omega)) (fun q => q (by rw [dv1 ek9 (by omega)]; exact pk11)) (fun q => q (by rw [rm1 ek9 (by omega)]; exact pk429))) ekc2 (by omega)).2.1, fun j hj => by rw [e832, nI_clamp (by omega)] at hj; rw [(vE_y (T := pN n) (d := n 8) (t := n 0) (p := n 2) (a := za) (b := zb) (c := zc) (e := zd) (not6 (rg_in (a := 0) (b := 1) (by omega) ek3 (by omega) (by omega)) (fun q => q.elim ac5 (by rw [ekc8]; exact bc5)) (by rw [ek9]; exact nI_pos (by omega)) (nt_in ekc0 (by omega) ek639 (by omega)) (fun q => q (by rw [dv1 ek9 (by omega)]; exact pk11)) (fun q => q (by rw [rm1 ek9 (by omega)]; exact pk429))) ekc2 (by omega)).2.2]; exact tP_ok ksn_828 (e834.trans ek3.symm) e835 e836 e833 (by omega) j hj⟩⟩, rfl⟩
              · refine pm_aloadn hG dX12_person_102 rfl ?_
                refine pm_iconst (v := nI 4) hG dX12_person_103 (by decide) ?_
                refine pm_callV (As := [.int (nI 4)]) (rest := []) hG hR dX12_person_104 (lkX12_80 _ rfl) okV_X12_finds rfl rfl (m_finds (d := 2) (by decide) hn hz (by omega)) rfl rfl hdd (Nat.le_refl _) (Nat.le_refl _) (by decide) (pm_ki (fun v838 σ' cnt' hq => ?_))
                obtain ⟨⟨I839, A839, rfl⟩, rfl, fv838⟩ := hq
                exact pm_iret hG hF dX12_person_107 rfl (Nat.le_refl _) (Nat.le_refl _) ⟨_, rfl, ⟨_, _, _, rfl, hn, hr, ekc0.trans ekc0.symm, ekc7.trans ekc7.symm, ekc8.trans ekc8.symm, ⟨fv838.trans ((by decide : (-1000000 : Int32) - nI 4 = -1000004).trans (vE_f (T := pN n) (d := n 8) (t := n 0) (p := n 2) (a := za) (b := zb) (c := zc) (e := zd) (not6 (rg_in (a := 0) (b := 1) (by omega) ek3 (by omega) (by omega)) (fun q => q.elim ac5 (by rw [ekc8]; exact bc5)) (by rw [ek9]; exact nI_pos (by omega)) (nt_in ekc0 (by omega) ek639 (by omega)) (fun q => q (by rw [dv1 ek9 (by omega)]; exact pk11)) (fun q => q (by rw [rm1 ek9 (by omega)]; exact pk429))) (ekc2.trans (congrArg nI (by omega)))).1), (vE_f (T := pN n) (d := n 8) (t := n 0) (p := n 2) (a := za) (b := zb) (c := zc) (e := zd) (not6 (rg_in (a := 0) (b := 1) (by omega) ek3 (by omega) (by omega)) (fun q => q.elim ac5 (by rw [ekc8]; exact bc5)) (by rw [ek9]; exact nI_pos (by omega)) (nt_in ekc0 (by omega) ek639 (by omega)) (fun q => q (by rw [dv1 ek9 (by omega)]; exact pk11)) (fun q => q (by rw [rm1 ek9 (by omega)]; exact pk429))) (ekc2.trans (congrArg nI (by omega)))).2.1, fun j _ => by rw [(vE_f (T := pN n) (d := n 8) (t := n 0) (p := n 2) (a := za) (b := zb) (c := zc) (e := zd) (not6 (rg_in (a := 0) (b := 1) (by omega) ek3 (by omega) (by omega)) (fun q => q.elim ac5 (by rw [ekc8]; exact bc5)) (by rw [ek9]; exact nI_pos (by omega)) (nt_in ekc0 (by omega) ek639 (by omega)) (fun q => q (by rw [dv1 ek9 (by omega)]; exact pk11)) (fun q => q (by rw [rm1 ek9 (by omega)]; exact pk429))) (ekc2.trans (congrArg nI (by omega)))).2.2]⟩⟩, rfl⟩
            · refine pm_ifN_eq (tgt := 73) hG dX12_person_66 rfl (by omega) (fun _ => ?_) (fun q => absurd q (by omega))
              refine pm_iconst (v := nI 0) hG dX12_person_73 (by decide) ?_
              refine pm_istoreXi (loc' := [some (.ref (B + 54)), some (.int za), some (.int zb), some (.int zc), some (.int zd), some (.int (nI 0)), none, none]) hG dX12_person_74 (by decide) (pm_c1b rfl) rfl ?_
              refine pm_iloadi hG dX12_person_76 rfl ?_
              refine pm_ifN_ne (tgt := 87) hG dX12_person_78 rfl (by omega) (fun q => absurd q (by omega)) (fun _ => ?_)
              refine pm_aloadn hG dX12_person_81 rfl ?_
              refine pm_iconst (v := nI 1) hG dX12_person_82 (by decide) ?_
              refine pm_callV (As := [.int (nI 1)]) (rest := []) hG hR dX12_person_83 (lkX12_80 _ rfl) okV_X12_finds rfl rfl (m_finds (d := 2) (by decide) hn hz (by omega)) rfl rfl hdd (Nat.le_refl _) (Nat.le_refl _) (by decide) (pm_ki (fun v840 σ' cnt' hq => ?_))
              obtain ⟨⟨I841, A841, rfl⟩, rfl, fv840⟩ := hq
              exact pm_iret hG hF dX12_person_86 rfl (Nat.le_refl _) (Nat.le_refl _) ⟨_, rfl, ⟨_, _, _, rfl, hn, hr, ekc0.trans ekc0.symm, ekc7.trans ekc7.symm, ekc8.trans ekc8.symm, ⟨fv840.trans ((by decide : (-1000000 : Int32) - nI 1 = -1000001).trans (vE_n (T := pN n) (d := n 8) (t := n 0) (p := n 2) (a := za) (b := zb) (c := zc) (e := zd) (Or.inr (Or.inr (Or.inr (Or.inl (nt_out ekc0 (by omega) ntk639)))))).1), (vE_n (T := pN n) (d := n 8) (t := n 0) (p := n 2) (a := za) (b := zb) (c := zc) (e := zd) (Or.inr (Or.inr (Or.inr (Or.inl (nt_out ekc0 (by omega) ntk639)))))).2.1, fun j _ => by rw [(vE_n (T := pN n) (d := n 8) (t := n 0) (p := n 2) (a := za) (b := zb) (c := zc) (e := zd) (Or.inr (Or.inr (Or.inr (Or.inl (nt_out ekc0 (by omega) ntk639)))))).2.2]⟩⟩, rfl⟩
    · refine pm_ifN_eq (tgt := 73) hG dX12_person_23 rfl (by omega) (fun _ => ?_) (fun q => absurd q (by omega))
      refine pm_iconst (v := nI 0) hG dX12_person_73 (by decide) ?_
      refine pm_istoreXi (loc' := [some (.ref (B + 54)), some (.int za), some (.int zb), some (.int zc), some (.int zd), some (.int (nI 0)), none, none]) hG dX12_person_74 (by decide) (pm_c1b rfl) rfl ?_
      refine pm_iloadi hG dX12_person_76 rfl ?_
      refine pm_ifN_ne (tgt := 87) hG dX12_person_78 rfl (by omega) (fun q => absurd q (by omega)) (fun _ => ?_)
      refine pm_aloadn hG dX12_person_81 rfl ?_
      refine pm_iconst (v := nI 1) hG dX12_person_82 (by decide) ?_
      refine pm_callV (As := [.int (nI 1)]) (rest := []) hG hR dX12_person_83 (lkX12_80 _ rfl) okV_X12_finds rfl rfl (m_finds (d := 2) (by decide) hn hz (by omega)) rfl rfl hdd (Nat.le_refl _) (Nat.le_refl _) (by decide) (pm_ki (fun v842 σ' cnt' hq => ?_))
      obtain ⟨⟨I843, A843, rfl⟩, rfl, fv842⟩ := hq
      exact pm_iret hG hF dX12_person_86 rfl (Nat.le_refl _) (Nat.le_refl _) ⟨_, rfl, ⟨_, _, _, rfl, hn, hr, ekc0.trans ekc0.symm, ekc7.trans ekc7.symm, ekc8.trans ekc8.symm, ⟨fv842.trans ((by decide : (-1000000 : Int32) - nI 1 = -1000001).trans (vE_n (T := pN n) (d := n 8) (t := n 0) (p := n 2) (a := za) (b := zb) (c := zc) (e := zd) (Or.inr (Or.inl (by rw [ekc8]; exact c5)))).1), (vE_n (T := pN n) (d := n 8) (t := n 0) (p := n 2) (a := za) (b := zb) (c := zc) (e := zd) (Or.inr (Or.inl (by rw [ekc8]; exact c5)))).2.1, fun j _ => by rw [(vE_n (T := pN n) (d := n 8) (t := n 0) (p := n 2) (a := za) (b := zb) (c := zc) (e := zd) (Or.inr (Or.inl (by rw [ekc8]; exact c5)))).2.2]⟩⟩, rfl⟩
  · refine pm_ifN_eq (tgt := 73) hG dX12_person_6 rfl (by omega) (fun _ => ?_) (fun q => absurd q (by omega))
    refine pm_iconst (v := nI 0) hG dX12_person_73 (by decide) ?_
    refine pm_istoreXi (loc' := [some (.ref (B + 54)), some (.int za), some (.int zb), some (.int zc), some (.int zd), some (.int (nI 0)), none, none]) hG dX12_person_74 (by decide) (pm_c1b rfl) rfl ?_
    refine pm_iloadi hG dX12_person_76 rfl ?_
    refine pm_ifN_ne (tgt := 87) hG dX12_person_78 rfl (by omega) (fun q => absurd q (by omega)) (fun _ => ?_)
    refine pm_aloadn hG dX12_person_81 rfl ?_
    refine pm_iconst (v := nI 1) hG dX12_person_82 (by decide) ?_
    refine pm_callV (As := [.int (nI 1)]) (rest := []) hG hR dX12_person_83 (lkX12_80 _ rfl) okV_X12_finds rfl rfl (m_finds (d := 2) (by decide) hn hz (by omega)) rfl rfl hdd (Nat.le_refl _) (Nat.le_refl _) (by decide) (pm_ki (fun v844 σ' cnt' hq => ?_))
    obtain ⟨⟨I845, A845, rfl⟩, rfl, fv844⟩ := hq
    exact pm_iret hG hF dX12_person_86 rfl (Nat.le_refl _) (Nat.le_refl _) ⟨_, rfl, ⟨_, _, _, rfl, hn, hr, ekc0.trans ekc0.symm, ekc7.trans ekc7.symm, ekc8.trans ekc8.symm, ⟨fv844.trans ((by decide : (-1000000 : Int32) - nI 1 = -1000001).trans (vE_n (T := pN n) (d := n 8) (t := n 0) (p := n 2) (a := za) (b := zb) (c := zc) (e := zd) (Or.inl c2)).1), (vE_n (T := pN n) (d := n 8) (t := n 0) (p := n 2) (a := za) (b := zb) (c := zc) (e := zd) (Or.inl c2)).2.1, fun j _ => by rw [(vE_n (T := pN n) (d := n 8) (t := n 0) (p := n 2) (a := za) (b := zb) (c := zc) (e := zd) (Or.inl c2)).2.2]⟩⟩, rfl⟩
