set_option maxRecDepth 100000 in
set_option maxHeartbeats 4000000 in
theorem m_own {d B cnt p0 t0 : Nat} {σ : pm_S} {I : Nat → Int32} {A : Nat → Nat → Int32} {n k z : Nat → Int32} {ac wt pl im : Int32} {za zb : Int32} (hdd : 2 ≤ d) (hn : KI n) (hr : NR n) (hz : SZ z)  : pm_met mX12_own d 0 0 B [.ref (B + 54), .int za, .int zb] cnt (pm_mid σ (md_L B I A n k z ac wt pl (nI p0) (nI t0) im)) (pm_Qi (fun v σ' cnt' => (∃ (I' : Nat → Int32) (A' : Nat → Nat → Int32) (n' : Nat → Int32), σ' = pm_mid σ (md_L B I' A' n' k z ac wt pl (nI p0) (nI t0) im) ∧ KI n' ∧ NR n' ∧ n' 0 = n 0 ∧ n' 2 = n 2 ∧ n' 8 = n 8 ∧ KS n' n) ∧ cnt = cnt')) := by
  obtain ⟨kc0, hkc0, ekc0⟩ := KI.nat hn (show kd 0 = (1, 11, true) by decide)
  obtain ⟨kc2, hkc2, ekc2⟩ := KI.nat hn (show kd 2 = (1, 21, true) by decide)
  obtain ⟨kc8, hkc8, ekc8⟩ := KI.nat hn (show kd 8 = (1, 2001, false) by decide)
  refine pm_enter 1 (by decide) (Nat.le_of_ble_eq_true rfl) rfl (fun G hG hR hF => ?_)
  refine pm_aloadn hG dX12_own_0 rfl ?_
  refine pm_iloadn hG dX12_own_1 rfl ?_
  refine pm_callV (As := [.int za]) (rest := []) hG hR dX12_own_2 (lkX12_84 _ rfl) okV_X12_isTown rfl rfl (m_isTown (d := 1) (by decide) ekc0 (by omega)) rfl rfl hdd (Nat.le_refl _) (Nat.le_refl _) (by decide) (pm_ki (fun v1 σ' cnt' hq => ?_))
  obtain ⟨hq, rfl, rfl⟩ := hq
  rcases hq with ⟨rfl, k3, hk3, ek3⟩ | ⟨rfl, ntk3⟩
  · refine pm_ifN_eq (tgt := 29) hG dX12_own_5 rfl (by omega) (fun q => absurd q (by omega)) (fun _ => ?_)
    refine pm_iloadn hG dX12_own_8 rfl ?_
    refine pm_iconst (v := (-1)) hG dX12_own_9 (by decide) ?_
    refine pm_icmp_eq (tgt := 35) hG dX12_own_10 rfl (fun c4 => ?_) (fun c4 => ?_)
    · refine pm_aloadn hG dX12_own_35 rfl ?_
      refine pm_getf hG dX12_own_36 (flX12_7 _ rfl) rfl rfl ?_
      refine pm_bipush (v := nI 20) hG dX12_own_39 (by decide) ?_
      refine pm_iconst (v := nI 3) hG dX12_own_41 (by decide) ?_
      refine pm_iloadn hG dX12_own_42 rfl ?_
      refine pm_top (v := nI k3) ek3 ?_
      refine pm_imulN (c := 3 * k3) hG dX12_own_43 (by omega) ?_
      refine pm_iaddN (c := 3 * k3 + 20) hG dX12_own_44 (by omega) ?_
      refine pm_iconst (v := nI 2) hG dX12_own_45 (by decide) ?_
      refine pm_iaddN (c := 3 * k3 + 22) hG dX12_own_46 (by omega) ?_
      refine pm_ialdN hG dX12_own_47 rfl (by decide) (by omega) ?_
      refine pm_gen (fun x5 ex5 => ?_)
      refine pm_iconst (v := nI 1) hG dX12_own_48 (by decide) ?_
      refine pm_icmp_ne (tgt := 58) hG dX12_own_49 rfl (fun c6 => ?_) (fun c6 => ?_)
      · refine pm_aloadn hG dX12_own_58 rfl ?_
        refine pm_getf hG dX12_own_59 (flX12_7 _ rfl) rfl rfl ?_
        refine pm_bipush (v := nI 20) hG dX12_own_62 (by decide) ?_
        refine pm_iconst (v := nI 3) hG dX12_own_64 (by decide) ?_
        refine pm_iloadn hG dX12_own_65 rfl ?_
        refine pm_top (v := nI k3) ek3 ?_
        refine pm_imulN (c := 3 * k3) hG dX12_own_66 (by omega) ?_
        refine pm_iaddN (c := 3 * k3 + 20) hG dX12_own_67 (by omega) ?_
        refine pm_iconst (v := nI 1) hG dX12_own_68 (by decide) ?_
        refine pm_iaddN (c := 3 * k3 + 21) hG dX12_own_69 (by omega) ?_
        refine pm_ialdN hG dX12_own_70 rfl (by decide) (by omega) ?_
        rcases KI.opt hn (show kd (3 * k3 + 21) = (2, 20, false) from (kd_T (k := k3) (c := 1) (by omega) (by omega) (by decide))) with ek7 | ⟨k7, hk7, ek7⟩
        · refine pm_top (v := (-1)) ek7 ?_
          refine pm_istoreXn (loc' := [some (.ref (B + 54)), some (.int za), some (.int zb), some (.int (-1))]) hG dX12_own_71 (by decide) (pm_c1b rfl) rfl ?_
          refine pm_aloadn hG dX12_own_72 rfl ?_
          refine pm_getf hG dX12_own_73 (flX12_7 _ rfl) rfl rfl ?_
          refine pm_bipush (v := nI 20) hG dX12_own_76 (by decide) ?_
          refine pm_iconst (v := nI 3) hG dX12_own_78 (by decide) ?_
          refine pm_iloadn hG dX12_own_79 rfl ?_
          refine pm_top (v := nI k3) ek3 ?_
          refine pm_imulN (c := 3 * k3) hG dX12_own_80 (by omega) ?_
          refine pm_iaddN (c := 3 * k3 + 20) hG dX12_own_81 (by omega) ?_
          refine pm_iconst (v := nI 1) hG dX12_own_82 (by decide) ?_
          refine pm_iaddN (c := 3 * k3 + 21) hG dX12_own_83 (by omega) ?_
          refine pm_iloadn hG dX12_own_84 rfl ?_
          refine pm_top (v := (-1)) c4 ?_
          refine pm_iastN hG dX12_own_85 rfl (by decide) (by omega) ?_
          refine mdn_now (fun n_8 en_8 => ?_)
          have hnn_8 := KI.w en_8 hn (okv_m (show kd (3 * k3 + 21) = (2, 20, false) from (kd_T (k := k3) (c := 1) (by omega) (by omega) (by decide))))
          have hrn_8 := NRx.w en_8 hr (by rw [(show kd (3 * k3 + 21) = (2, 20, false) from (kd_T (k := k3) (c := 1) (by omega) (by omega) (by decide)))])
          have ksn_8 := KS.w en_8 KS.rf (by unfold tS; omega)
          have e9 : n_8 0 = nI kc0 := by rw [en_8, pk_un (by omega)]; exact ekc0
          have e10 : n_8 2 = nI kc2 := by rw [en_8, pk_un (by omega)]; exact ekc2
          have e11 : n_8 8 = nI kc8 := by rw [en_8, pk_un (by omega)]; exact ekc8
          have e12 : n_8 (3 * k3 + 22) = x5 := by rw [en_8, pk_un (by omega)]; exact ex5
          have e13 : n_8 (3 * k3 + 21) = (-1) := by rw [en_8, pk_us]
          refine pm_iloadn hG dX12_own_86 rfl ?_
          exact pm_iret hG hF dX12_own_87 rfl (Nat.le_refl _) (Nat.le_refl _) ⟨_, rfl, ⟨_, _, _, rfl, hnn_8, hrn_8, e9.trans ekc0.symm, e10.trans ekc2.symm, e11.trans ekc8.symm, ksn_8⟩, rfl⟩
        · refine pm_top (v := nI k7) ek7 ?_
          refine pm_istoreXn (loc' := [some (.ref (B + 54)), some (.int za), some (.int zb), some (.int (nI k7))]) hG dX12_own_71 (by decide) (pm_c1b rfl) rfl ?_
          refine pm_aloadn hG dX12_own_72 rfl ?_
          refine pm_getf hG dX12_own_73 (flX12_7 _ rfl) rfl rfl ?_
          refine pm_bipush (v := nI 20) hG dX12_own_76 (by decide) ?_
          refine pm_iconst (v := nI 3) hG dX12_own_78 (by decide) ?_
          refine pm_iloadn hG dX12_own_79 rfl ?_
          refine pm_top (v := nI k3) ek3 ?_
          refine pm_imulN (c := 3 * k3) hG dX12_own_80 (by omega) ?_
          refine pm_iaddN (c := 3 * k3 + 20) hG dX12_own_81 (by omega) ?_
          refine pm_iconst (v := nI 1) hG dX12_own_82 (by decide) ?_
          refine pm_iaddN (c := 3 * k3 + 21) hG dX12_own_83 (by omega) ?_
          refine pm_iloadn hG dX12_own_84 rfl ?_
          refine pm_top (v := (-1)) c4 ?_
          refine pm_iastN hG dX12_own_85 rfl (by decide) (by omega) ?_
          refine mdn_now (fun n_14 en_14 => ?_)
          have hnn_14 := KI.w en_14 hn (okv_m (show kd (3 * k3 + 21) = (2, 20, false) from (kd_T (k := k3) (c := 1) (by omega) (by omega) (by decide))))
          have hrn_14 := NRx.w en_14 hr (by rw [(show kd (3 * k3 + 21) = (2, 20, false) from (kd_T (k := k3) (c := 1) (by omega) (by omega) (by decide)))])
          have ksn_14 := KS.w en_14 KS.rf (by unfold tS; omega)
          have e15 : n_14 0 = nI kc0 := by rw [en_14, pk_un (by omega)]; exact ekc0
          have e16 : n_14 2 = nI kc2 := by rw [en_14, pk_un (by omega)]; exact ekc2
          have e17 : n_14 8 = nI kc8 := by rw [en_14, pk_un (by omega)]; exact ekc8
          have e18 : n_14 (3 * k3 + 22) = x5 := by rw [en_14, pk_un (by omega)]; exact ex5
          have e19 : n_14 (3 * k3 + 21) = (-1) := by rw [en_14, pk_us]
          refine pm_iloadn hG dX12_own_86 rfl ?_
          exact pm_iret hG hF dX12_own_87 rfl (Nat.le_refl _) (Nat.le_refl _) ⟨_, rfl, ⟨_, _, _, rfl, hnn_14, hrn_14, e15.trans ekc0.symm, e16.trans ekc2.symm, e17.trans ekc8.symm, ksn_14⟩, rfl⟩
      · refine pm_aloadn hG dX12_own_52 rfl ?_
        refine pm_iconst (v := nI 3) hG dX12_own_53 (by decide) ?_
        refine pm_callV (As := [.int (nI 3)]) (rest := []) hG hR dX12_own_54 (lkX12_80 _ rfl) okV_X12_finds rfl rfl (m_finds (d := 1) (by decide) hn hz (by omega)) rfl rfl hdd (Nat.le_refl _) (Nat.le_refl _) (by decide) (pm_ki (fun v20 σ' cnt' hq => ?_))
        obtain ⟨⟨I21, A21, rfl⟩, rfl, fv20⟩ := hq
        exact pm_iret hG hF dX12_own_57 rfl (Nat.le_refl _) (Nat.le_refl _) ⟨_, rfl, ⟨_, _, _, rfl, hn, hr, ekc0.trans ekc0.symm, ekc2.trans ekc2.symm, ekc8.trans ekc8.symm, KS.rf⟩, rfl⟩
    · refine pm_aloadn hG dX12_own_13 rfl ?_
      refine pm_iloadn hG dX12_own_14 rfl ?_
      refine pm_callV (As := [.int zb]) (rest := []) hG hR dX12_own_15 (lkX12_91 _ rfl) okV_X12_isPerson rfl rfl (m_isPerson (d := 1) (by decide) ekc2 (by omega)) rfl rfl hdd (Nat.le_refl _) (Nat.le_refl _) (by decide) (pm_ki (fun v22 σ' cnt' hq => ?_))
      obtain ⟨hq, rfl, rfl⟩ := hq
      rcases hq with ⟨rfl, k24, hk24, ek24⟩ | ⟨rfl, ntk24⟩
      · refine pm_ifN_eq (tgt := 29) hG dX12_own_18 rfl (by omega) (fun q => absurd q (by omega)) (fun _ => ?_)
        refine pm_aloadn hG dX12_own_21 rfl ?_
        refine pm_iloadn hG dX12_own_22 rfl ?_
        refine pm_top (v := nI k24) ek24 ?_
        rcases KI.opt hn (show kd (14 * k24 + 119) = (2, 2001, false) from (kd_P (k := k24) (c := 9) (by omega) (by omega) (by decide))) with ek25 | ⟨k25, hk25, ek25⟩
        · refine pm_callV (As := [.int (nI k24)]) (rest := []) hG hR dX12_own_23 (lkX12_101 _ rfl) okV_X12_lives rfl rfl (m_lives1 (d := 1) (by decide) (by omega) (by omega : 14 * k24 + 119 = 14 * k24 + 119) ek25) rfl rfl hdd (Nat.le_refl _) (Nat.le_refl _) (by decide) (pm_ki (fun v26 σ' cnt' hq => ?_))
          obtain ⟨rfl, rfl, rfl⟩ := hq
          refine pm_ifN_ne (tgt := 35) hG dX12_own_26 rfl (by omega) (fun _ => ?_) (fun q => absurd q (by omega))
          refine pm_aloadn hG dX12_own_35 rfl ?_
          refine pm_getf hG dX12_own_36 (flX12_7 _ rfl) rfl rfl ?_
          refine pm_bipush (v := nI 20) hG dX12_own_39 (by decide) ?_
          refine pm_iconst (v := nI 3) hG dX12_own_41 (by decide) ?_
          refine pm_iloadn hG dX12_own_42 rfl ?_
          refine pm_top (v := nI k3) ek3 ?_
          refine pm_imulN (c := 3 * k3) hG dX12_own_43 (by omega) ?_
          refine pm_iaddN (c := 3 * k3 + 20) hG dX12_own_44 (by omega) ?_
          refine pm_iconst (v := nI 2) hG dX12_own_45 (by decide) ?_
          refine pm_iaddN (c := 3 * k3 + 22) hG dX12_own_46 (by omega) ?_
          refine pm_ialdN hG dX12_own_47 rfl (by decide) (by omega) ?_
          refine pm_gen (fun x27 ex27 => ?_)
          refine pm_iconst (v := nI 1) hG dX12_own_48 (by decide) ?_
          refine pm_icmp_ne (tgt := 58) hG dX12_own_49 rfl (fun c28 => ?_) (fun c28 => ?_)
          · refine pm_aloadn hG dX12_own_58 rfl ?_
            refine pm_getf hG dX12_own_59 (flX12_7 _ rfl) rfl rfl ?_
            refine pm_bipush (v := nI 20) hG dX12_own_62 (by decide) ?_
            refine pm_iconst (v := nI 3) hG dX12_own_64 (by decide) ?_
            refine pm_iloadn hG dX12_own_65 rfl ?_
            refine pm_top (v := nI k3) ek3 ?_
            refine pm_imulN (c := 3 * k3) hG dX12_own_66 (by omega) ?_
            refine pm_iaddN (c := 3 * k3 + 20) hG dX12_own_67 (by omega) ?_
            refine pm_iconst (v := nI 1) hG dX12_own_68 (by decide) ?_
            refine pm_iaddN (c := 3 * k3 + 21) hG dX12_own_69 (by omega) ?_
            refine pm_ialdN hG dX12_own_70 rfl (by decide) (by omega) ?_
            rcases KI.opt hn (show kd (3 * k3 + 21) = (2, 20, false) from (kd_T (k := k3) (c := 1) (by omega) (by omega) (by decide))) with ek29 | ⟨k29, hk29, ek29⟩
            · refine pm_top (v := (-1)) ek29 ?_
              refine pm_istoreXn (loc' := [some (.ref (B + 54)), some (.int za), some (.int zb), some (.int (-1))]) hG dX12_own_71 (by decide) (pm_c1b rfl) rfl ?_
              refine pm_aloadn hG dX12_own_72 rfl ?_
              refine pm_getf hG dX12_own_73 (flX12_7 _ rfl) rfl rfl ?_
              refine pm_bipush (v := nI 20) hG dX12_own_76 (by decide) ?_
              refine pm_iconst (v := nI 3) hG dX12_own_78 (by decide) ?_
              refine pm_iloadn hG dX12_own_79 rfl ?_
              refine pm_top (v := nI k3) ek3 ?_
              refine pm_imulN (c := 3 * k3) hG dX12_own_80 (by omega) ?_
              refine pm_iaddN (c := 3 * k3 + 20) hG dX12_own_81 (by omega) ?_
              refine pm_iconst (v := nI 1) hG dX12_own_82 (by decide) ?_
              refine pm_iaddN (c := 3 * k3 + 21) hG dX12_own_83 (by omega) ?_
              refine pm_iloadn hG dX12_own_84 rfl ?_
              refine pm_top (v := nI k24) ek24 ?_
              refine pm_iastN hG dX12_own_85 rfl (by decide) (by omega) ?_
              refine mdn_now (fun n_30 en_30 => ?_)
              have hnn_30 := KI.w en_30 hn (okv_o (show kd (3 * k3 + 21) = (2, 20, false) from (kd_T (k := k3) (c := 1) (by omega) (by omega) (by decide))) (by omega))
              have hrn_30 := NRx.w en_30 hr (by rw [(show kd (3 * k3 + 21) = (2, 20, false) from (kd_T (k := k3) (c := 1) (by omega) (by omega) (by decide)))])
              have ksn_30 := KS.w en_30 KS.rf (by unfold tS; omega)
              have e31 : n_30 0 = nI kc0 := by rw [en_30, pk_un (by omega)]; exact ekc0
              have e32 : n_30 2 = nI kc2 := by rw [en_30, pk_un (by omega)]; exact ekc2
              have e33 : n_30 8 = nI kc8 := by rw [en_30, pk_un (by omega)]; exact ekc8
              have e34 : n_30 (14 * k24 + 119) = (-1) := by rw [en_30, pk_un (by omega)]; exact ek25
              have e35 : n_30 (3 * k3 + 22) = x27 := by rw [en_30, pk_un (by omega)]; exact ex27
              have e36 : n_30 (3 * k3 + 21) = nI k24 := by rw [en_30, pk_us]
              refine pm_iloadn hG dX12_own_86 rfl ?_
              exact pm_iret hG hF dX12_own_87 rfl (Nat.le_refl _) (Nat.le_refl _) ⟨_, rfl, ⟨_, _, _, rfl, hnn_30, hrn_30, e31.trans ekc0.symm, e32.trans ekc2.symm, e33.trans ekc8.symm, ksn_30⟩, rfl⟩
            · refine pm_top (v := nI k29) ek29 ?_
              refine pm_istoreXn (loc' := [some (.ref (B + 54)), some (.int za), some (.int zb), some (.int (nI k29))]) hG dX12_own_71 (by decide) (pm_c1b rfl) rfl ?_
              refine pm_aloadn hG dX12_own_72 rfl ?_
              refine pm_getf hG dX12_own_73 (flX12_7 _ rfl) rfl rfl ?_
              refine pm_bipush (v := nI 20) hG dX12_own_76 (by decide) ?_
              refine pm_iconst (v := nI 3) hG dX12_own_78 (by decide) ?_
              refine pm_iloadn hG dX12_own_79 rfl ?_
              refine pm_top (v := nI k3) ek3 ?_
              refine pm_imulN (c := 3 * k3) hG dX12_own_80 (by omega) ?_
              refine pm_iaddN (c := 3 * k3 + 20) hG dX12_own_81 (by omega) ?_
              refine pm_iconst (v := nI 1) hG dX12_own_82 (by decide) ?_
              refine pm_iaddN (c := 3 * k3 + 21) hG dX12_own_83 (by omega) ?_
              refine pm_iloadn hG dX12_own_84 rfl ?_
              refine pm_top (v := nI k24) ek24 ?_
              refine pm_iastN hG dX12_own_85 rfl (by decide) (by omega) ?_
              refine mdn_now (fun n_37 en_37 => ?_)
              have hnn_37 := KI.w en_37 hn (okv_o (show kd (3 * k3 + 21) = (2, 20, false) from (kd_T (k := k3) (c := 1) (by omega) (by omega) (by decide))) (by omega))
              have hrn_37 := NRx.w en_37 hr (by rw [(show kd (3 * k3 + 21) = (2, 20, false) from (kd_T (k := k3) (c := 1) (by omega) (by omega) (by decide)))])
              have ksn_37 := KS.w en_37 KS.rf (by unfold tS; omega)
              have e38 : n_37 0 = nI kc0 := by rw [en_37, pk_un (by omega)]; exact ekc0
              have e39 : n_37 2 = nI kc2 := by rw [en_37, pk_un (by omega)]; exact ekc2
              have e40 : n_37 8 = nI kc8 := by rw [en_37, pk_un (by omega)]; exact ekc8
              have e41 : n_37 (14 * k24 + 119) = (-1) := by rw [en_37, pk_un (by omega)]; exact ek25
              have e42 : n_37 (3 * k3 + 22) = x27 := by rw [en_37, pk_un (by omega)]; exact ex27
              have e43 : n_37 (3 * k3 + 21) = nI k24 := by rw [en_37, pk_us]
              refine pm_iloadn hG dX12_own_86 rfl ?_
              exact pm_iret hG hF dX12_own_87 rfl (Nat.le_refl _) (Nat.le_refl _) ⟨_, rfl, ⟨_, _, _, rfl, hnn_37, hrn_37, e38.trans ekc0.symm, e39.trans ekc2.symm, e40.trans ekc8.symm, ksn_37⟩, rfl⟩
          · refine pm_aloadn hG dX12_own_52 rfl ?_
            refine pm_iconst (v := nI 3) hG dX12_own_53 (by decide) ?_
            refine pm_callV (As := [.int (nI 3)]) (rest := []) hG hR dX12_own_54 (lkX12_80 _ rfl) okV_X12_finds rfl rfl (m_finds (d := 1) (by decide) hn hz (by omega)) rfl rfl hdd (Nat.le_refl _) (Nat.le_refl _) (by decide) (pm_ki (fun v44 σ' cnt' hq => ?_))
            obtain ⟨⟨I45, A45, rfl⟩, rfl, fv44⟩ := hq
            exact pm_iret hG hF dX12_own_57 rfl (Nat.le_refl _) (Nat.le_refl _) ⟨_, rfl, ⟨_, _, _, rfl, hn, hr, ekc0.trans ekc0.symm, ekc2.trans ekc2.symm, ekc8.trans ekc8.symm, KS.rf⟩, rfl⟩
        · refine pm_callV (As := [.int (nI k24)]) (rest := []) hG hR dX12_own_23 (lkX12_101 _ rfl) okV_X12_lives rfl rfl (m_lives0 (d := 1) (by decide) (by omega) (by omega : 14 * k24 + 119 = 14 * k24 + 119) ek25 (by omega)) rfl rfl hdd (Nat.le_refl _) (Nat.le_refl _) (by decide) (pm_ki (fun v46 σ' cnt' hq => ?_))
          obtain ⟨rfl, rfl, rfl⟩ := hq
          refine pm_ifN_ne (tgt := 35) hG dX12_own_26 rfl (by omega) (fun q => absurd q (by omega)) (fun _ => ?_)
          refine pm_aloadn hG dX12_own_29 rfl ?_
          refine pm_iconst (v := nI 1) hG dX12_own_30 (by decide) ?_
          refine pm_callV (As := [.int (nI 1)]) (rest := []) hG hR dX12_own_31 (lkX12_80 _ rfl) okV_X12_finds rfl rfl (m_finds (d := 1) (by decide) hn hz (by omega)) rfl rfl hdd (Nat.le_refl _) (Nat.le_refl _) (by decide) (pm_ki (fun v47 σ' cnt' hq => ?_))
          obtain ⟨⟨I48, A48, rfl⟩, rfl, fv47⟩ := hq
          exact pm_iret hG hF dX12_own_34 rfl (Nat.le_refl _) (Nat.le_refl _) ⟨_, rfl, ⟨_, _, _, rfl, hn, hr, ekc0.trans ekc0.symm, ekc2.trans ekc2.symm, ekc8.trans ekc8.symm, KS.rf⟩, rfl⟩
      · refine pm_ifN_eq (tgt := 29) hG dX12_own_18 rfl (by omega) (fun _ => ?_) (fun q => absurd q (by omega))
        refine pm_aloadn hG dX12_own_29 rfl ?_
        refine pm_iconst (v := nI 1) hG dX12_own_30 (by decide) ?_
        refine pm_callV (As := [.int (nI 1)]) (rest := []) hG hR dX12_own_31 (lkX12_80 _ rfl) okV_X12_finds rfl rfl (m_finds (d := 1) (by decide) hn hz (by omega)) rfl rfl hdd (Nat.le_refl _) (Nat.le_refl _) (by decide) (pm_ki (fun v49 σ' cnt' hq => ?_))
        obtain ⟨⟨I50, A50, rfl⟩, rfl, fv49⟩ := hq
        exact pm_iret hG hF dX12_own_34 rfl (Nat.le_refl _) (Nat.le_refl _) ⟨_, rfl, ⟨_, _, _, rfl, hn, hr, ekc0.trans ekc0.symm, ekc2.trans ekc2.symm, ekc8.trans ekc8.symm, KS.rf⟩, rfl⟩
  · refine pm_ifN_eq (tgt := 29) hG dX12_own_5 rfl (by omega) (fun _ => ?_) (fun q => absurd q (by omega))
    refine pm_aloadn hG dX12_own_29 rfl ?_
    refine pm_iconst (v := nI 1) hG dX12_own_30 (by decide) ?_
    refine pm_callV (As := [.int (nI 1)]) (rest := []) hG hR dX12_own_31 (lkX12_80 _ rfl) okV_X12_finds rfl rfl (m_finds (d := 1) (by decide) hn hz (by omega)) rfl rfl hdd (Nat.le_refl _) (Nat.le_refl _) (by decide) (pm_ki (fun v51 σ' cnt' hq => ?_))
    obtain ⟨⟨I52, A52, rfl⟩, rfl, fv51⟩ := hq
    exact pm_iret hG hF dX12_own_34 rfl (Nat.le_refl _) (Nat.le_refl _) ⟨_, rfl, ⟨_, _, _, rfl, hn, hr, ekc0.trans ekc0.symm, ekc2.trans ekc2.symm, ekc8.trans ekc8.symm, KS.rf⟩, rfl⟩

set_option maxRecDepth 100000 in
set_option maxHeartbeats 4000000 in
theorem m_pay {d B cnt p0 t0 : Nat} {σ : pm_S} {I : Nat → Int32} {A : Nat → Nat → Int32} {n k z : Nat → Int32} {ac wt pl im : Int32} {za zb : Int32} (hdd : 2 ≤ d) (hn : KI n) (hr : NR n) (hz : SZ z)  : pm_met mX12_pay d 0 0 B [.ref (B + 54), .int za, .int zb] cnt (pm_mid σ (md_L B I A n k z ac wt pl (nI p0) (nI t0) im)) (pm_Qi (fun v σ' cnt' => (∃ (I' : Nat → Int32) (A' : Nat → Nat → Int32) (n' : Nat → Int32), σ' = pm_mid σ (md_L B I' A' n' k z ac wt pl (nI p0) (nI t0) im) ∧ KI n' ∧ NR n' ∧ n' 0 = n 0 ∧ n' 2 = n 2 ∧ n' 8 = n 8 ∧ KS n' n) ∧ cnt = cnt')) := by
  obtain ⟨kc0, hkc0, ekc0⟩ := KI.nat hn (show kd 0 = (1, 11, true) by decide)
  obtain ⟨kc2, hkc2, ekc2⟩ := KI.nat hn (show kd 2 = (1, 21, true) by decide)
  obtain ⟨kc8, hkc8, ekc8⟩ := KI.nat hn (show kd 8 = (1, 2001, false) by decide)
  refine pm_enter 0 (by decide) (Nat.le_of_ble_eq_true rfl) rfl (fun G hG hR hF => ?_)
  refine pm_aloadn hG dX12_pay_0 rfl ?_
  refine pm_iloadn hG dX12_pay_1 rfl ?_
  refine pm_callV (As := [.int za]) (rest := []) hG hR dX12_pay_2 (lkX12_91 _ rfl) okV_X12_isPerson rfl rfl (m_isPerson (d := 1) (by decide) ekc2 (by omega)) rfl rfl hdd (Nat.le_refl _) (Nat.le_refl _) (by decide) (pm_ki (fun v1 σ' cnt' hq => ?_))
  obtain ⟨hq, rfl, rfl⟩ := hq
  rcases hq with ⟨rfl, k3, hk3, ek3⟩ | ⟨rfl, ntk3⟩
  · refine pm_ifN_eq (tgt := 19) hG dX12_pay_5 rfl (by omega) (fun q => absurd q (by omega)) (fun _ => ?_)
    refine pm_iloadn hG dX12_pay_8 rfl ?_
    refine pm_iconst (v := nI 1) hG dX12_pay_9 (by decide) ?_
    refine pm_sipush (v := nI 9999) hG dX12_pay_10 (by decide) ?_
    refine pm_callS (As := [.int zb, .int (nI 1), .int (nI 9999)]) (rest := []) hG hR dX12_pay_13 (lkX12_68 _ rfl) okS_X12_in (m_in (d := 1)) rfl rfl hdd (Nat.le_refl _) (Nat.le_refl _) (by decide) (pm_ki (fun v4 σ' cnt' hq => ?_))
    obtain ⟨hq, rfl, rfl⟩ := hq
    rcases hq with ⟨rfl, ac5, bc5⟩ | ⟨rfl, c5⟩
    · obtain ⟨k6, hk6, ek6⟩ := in_nat (by omega) (by omega) ac5 bc5
      refine pm_ifN_ne (tgt := 25) hG dX12_pay_16 rfl (by omega) (fun _ => ?_) (fun q => absurd q (by omega))
      refine pm_aloadn hG dX12_pay_25 rfl ?_
      refine pm_iloadn hG dX12_pay_26 rfl ?_
      refine pm_top (v := nI k3) ek3 ?_
      rcases KI.opt hn (show kd (14 * k3 + 119) = (2, 2001, false) from (kd_P (k := k3) (c := 9) (by omega) (by omega) (by decide))) with ek7 | ⟨k7, hk7, ek7⟩
      · refine pm_callV (As := [.int (nI k3)]) (rest := []) hG hR dX12_pay_27 (lkX12_101 _ rfl) okV_X12_lives rfl rfl (m_lives1 (d := 1) (by decide) (by omega) (by omega : 14 * k3 + 119 = 14 * k3 + 119) ek7) rfl rfl hdd (Nat.le_refl _) (Nat.le_refl _) (by decide) (pm_ki (fun v8 σ' cnt' hq => ?_))
        obtain ⟨rfl, rfl, rfl⟩ := hq
        refine pm_ifN_ne (tgt := 39) hG dX12_pay_30 rfl (by omega) (fun _ => ?_) (fun q => absurd q (by omega))
        refine pm_aloadn hG dX12_pay_39 rfl ?_
        refine pm_getf hG dX12_pay_40 (flX12_7 _ rfl) rfl rfl ?_
        refine pm_bipush (v := nI 9) hG dX12_pay_43 (by decide) ?_
        refine pm_ialdN hG dX12_pay_45 rfl (by decide) (by omega) ?_
        refine pm_gen (fun x9 ex9 => ?_)
        refine pm_iloadn hG dX12_pay_46 rfl ?_
        refine pm_top (v := nI k6) ek6 ?_
        refine pm_icmp_ge (tgt := 56) hG dX12_pay_47 rfl (fun c10 => ?_) (fun c10 => ?_)
        · refine pm_aloadn hG dX12_pay_56 rfl ?_
          refine pm_getf hG dX12_pay_57 (flX12_7 _ rfl) rfl rfl ?_
          refine pm_bipush (v := nI 9) hG dX12_pay_60 (by decide) ?_
          refine pm_dup2 hG dX12_pay_62 rfl rfl ?_
          refine pm_ialdN hG dX12_pay_63 rfl (by decide) (by omega) ?_
          refine pm_top (v := x9) ex9 ?_
          refine pm_iloadn hG dX12_pay_64 rfl ?_
          refine pm_top (v := nI k6) ek6 ?_
          refine pm_isub hG dX12_pay_65 ?_
          refine pm_iastN hG dX12_pay_66 rfl (by decide) (by omega) ?_
          refine mdn_now (fun n_11 en_11 => ?_)
          have hnn_11 := KI.w en_11 hn (okv_f (show kd 9 = (0, 0, false) by decide))
          have hrn_11 := NRx.w en_11 hr (by rw [(show kd 9 = (0, 0, false) by decide)])
          have ksn_11 := KS.w en_11 KS.rf (by unfold tS; omega)
          have e12 : n_11 0 = nI kc0 := by rw [en_11, pk_un (by omega)]; exact ekc0
          have e13 : n_11 2 = nI kc2 := by rw [en_11, pk_un (by omega)]; exact ekc2
          have e14 : n_11 8 = nI kc8 := by rw [en_11, pk_un (by omega)]; exact ekc8
          have e15 : n_11 (14 * k3 + 119) = (-1) := by rw [en_11, pk_un (by omega)]; exact ek7
          have e16 : n_11 9 = x9 - (nI k6) := by rw [en_11, pk_us]
          refine pm_aloadn hG dX12_pay_67 rfl ?_
          refine pm_iloadn hG dX12_pay_68 rfl ?_
          refine pm_top (v := nI k3) ek3 ?_
          refine pm_bipush (v := nI 7) hG dX12_pay_69 (by decide) ?_
          refine pm_aloadn hG dX12_pay_71 rfl ?_
          refine pm_iloadn hG dX12_pay_72 rfl ?_
          refine pm_top (v := nI k3) ek3 ?_
          refine pm_bipush (v := nI 7) hG dX12_pay_73 (by decide) ?_
          refine pm_callV (As := [.int (nI k3), .int (nI 7)]) (rest := [.int (nI 7), .int (nI k3), .ref (B + 54)]) hG hR dX12_pay_75 (lkX12_72 _ rfl) okV_X12_man rfl rfl (m_man (d := 1) (e := 14 * k3 + 117) (by omega) (by omega) (by omega)) rfl rfl hdd (Nat.le_refl _) (Nat.le_refl _) (Nat.le_of_ble_eq_true rfl) (pm_ki (fun v17 σ' cnt' hq => ?_))
          obtain ⟨rfl, rfl, rfl⟩ := hq
          refine pm_gen (fun x18 ex18 => ?_)
          refine pm_iloadn hG dX12_pay_78 rfl ?_
          refine pm_top (v := nI k6) ek6 ?_
          refine pm_iadd hG dX12_pay_79 ?_
          refine pm_callV (As := [.int (nI k3), .int (nI 7), .int (x18 + (nI k6))]) (rest := []) hG hR dX12_pay_80 (lkX12_97 _ rfl) okV_X12_sets rfl rfl (m_sets (d := 1) (e := 14 * k3 + 117) (by omega) (by omega) (by omega)) rfl rfl hdd (Nat.le_refl _) (Nat.le_refl _) (by decide) (pm_kv (fun σ' cnt' hq => ?_))
          obtain ⟨rfl, rfl⟩ := hq
          obtain ⟨n_19, en_19⟩ : ∃ f : Nat → Int32, f = upd n_11 (14 * k3 + 117) (x18 + (nI k6)) := ⟨_, rfl⟩
          rw [← en_19]
          have hnn_19 := KI.w en_19 hnn_11 (okv_f (show kd (14 * k3 + 117) = (0, 0, false) from (kd_P (k := k3) (c := 7) (by omega) (by omega) (by decide))))
          have hrn_19 := NRx.w en_19 hrn_11 (by rw [(show kd (14 * k3 + 117) = (0, 0, false) from (kd_P (k := k3) (c := 7) (by omega) (by omega) (by decide)))])
          have ksn_19 := KS.w en_19 ksn_11 (by unfold tS; omega)
          have e20 : n_19 0 = nI kc0 := by rw [en_19, pk_un (by omega)]; exact e12
          have e21 : n_19 2 = nI kc2 := by rw [en_19, pk_un (by omega)]; exact e13
          have e22 : n_19 8 = nI kc8 := by rw [en_19, pk_un (by omega)]; exact e14
          have e23 : n_19 (14 * k3 + 119) = (-1) := by rw [en_19, pk_un (by omega)]; exact e15
          have e24 : n_19 9 = x9 - (nI k6) := by rw [en_19, pk_un (by omega)]; exact e16
          have e25 : n_19 (14 * k3 + 117) = x18 + (nI k6) := by rw [en_19, pk_us]
          refine pm_aloadn hG dX12_pay_83 rfl ?_
          refine pm_getf hG dX12_pay_84 (flX12_7 _ rfl) rfl rfl ?_
          refine pm_bipush (v := nI 9) hG dX12_pay_87 (by decide) ?_
          refine pm_ialdN hG dX12_pay_89 rfl (by decide) (by omega) ?_
          refine pm_top (v := x9 - (nI k6)) e24 ?_
          exact pm_iret hG hF dX12_pay_90 rfl (Nat.le_refl _) (Nat.le_refl _) ⟨_, rfl, ⟨_, _, _, rfl, hnn_19, hrn_19, e20.trans ekc0.symm, e21.trans ekc2.symm, e22.trans ekc8.symm, ksn_19⟩, rfl⟩
        · refine pm_aloadn hG dX12_pay_50 rfl ?_
          refine pm_iconst (v := nI 2) hG dX12_pay_51 (by decide) ?_
          refine pm_callV (As := [.int (nI 2)]) (rest := []) hG hR dX12_pay_52 (lkX12_80 _ rfl) okV_X12_finds rfl rfl (m_finds (d := 1) (by decide) hn hz (by omega)) rfl rfl hdd (Nat.le_refl _) (Nat.le_refl _) (by decide) (pm_ki (fun v26 σ' cnt' hq => ?_))
          obtain ⟨⟨I27, A27, rfl⟩, rfl, fv26⟩ := hq
          exact pm_iret hG hF dX12_pay_55 rfl (Nat.le_refl _) (Nat.le_refl _) ⟨_, rfl, ⟨_, _, _, rfl, hn, hr, ekc0.trans ekc0.symm, ekc2.trans ekc2.symm, ekc8.trans ekc8.symm, KS.rf⟩, rfl⟩
      · refine pm_callV (As := [.int (nI k3)]) (rest := []) hG hR dX12_pay_27 (lkX12_101 _ rfl) okV_X12_lives rfl rfl (m_lives0 (d := 1) (by decide) (by omega) (by omega : 14 * k3 + 119 = 14 * k3 + 119) ek7 (by omega)) rfl rfl hdd (Nat.le_refl _) (Nat.le_refl _) (by decide) (pm_ki (fun v28 σ' cnt' hq => ?_))
        obtain ⟨rfl, rfl, rfl⟩ := hq
        refine pm_ifN_ne (tgt := 39) hG dX12_pay_30 rfl (by omega) (fun q => absurd q (by omega)) (fun _ => ?_)
        refine pm_aloadn hG dX12_pay_33 rfl ?_
        refine pm_iconst (v := nI 3) hG dX12_pay_34 (by decide) ?_
        refine pm_callV (As := [.int (nI 3)]) (rest := []) hG hR dX12_pay_35 (lkX12_80 _ rfl) okV_X12_finds rfl rfl (m_finds (d := 1) (by decide) hn hz (by omega)) rfl rfl hdd (Nat.le_refl _) (Nat.le_refl _) (by decide) (pm_ki (fun v29 σ' cnt' hq => ?_))
        obtain ⟨⟨I30, A30, rfl⟩, rfl, fv29⟩ := hq
        exact pm_iret hG hF dX12_pay_38 rfl (Nat.le_refl _) (Nat.le_refl _) ⟨_, rfl, ⟨_, _, _, rfl, hn, hr, ekc0.trans ekc0.symm, ekc2.trans ekc2.symm, ekc8.trans ekc8.symm, KS.rf⟩, rfl⟩
    · refine pm_ifN_ne (tgt := 25) hG dX12_pay_16 rfl (by omega) (fun q => absurd q (by omega)) (fun _ => ?_)
      refine pm_aloadn hG dX12_pay_19 rfl ?_
      refine pm_iconst (v := nI 1) hG dX12_pay_20 (by decide) ?_
      refine pm_callV (As := [.int (nI 1)]) (rest := []) hG hR dX12_pay_21 (lkX12_80 _ rfl) okV_X12_finds rfl rfl (m_finds (d := 1) (by decide) hn hz (by omega)) rfl rfl hdd (Nat.le_refl _) (Nat.le_refl _) (by decide) (pm_ki (fun v31 σ' cnt' hq => ?_))
      obtain ⟨⟨I32, A32, rfl⟩, rfl, fv31⟩ := hq
      exact pm_iret hG hF dX12_pay_24 rfl (Nat.le_refl _) (Nat.le_refl _) ⟨_, rfl, ⟨_, _, _, rfl, hn, hr, ekc0.trans ekc0.symm, ekc2.trans ekc2.symm, ekc8.trans ekc8.symm, KS.rf⟩, rfl⟩
  · refine pm_ifN_eq (tgt := 19) hG dX12_pay_5 rfl (by omega) (fun _ => ?_) (fun q => absurd q (by omega))
    refine pm_aloadn hG dX12_pay_19 rfl ?_
    refine pm_iconst (v := nI 1) hG dX12_pay_20 (by decide) ?_
    refine pm_callV (As := [.int (nI 1)]) (rest := []) hG hR dX12_pay_21 (lkX12_80 _ rfl) okV_X12_finds rfl rfl (m_finds (d := 1) (by decide) hn hz (by omega)) rfl rfl hdd (Nat.le_refl _) (Nat.le_refl _) (by decide) (pm_ki (fun v33 σ' cnt' hq => ?_))
    obtain ⟨⟨I34, A34, rfl⟩, rfl, fv33⟩ := hq
    exact pm_iret hG hF dX12_pay_24 rfl (Nat.le_refl _) (Nat.le_refl _) ⟨_, rfl, ⟨_, _, _, rfl, hn, hr, ekc0.trans ekc0.symm, ekc2.trans ekc2.symm, ekc8.trans ekc8.symm, KS.rf⟩, rfl⟩

set_option maxRecDepth 100000 in
set_option maxHeartbeats 4000000 in
theorem m_person {d B cnt p0 t0 : Nat} {σ : pm_S} {I : Nat → Int32} {A : Nat → Nat → Int32} {n k z : Nat → Int32} {ac wt pl im : Int32} {za zb zc zd : Int32} (hdd : 3 ≤ d) (hn : KI n) (hr : NR n) (hz : SZ z)  : pm_met mX12_person d 0 0 B [.ref (B + 54), .int za, .int zb, .int zc, .int zd] cnt (pm_mid σ (md_L B I A n k z ac wt pl (nI p0) (nI t0) im)) (pm_Qi (fun v σ' cnt' => (∃ (I' : Nat → Int32) (A' : Nat → Nat → Int32) (n' : Nat → Int32), σ' = pm_mid σ (md_L B I' A' n' k z ac wt pl (nI p0) (nI t0) im) ∧ KI n' ∧ NR n' ∧ n' 0 = n 0 ∧ n' 8 = n 8 ∧ v = vE (pN n) (n 8) (n 0) (n 2) za zb zc zd ∧ n' 2 = pE (pN n) (n 8) (n 0) (n 2) za zb zc zd ∧ ∀ j : Nat, t7u (n' 2).toNatClampNeg j → mT n' j = TE (pN n) (n 8) (n 0) (n 2) za zb zc zd j) ∧ cnt = cnt')) := by
  obtain ⟨kc0, hkc0, ekc0⟩ := KI.nat hn (show kd 0 = (1, 11, true) by decide)
  obtain ⟨kc2, hkc2, ekc2⟩ := KI.nat hn (show kd 2 = (1, 21, true) by decide)
  obtain ⟨kc8, hkc8, ekc8⟩ := KI.nat hn (show kd 8 = (1, 2001, false) by decide)
  refine pm_enter 3 (by decide) (Nat.le_of_ble_eq_true rfl) rfl (fun G hG hR hF => ?_)
  refine pm_iloadn hG dX12_person_0 rfl ?_
  refine pm_iconst (v := nI 0) hG dX12_person_1 (by decide) ?_
  refine pm_iconst (v := nI 1) hG dX12_person_2 (by decide) ?_
  refine pm_callS (As := [.int za, .int (nI 0), .int (nI 1)]) (rest := []) hG hR dX12_person_3 (lkX12_68 _ rfl) okS_X12_in (m_in (d := 2)) rfl rfl hdd (Nat.le_refl _) (Nat.le_refl _) (by decide) (pm_ki (fun v1 σ' cnt' hq => ?_))
  obtain ⟨hq, rfl, rfl⟩ := hq
  rcases hq with ⟨rfl, ac2, bc2⟩ | ⟨rfl, c2⟩
  · obtain ⟨k3, hk3, ek3⟩ := in_nat (by omega) (by omega) ac2 bc2
    refine pm_ifN_eq (tgt := 73) hG dX12_person_6 rfl (by omega) (fun q => absurd q (by omega)) (fun _ => ?_)
    refine pm_iloadn hG dX12_person_9 rfl ?_
    refine pm_sipush (v := (-20000)) hG dX12_person_10 (by decide) ?_
    refine pm_aloadn hG dX12_person_13 rfl ?_
    refine pm_getf hG dX12_person_14 (flX12_7 _ rfl) rfl rfl ?_
    refine pm_bipush (v := nI 8) hG dX12_person_17 (by decide) ?_
    refine pm_ialdN hG dX12_person_19 rfl (by decide) (by omega) ?_
    refine pm_top (v := nI kc8) ekc8 ?_
    refine pm_callS (As := [.int zb, .int (-20000), .int (nI kc8)]) (rest := []) hG hR dX12_person_20 (lkX12_68 _ rfl) okS_X12_in (m_in (d := 2)) rfl rfl hdd (Nat.le_refl _) (Nat.le_refl _) (by decide) (pm_ki (fun v4 σ' cnt' hq => ?_))
    obtain ⟨hq, rfl, rfl⟩ := hq
    rcases hq with ⟨rfl, ac5, bc5⟩ | ⟨rfl, c5⟩
    · refine pm_ifN_eq (tgt := 73) hG dX12_person_23 rfl (by omega) (fun q => absurd q (by omega)) (fun _ => ?_)
      refine pm_iloadn hG dX12_person_26 rfl ?_
      refine pm_if_lt (tgt := 73) hG dX12_person_27 rfl (fun c6 => ?_) (fun c6 => ?_)
      · refine pm_iconst (v := nI 0) hG dX12_person_73 (by decide) ?_
        refine pm_istoreXi (loc' := [some (.ref (B + 54)), some (.int za), some (.int zb), some (.int zc), some (.int zd), some (.int (nI 0)), none, none]) hG dX12_person_74 (by decide) (pm_c1b rfl) rfl ?_
        refine pm_iloadi hG dX12_person_76 rfl ?_
        refine pm_ifN_ne (tgt := 87) hG dX12_person_78 rfl (by omega) (fun q => absurd q (by omega)) (fun _ => ?_)
        refine pm_aloadn hG dX12_person_81 rfl ?_
        refine pm_iconst (v := nI 1) hG dX12_person_82 (by decide) ?_
        refine pm_callV (As := [.int (nI 1)]) (rest := []) hG hR dX12_person_83 (lkX12_80 _ rfl) okV_X12_finds rfl rfl (m_finds (d := 2) (by decide) hn hz (by omega)) rfl rfl hdd (Nat.le_refl _) (Nat.le_refl _) (by decide) (pm_ki (fun v7 σ' cnt' hq => ?_))
        obtain ⟨⟨I8, A8, rfl⟩, rfl, fv7⟩ := hq
        exact pm_iret hG hF dX12_person_86 rfl (Nat.le_refl _) (Nat.le_refl _) ⟨_, rfl, ⟨_, _, _, rfl, hn, hr, ekc0.trans ekc0.symm, ekc8.trans ekc8.symm, ⟨fv7.trans ((by decide : (-1000000 : Int32) - nI 1 = -1000001).trans (vE_n (T := pN n) (d := n 8) (t := n 0) (p := n 2) (a := za) (b := zb) (c := zc) (e := zd) (Or.inr (Or.inr (Or.inl c6)))).1), (vE_n (T := pN n) (d := n 8) (t := n 0) (p := n 2) (a := za) (b := zb) (c := zc) (e := zd) (Or.inr (Or.inr (Or.inl c6)))).2.1, fun j _ => by rw [(vE_n (T := pN n) (d := n 8) (t := n 0) (p := n 2) (a := za) (b := zb) (c := zc) (e := zd) (Or.inr (Or.inr (Or.inl c6)))).2.2]⟩⟩, rfl⟩
      · obtain ⟨k9, hk9, ek9⟩ := nI_of c6
        refine pm_aloadn hG dX12_person_30 rfl ?_
        refine pm_iloadn hG dX12_person_31 rfl ?_
        refine pm_top (v := nI k9) ek9 ?_
        refine pm_bipush (v := nI 100) hG dX12_person_32 (by decide) ?_
        refine pm_idivN hG dX12_person_34 (by omega) (by decide) (by decide) ?_
        refine pm_iconst (v := nI 1) hG dX12_person_35 (by decide) ?_
        refine pm_isub hG dX12_person_36 ?_
        refine pm_iconst (v := nI 1) hG dX12_person_37 (by decide) ?_
        refine pm_iloadn hG dX12_person_38 rfl ?_
        refine pm_callV (As := [.int ((nI ((k9 / 100))) - (nI 1)), .int (nI 1), .int zb]) (rest := []) hG hR dX12_person_39 (lkX12_94 _ rfl) okV_X12_isParent rfl rfl (m_isParent (d := 2) (by decide) hn hz) rfl rfl hdd (Nat.le_refl _) (Nat.le_refl _) (by decide) (pm_ki (fun v10 σ' cnt' hq => ?_))
        obtain ⟨rfl, rfl, hq⟩ := hq
        rcases hq with ⟨rfl, pk11⟩ | ⟨rfl, pk11, ek11 | ⟨k11, hk11, ek11⟩⟩
        · refine pm_ifN_eq (tgt := 73) hG dX12_person_42 rfl (by omega) (fun _ => ?_) (fun q => absurd q (by omega))
          refine pm_iconst (v := nI 0) hG dX12_person_73 (by decide) ?_
          refine pm_istoreXi (loc' := [some (.ref (B + 54)), some (.int za), some (.int zb), some (.int zc), some (.int zd), some (.int (nI 0)), none, none]) hG dX12_person_74 (by decide) (pm_c1b rfl) rfl ?_
          refine pm_iloadi hG dX12_person_76 rfl ?_
          refine pm_ifN_ne (tgt := 87) hG dX12_person_78 rfl (by omega) (fun q => absurd q (by omega)) (fun _ => ?_)
          refine pm_aloadn hG dX12_person_81 rfl ?_
          refine pm_iconst (v := nI 1) hG dX12_person_82 (by decide) ?_
          refine pm_callV (As := [.int (nI 1)]) (rest := []) hG hR dX12_person_83 (lkX12_80 _ rfl) okV_X12_finds rfl rfl (m_finds (d := 2) (by decide) hn hz (by omega)) rfl rfl hdd (Nat.le_refl _) (Nat.le_refl _) (by decide) (pm_ki (fun v12 σ' cnt' hq => ?_))
          obtain ⟨⟨I13, A13, rfl⟩, rfl, fv12⟩ := hq
          exact pm_iret hG hF dX12_person_86 rfl (Nat.le_refl _) (Nat.le_refl _) ⟨_, rfl, ⟨_, _, _, rfl, hn, hr, ekc0.trans ekc0.symm, ekc8.trans ekc8.symm, ⟨fv12.trans ((by decide : (-1000000 : Int32) - nI 1 = -1000001).trans (vE_n (T := pN n) (d := n 8) (t := n 0) (p := n 2) (a := za) (b := zb) (c := zc) (e := zd) (Or.inr (Or.inr (Or.inr (Or.inr (Or.inl (by rw [dv1 ek9 (by omega)]; exact pk11))))))).1), (vE_n (T := pN n) (d := n 8) (t := n 0) (p := n 2) (a := za) (b := zb) (c := zc) (e := zd) (Or.inr (Or.inr (Or.inr (Or.inr (Or.inl (by rw [dv1 ek9 (by omega)]; exact pk11))))))).2.1, fun j _ => by rw [(vE_n (T := pN n) (d := n 8) (t := n 0) (p := n 2) (a := za) (b := zb) (c := zc) (e := zd) (Or.inr (Or.inr (Or.inr (Or.inr (Or.inl (by rw [dv1 ek9 (by omega)]; exact pk11))))))).2.2]⟩⟩, rfl⟩
        · refine pm_ifN_eq (tgt := 73) hG dX12_person_42 rfl (by omega) (fun q => absurd q (by omega)) (fun _ => ?_)
          refine pm_aloadn hG dX12_person_45 rfl ?_
          refine pm_iloadn hG dX12_person_46 rfl ?_
          refine pm_top (v := nI k9) ek9 ?_
          refine pm_bipush (v := nI 100) hG dX12_person_47 (by decide) ?_
          refine pm_iremM hG dX12_person_49 (by omega) (by decide) (by decide) ?_
          refine pm_iconst (v := nI 1) hG dX12_person_50 (by decide) ?_
          refine pm_isub hG dX12_person_51 ?_
          refine pm_iconst (v := nI 0) hG dX12_person_52 (by decide) ?_
          refine pm_iloadn hG dX12_person_53 rfl ?_
          refine pm_callV (As := [.int ((nI ((k9 % 100))) - (nI 1)), .int (nI 0), .int zb]) (rest := []) hG hR dX12_person_54 (lkX12_94 _ rfl) okV_X12_isParent rfl rfl (m_isParent (d := 2) (by decide) hn hz) rfl rfl hdd (Nat.le_refl _) (Nat.le_refl _) (by decide) (pm_ki (fun v14 σ' cnt' hq => ?_))
          obtain ⟨rfl, rfl, hq⟩ := hq
          rcases hq with ⟨rfl, pk15⟩ | ⟨rfl, pk15, ek15 | ⟨k15, hk15, ek15⟩⟩
          · refine pm_ifN_eq (tgt := 73) hG dX12_person_57 rfl (by omega) (fun _ => ?_) (fun q => absurd q (by omega))
            refine pm_iconst (v := nI 0) hG dX12_person_73 (by decide) ?_
            refine pm_istoreXi (loc' := [some (.ref (B + 54)), some (.int za), some (.int zb), some (.int zc), some (.int zd), some (.int (nI 0)), none, none]) hG dX12_person_74 (by decide) (pm_c1b rfl) rfl ?_
            refine pm_iloadi hG dX12_person_76 rfl ?_
            refine pm_ifN_ne (tgt := 87) hG dX12_person_78 rfl (by omega) (fun q => absurd q (by omega)) (fun _ => ?_)
            refine pm_aloadn hG dX12_person_81 rfl ?_
            refine pm_iconst (v := nI 1) hG dX12_person_82 (by decide) ?_
            refine pm_callV (As := [.int (nI 1)]) (rest := []) hG hR dX12_person_83 (lkX12_80 _ rfl) okV_X12_finds rfl rfl (m_finds (d := 2) (by decide) hn hz (by omega)) rfl rfl hdd (Nat.le_refl _) (Nat.le_refl _) (by decide) (pm_ki (fun v16 σ' cnt' hq => ?_))
            obtain ⟨⟨I17, A17, rfl⟩, rfl, fv16⟩ := hq
            exact pm_iret hG hF dX12_person_86 rfl (Nat.le_refl _) (Nat.le_refl _) ⟨_, rfl, ⟨_, _, _, rfl, hn, hr, ekc0.trans ekc0.symm, ekc8.trans ekc8.symm, ⟨fv16.trans ((by decide : (-1000000 : Int32) - nI 1 = -1000001).trans (vE_n (T := pN n) (d := n 8) (t := n 0) (p := n 2) (a := za) (b := zb) (c := zc) (e := zd) (Or.inr (Or.inr (Or.inr (Or.inr (Or.inr (by rw [rm1 ek9 (by omega)]; exact pk15))))))).1), (vE_n (T := pN n) (d := n 8) (t := n 0) (p := n 2) (a := za) (b := zb) (c := zc) (e := zd) (Or.inr (Or.inr (Or.inr (Or.inr (Or.inr (by rw [rm1 ek9 (by omega)]; exact pk15))))))).2.1, fun j _ => by rw [(vE_n (T := pN n) (d := n 8) (t := n 0) (p := n 2) (a := za) (b := zb) (c := zc) (e := zd) (Or.inr (Or.inr (Or.inr (Or.inr (Or.inr (by rw [rm1 ek9 (by omega)]; exact pk15))))))).2.2]⟩⟩, rfl⟩
          · refine pm_ifN_eq (tgt := 73) hG dX12_person_57 rfl (by omega) (fun q => absurd q (by omega)) (fun _ => ?_)
            refine pm_aloadn hG dX12_person_60 rfl ?_
            refine pm_iloadi hG dX12_person_61 rfl ?_
            refine pm_callV (As := [.int zd]) (rest := []) hG hR dX12_person_63 (lkX12_84 _ rfl) okV_X12_isTown rfl rfl (m_isTown (d := 2) (by decide) ekc0 (by omega)) rfl rfl hdd (Nat.le_refl _) (Nat.le_refl _) (by decide) (pm_ki (fun v18 σ' cnt' hq => ?_))
            obtain ⟨hq, rfl, rfl⟩ := hq
            rcases hq with ⟨rfl, k20, hk20, ek20⟩ | ⟨rfl, ntk20⟩
            · refine pm_ifN_eq (tgt := 73) hG dX12_person_66 rfl (by omega) (fun q => absurd q (by omega)) (fun _ => ?_)
              refine pm_iconst (v := nI 1) hG dX12_person_69 (by decide) ?_
              refine pm_goto (tgt := 74) hG dX12_person_70 rfl ?_
              refine pm_istoreXi (loc' := [some (.ref (B + 54)), some (.int za), some (.int zb), some (.int zc), some (.int zd), some (.int (nI 1)), none, none]) hG dX12_person_74 (by decide) (pm_c1b rfl) rfl ?_
              refine pm_iloadi hG dX12_person_76 rfl ?_
              refine pm_ifN_ne (tgt := 87) hG dX12_person_78 rfl (by omega) (fun _ => ?_) (fun q => absurd q (by omega))
              refine pm_aloadn hG dX12_person_87 rfl ?_
              refine pm_getf hG dX12_person_88 (flX12_7 _ rfl) rfl rfl ?_
              refine pm_iconst (v := nI 2) hG dX12_person_91 (by decide) ?_
              refine pm_ialdN hG dX12_person_92 rfl (by decide) (by omega) ?_
              refine pm_top (v := nI kc2) ekc2 ?_
              refine pm_istoreXi (loc' := [some (.ref (B + 54)), some (.int za), some (.int zb), some (.int zc), some (.int zd), some (.int (nI 1)), some (.int (nI kc2)), none]) hG dX12_person_93 (by decide) (pm_c1b rfl) rfl ?_
              refine pm_iloadi hG dX12_person_95 rfl ?_
              refine pm_bipush (v := nI 20) hG dX12_person_97 (by decide) ?_
              refine pm_icmpN_ne (tgt := 108) hG dX12_person_99 rfl (by omega) (by omega) (fun c21 => ?_) (fun c21 => ?_)
              · refine pm_aloadn hG dX12_person_108 rfl ?_
                refine pm_getf hG dX12_person_109 (flX12_7 _ rfl) rfl rfl ?_
                refine pm_iconst (v := nI 2) hG dX12_person_112 (by decide) ?_
                refine pm_dup2 hG dX12_person_113 rfl rfl ?_
                refine pm_ialdN hG dX12_person_114 rfl (by decide) (by omega) ?_
                refine pm_top (v := nI kc2) ekc2 ?_
                refine pm_iconst (v := nI 1) hG dX12_person_115 (by decide) ?_
                refine pm_iaddN (c := kc2 + 1) hG dX12_person_116 (by omega) ?_
                refine pm_iastN hG dX12_person_117 rfl (by decide) (by omega) ?_
                refine mdn_now (fun n_22 en_22 => ?_)
                have hnn_22 := KI.w en_22 hn (okv_n (show kd 2 = (1, 21, true) by decide) (by omega))
                have hrn_22 := NRx.pers en_22 hr ekc0 (by omega) ekc2 (by omega)
                have ksn_22 := KSh.w (h := 14 * kc2 + 110) en_22 KSh.rf (by unfold tS; omega)
                have e23 : n_22 0 = nI kc0 := by rw [en_22, pk_un (by omega)]; exact ekc0
                have e24 : n_22 8 = nI kc8 := by rw [en_22, pk_un (by omega)]; exact ekc8
                have e25 : n_22 2 = nI (kc2 + 1) := by rw [en_22, pk_us]
                refine pm_iconst (v := nI 0) hG dX12_person_118 (by decide) ?_
                refine pm_istoreXi (loc' := [some (.ref (B + 54)), some (.int za), some (.int zb), some (.int zc), some (.int zd), some (.int (nI 1)), some (.int (nI kc2)), some (.int (nI 0))]) hG dX12_person_119 (by decide) (pm_c1b rfl) rfl ?_
                refine pm_iloadi hG dX12_person_121 rfl ?_
                refine pm_bipush (v := nI 14) hG dX12_person_123 (by decide) ?_
                refine pm_icmpN_ge (tgt := 143) hG dX12_person_125 rfl (by omega) (by omega) (fun q => absurd q (by omega)) (fun _ => ?_)
                refine pm_aloadn hG dX12_person_128 rfl ?_
                refine pm_iloadi hG dX12_person_129 rfl ?_
                refine pm_iloadi hG dX12_person_131 rfl ?_
                refine pm_iconst (v := nI 0) hG dX12_person_133 (by decide) ?_
                refine pm_callV (As := [.int (nI kc2), .int (nI 0), .int (nI 0)]) (rest := []) hG hR dX12_person_134 (lkX12_97 _ rfl) okV_X12_sets rfl rfl (m_sets (d := 2) (e := 14 * kc2 + 110) (by omega) (by omega) (by omega)) rfl rfl hdd (Nat.le_refl _) (Nat.le_refl _) (by decide) (pm_kv (fun σ' cnt' hq => ?_))
                obtain ⟨rfl, rfl⟩ := hq
                obtain ⟨n_26, en_26⟩ : ∃ f : Nat → Int32, f = upd n_22 (14 * kc2 + 110) (nI 0) := ⟨_, rfl⟩
                rw [← en_26]
                have hnn_26 := KI.w en_26 hnn_22 (okv_f (show kd (14 * kc2 + 110) = (0, 0, false) from (kd_P (k := kc2) (c := 0) (by omega) (by omega) (by decide))))
                have hrn_26 := NRx.w en_26 hrn_22 (by rw [(show kd (14 * kc2 + 110) = (0, 0, false) from (kd_P (k := kc2) (c := 0) (by omega) (by omega) (by decide)))])
                have ksn_26 := KSh.w (h := 14 * kc2 + 110) en_26 ksn_22 (by unfold tS; omega)
                have e27 : n_26 0 = nI kc0 := by rw [en_26, pk_un (by omega)]; exact e23
                have e28 : n_26 8 = nI kc8 := by rw [en_26, pk_un (by omega)]; exact e24
                have e29 : n_26 2 = nI (kc2 + 1) := by rw [en_26, pk_un (by omega)]; exact e25
                have e30 : n_26 (14 * kc2 + 110) = nI 0 := by rw [en_26, pk_us]
                refine pm_iincX (v := nI 1) (loc' := [some (.ref (B + 54)), some (.int za), some (.int zb), some (.int zc), some (.int zd), some (.int (nI 1)), some (.int (nI kc2)), some (.int (nI 1))]) hG dX12_person_137 rfl (nI_1 _) (by decide) (pm_c1b rfl) rfl ?_
                refine pm_goto (tgt := 121) hG dX12_person_140 rfl ?_
                refine pm_iloadi hG dX12_person_121 rfl ?_
                refine pm_bipush (v := nI 14) hG dX12_person_123 (by decide) ?_
                refine pm_icmpN_ge (tgt := 143) hG dX12_person_125 rfl (by omega) (by omega) (fun q => absurd q (by omega)) (fun _ => ?_)
                refine pm_aloadn hG dX12_person_128 rfl ?_
                refine pm_iloadi hG dX12_person_129 rfl ?_
                refine pm_iloadi hG dX12_person_131 rfl ?_
                refine pm_iconst (v := nI 0) hG dX12_person_133 (by decide) ?_
                refine pm_callV (As := [.int (nI kc2), .int (nI 1), .int (nI 0)]) (rest := []) hG hR dX12_person_134 (lkX12_97 _ rfl) okV_X12_sets rfl rfl (m_sets (d := 2) (e := 14 * kc2 + 111) (by omega) (by omega) (by omega)) rfl rfl hdd (Nat.le_refl _) (Nat.le_refl _) (by decide) (pm_kv (fun σ' cnt' hq => ?_))
                obtain ⟨rfl, rfl⟩ := hq
                obtain ⟨n_31, en_31⟩ : ∃ f : Nat → Int32, f = upd n_26 (14 * kc2 + 111) (nI 0) := ⟨_, rfl⟩
                rw [← en_31]
                have hnn_31 := KI.w en_31 hnn_26 (okv_f (show kd (14 * kc2 + 111) = (0, 0, false) from (kd_P (k := kc2) (c := 1) (by omega) (by omega) (by decide))))
                have hrn_31 := NRx.w en_31 hrn_26 (by rw [(show kd (14 * kc2 + 111) = (0, 0, false) from (kd_P (k := kc2) (c := 1) (by omega) (by omega) (by decide)))])
                have ksn_31 := KSh.w (h := 14 * kc2 + 110) en_31 ksn_26 (by unfold tS; omega)
                have e32 : n_31 0 = nI kc0 := by rw [en_31, pk_un (by omega)]; exact e27
                have e33 : n_31 8 = nI kc8 := by rw [en_31, pk_un (by omega)]; exact e28
                have e34 : n_31 2 = nI (kc2 + 1) := by rw [en_31, pk_un (by omega)]; exact e29
                have e35 : n_31 (14 * kc2 + 110) = nI 0 := by rw [en_31, pk_un (by omega)]; exact e30
                have e36 : n_31 (14 * kc2 + 111) = nI 0 := by rw [en_31, pk_us]
                refine pm_iincX (v := nI 2) (loc' := [some (.ref (B + 54)), some (.int za), some (.int zb), some (.int zc), some (.int zd), some (.int (nI 1)), some (.int (nI kc2)), some (.int (nI 2))]) hG dX12_person_137 rfl (nI_1 _) (by decide) (pm_c1b rfl) rfl ?_
                refine pm_goto (tgt := 121) hG dX12_person_140 rfl ?_
                refine pm_iloadi hG dX12_person_121 rfl ?_
                refine pm_bipush (v := nI 14) hG dX12_person_123 (by decide) ?_
                refine pm_icmpN_ge (tgt := 143) hG dX12_person_125 rfl (by omega) (by omega) (fun q => absurd q (by omega)) (fun _ => ?_)
                refine pm_aloadn hG dX12_person_128 rfl ?_
                refine pm_iloadi hG dX12_person_129 rfl ?_
                refine pm_iloadi hG dX12_person_131 rfl ?_
                refine pm_iconst (v := nI 0) hG dX12_person_133 (by decide) ?_
                refine pm_callV (As := [.int (nI kc2), .int (nI 2), .int (nI 0)]) (rest := []) hG hR dX12_person_134 (lkX12_97 _ rfl) okV_X12_sets rfl rfl (m_sets (d := 2) (e := 14 * kc2 + 112) (by omega) (by omega) (by omega)) rfl rfl hdd (Nat.le_refl _) (Nat.le_refl _) (by decide) (pm_kv (fun σ' cnt' hq => ?_))
                obtain ⟨rfl, rfl⟩ := hq
                obtain ⟨n_37, en_37⟩ : ∃ f : Nat → Int32, f = upd n_31 (14 * kc2 + 112) (nI 0) := ⟨_, rfl⟩
                rw [← en_37]
                have hnn_37 := KI.w en_37 hnn_31 (okv_o (show kd (14 * kc2 + 112) = (2, 20, false) from (kd_P (k := kc2) (c := 2) (by omega) (by omega) (by decide))) (by omega))
                have hrn_37 := NRx.w en_37 hrn_31 (by rw [(show kd (14 * kc2 + 112) = (2, 20, false) from (kd_P (k := kc2) (c := 2) (by omega) (by omega) (by decide)))])
                have ksn_37 := KSh.w (h := 14 * kc2 + 110) en_37 ksn_31 (by unfold tS; omega)
                have e38 : n_37 0 = nI kc0 := by rw [en_37, pk_un (by omega)]; exact e32
                have e39 : n_37 8 = nI kc8 := by rw [en_37, pk_un (by omega)]; exact e33
                have e40 : n_37 2 = nI (kc2 + 1) := by rw [en_37, pk_un (by omega)]; exact e34
                have e41 : n_37 (14 * kc2 + 110) = nI 0 := by rw [en_37, pk_un (by omega)]; exact e35
                have e42 : n_37 (14 * kc2 + 111) = nI 0 := by rw [en_37, pk_un (by omega)]; exact e36
                have e43 : n_37 (14 * kc2 + 112) = nI 0 := by rw [en_37, pk_us]
                refine pm_iincX (v := nI 3) (loc' := [some (.ref (B + 54)), some (.int za), some (.int zb), some (.int zc), some (.int zd), some (.int (nI 1)), some (.int (nI kc2)), some (.int (nI 3))]) hG dX12_person_137 rfl (nI_1 _) (by decide) (pm_c1b rfl) rfl ?_
                refine pm_goto (tgt := 121) hG dX12_person_140 rfl ?_
                refine pm_iloadi hG dX12_person_121 rfl ?_
                refine pm_bipush (v := nI 14) hG dX12_person_123 (by decide) ?_
                refine pm_icmpN_ge (tgt := 143) hG dX12_person_125 rfl (by omega) (by omega) (fun q => absurd q (by omega)) (fun _ => ?_)
                refine pm_aloadn hG dX12_person_128 rfl ?_
                refine pm_iloadi hG dX12_person_129 rfl ?_
                refine pm_iloadi hG dX12_person_131 rfl ?_
                refine pm_iconst (v := nI 0) hG dX12_person_133 (by decide) ?_
                refine pm_callV (As := [.int (nI kc2), .int (nI 3), .int (nI 0)]) (rest := []) hG hR dX12_person_134 (lkX12_97 _ rfl) okV_X12_sets rfl rfl (m_sets (d := 2) (e := 14 * kc2 + 113) (by omega) (by omega) (by omega)) rfl rfl hdd (Nat.le_refl _) (Nat.le_refl _) (by decide) (pm_kv (fun σ' cnt' hq => ?_))
                obtain ⟨rfl, rfl⟩ := hq
                obtain ⟨n_44, en_44⟩ : ∃ f : Nat → Int32, f = upd n_37 (14 * kc2 + 113) (nI 0) := ⟨_, rfl⟩
                rw [← en_44]
                have hnn_44 := KI.w en_44 hnn_37 (okv_o (show kd (14 * kc2 + 113) = (2, 20, false) from (kd_P (k := kc2) (c := 3) (by omega) (by omega) (by decide))) (by omega))
                have hrn_44 := NRx.w en_44 hrn_37 (by rw [(show kd (14 * kc2 + 113) = (2, 20, false) from (kd_P (k := kc2) (c := 3) (by omega) (by omega) (by decide)))])
                have ksn_44 := KSh.w (h := 14 * kc2 + 110) en_44 ksn_37 (by unfold tS; omega)
                have e45 : n_44 0 = nI kc0 := by rw [en_44, pk_un (by omega)]; exact e38
                have e46 : n_44 8 = nI kc8 := by rw [en_44, pk_un (by omega)]; exact e39
                have e47 : n_44 2 = nI (kc2 + 1) := by rw [en_44, pk_un (by omega)]; exact e40
                have e48 : n_44 (14 * kc2 + 110) = nI 0 := by rw [en_44, pk_un (by omega)]; exact e41
                have e49 : n_44 (14 * kc2 + 111) = nI 0 := by rw [en_44, pk_un (by omega)]; exact e42
                have e50 : n_44 (14 * kc2 + 113) = nI 0 := by rw [en_44, pk_us]
                refine pm_iincX (v := nI 4) (loc' := [some (.ref (B + 54)), some (.int za), some (.int zb), some (.int zc), some (.int zd), some (.int (nI 1)), some (.int (nI kc2)), some (.int (nI 4))]) hG dX12_person_137 rfl (nI_1 _) (by decide) (pm_c1b rfl) rfl ?_
                refine pm_goto (tgt := 121) hG dX12_person_140 rfl ?_
                refine pm_iloadi hG dX12_person_121 rfl ?_
                refine pm_bipush (v := nI 14) hG dX12_person_123 (by decide) ?_
                refine pm_icmpN_ge (tgt := 143) hG dX12_person_125 rfl (by omega) (by omega) (fun q => absurd q (by omega)) (fun _ => ?_)
                refine pm_aloadn hG dX12_person_128 rfl ?_
                refine pm_iloadi hG dX12_person_129 rfl ?_
                refine pm_iloadi hG dX12_person_131 rfl ?_
                refine pm_iconst (v := nI 0) hG dX12_person_133 (by decide) ?_
                refine pm_callV (As := [.int (nI kc2), .int (nI 4), .int (nI 0)]) (rest := []) hG hR dX12_person_134 (lkX12_97 _ rfl) okV_X12_sets rfl rfl (m_sets (d := 2) (e := 14 * kc2 + 114) (by omega) (by omega) (by omega)) rfl rfl hdd (Nat.le_refl _) (Nat.le_refl _) (by decide) (pm_kv (fun σ' cnt' hq => ?_))
                obtain ⟨rfl, rfl⟩ := hq
                obtain ⟨n_51, en_51⟩ : ∃ f : Nat → Int32, f = upd n_44 (14 * kc2 + 114) (nI 0) := ⟨_, rfl⟩
                rw [← en_51]
                have hnn_51 := KI.w en_51 hnn_44 (okv_o (show kd (14 * kc2 + 114) = (2, 10, false) from (kd_P (k := kc2) (c := 4) (by omega) (by omega) (by decide))) (by omega))
                have hrn_51 := NRx.w en_51 hrn_44 (by rw [(show kd (14 * kc2 + 114) = (2, 10, false) from (kd_P (k := kc2) (c := 4) (by omega) (by omega) (by decide)))])
                have ksn_51 := KSh.w (h := 14 * kc2 + 110) en_51 ksn_44 (by unfold tS; omega)
                have e52 : n_51 0 = nI kc0 := by rw [en_51, pk_un (by omega)]; exact e45
                have e53 : n_51 8 = nI kc8 := by rw [en_51, pk_un (by omega)]; exact e46
                have e54 : n_51 2 = nI (kc2 + 1) := by rw [en_51, pk_un (by omega)]; exact e47
                have e55 : n_51 (14 * kc2 + 110) = nI 0 := by rw [en_51, pk_un (by omega)]; exact e48
                have e56 : n_51 (14 * kc2 + 111) = nI 0 := by rw [en_51, pk_un (by omega)]; exact e49
                have e57 : n_51 (14 * kc2 + 114) = nI 0 := by rw [en_51, pk_us]
                refine pm_iincX (v := nI 5) (loc' := [some (.ref (B + 54)), some (.int za), some (.int zb), some (.int zc), some (.int zd), some (.int (nI 1)), some (.int (nI kc2)), some (.int (nI 5))]) hG dX12_person_137 rfl (nI_1 _) (by decide) (pm_c1b rfl) rfl ?_
                refine pm_goto (tgt := 121) hG dX12_person_140 rfl ?_
                refine pm_iloadi hG dX12_person_121 rfl ?_
                refine pm_bipush (v := nI 14) hG dX12_person_123 (by decide) ?_
                refine pm_icmpN_ge (tgt := 143) hG dX12_person_125 rfl (by omega) (by omega) (fun q => absurd q (by omega)) (fun _ => ?_)
                refine pm_aloadn hG dX12_person_128 rfl ?_
                refine pm_iloadi hG dX12_person_129 rfl ?_
                refine pm_iloadi hG dX12_person_131 rfl ?_
                refine pm_iconst (v := nI 0) hG dX12_person_133 (by decide) ?_
                refine pm_callV (As := [.int (nI kc2), .int (nI 5), .int (nI 0)]) (rest := []) hG hR dX12_person_134 (lkX12_97 _ rfl) okV_X12_sets rfl rfl (m_sets (d := 2) (e := 14 * kc2 + 115) (by omega) (by omega) (by omega)) rfl rfl hdd (Nat.le_refl _) (Nat.le_refl _) (by decide) (pm_kv (fun σ' cnt' hq => ?_))
                obtain ⟨rfl, rfl⟩ := hq
                obtain ⟨n_58, en_58⟩ : ∃ f : Nat → Int32, f = upd n_51 (14 * kc2 + 115) (nI 0) := ⟨_, rfl⟩
                rw [← en_58]
                have hnn_58 := KI.w en_58 hnn_51 (okv_n (show kd (14 * kc2 + 115) = (1, 10, false) from (kd_P (k := kc2) (c := 5) (by omega) (by omega) (by decide))) (by omega))
                have hrn_58 := NRx.w en_58 hrn_51 (by rw [(show kd (14 * kc2 + 115) = (1, 10, false) from (kd_P (k := kc2) (c := 5) (by omega) (by omega) (by decide)))])
                have ksn_58 := KSh.w (h := 14 * kc2 + 110) en_58 ksn_51 (by unfold tS; omega)
                have e59 : n_58 0 = nI kc0 := by rw [en_58, pk_un (by omega)]; exact e52
                have e60 : n_58 8 = nI kc8 := by rw [en_58, pk_un (by omega)]; exact e53
                have e61 : n_58 2 = nI (kc2 + 1) := by rw [en_58, pk_un (by omega)]; exact e54
                have e62 : n_58 (14 * kc2 + 110) = nI 0 := by rw [en_58, pk_un (by omega)]; exact e55
                have e63 : n_58 (14 * kc2 + 111) = nI 0 := by rw [en_58, pk_un (by omega)]; exact e56
                have e64 : n_58 (14 * kc2 + 115) = nI 0 := by rw [en_58, pk_us]
                refine pm_iincX (v := nI 6) (loc' := [some (.ref (B + 54)), some (.int za), some (.int zb), some (.int zc), some (.int zd), some (.int (nI 1)), some (.int (nI kc2)), some (.int (nI 6))]) hG dX12_person_137 rfl (nI_1 _) (by decide) (pm_c1b rfl) rfl ?_
                refine pm_goto (tgt := 121) hG dX12_person_140 rfl ?_
                refine pm_iloadi hG dX12_person_121 rfl ?_
                refine pm_bipush (v := nI 14) hG dX12_person_123 (by decide) ?_
                refine pm_icmpN_ge (tgt := 143) hG dX12_person_125 rfl (by omega) (by omega) (fun q => absurd q (by omega)) (fun _ => ?_)
                refine pm_aloadn hG dX12_person_128 rfl ?_
                refine pm_iloadi hG dX12_person_129 rfl ?_
                refine pm_iloadi hG dX12_person_131 rfl ?_
                refine pm_iconst (v := nI 0) hG dX12_person_133 (by decide) ?_
                refine pm_callV (As := [.int (nI kc2), .int (nI 6), .int (nI 0)]) (rest := []) hG hR dX12_person_134 (lkX12_97 _ rfl) okV_X12_sets rfl rfl (m_sets (d := 2) (e := 14 * kc2 + 116) (by omega) (by omega) (by omega)) rfl rfl hdd (Nat.le_refl _) (Nat.le_refl _) (by decide) (pm_kv (fun σ' cnt' hq => ?_))
                obtain ⟨rfl, rfl⟩ := hq
                obtain ⟨n_65, en_65⟩ : ∃ f : Nat → Int32, f = upd n_58 (14 * kc2 + 116) (nI 0) := ⟨_, rfl⟩
                rw [← en_65]
                have hnn_65 := KI.w en_65 hnn_58 (okv_f (show kd (14 * kc2 + 116) = (0, 0, false) from (kd_P (k := kc2) (c := 6) (by omega) (by omega) (by decide))))
                have hrn_65 := NRx.w en_65 hrn_58 (by rw [(show kd (14 * kc2 + 116) = (0, 0, false) from (kd_P (k := kc2) (c := 6) (by omega) (by omega) (by decide)))])
                have ksn_65 := KSh.w (h := 14 * kc2 + 110) en_65 ksn_58 (by unfold tS; omega)
                have e66 : n_65 0 = nI kc0 := by rw [en_65, pk_un (by omega)]; exact e59
                have e67 : n_65 8 = nI kc8 := by rw [en_65, pk_un (by omega)]; exact e60
                have e68 : n_65 2 = nI (kc2 + 1) := by rw [en_65, pk_un (by omega)]; exact e61
                have e69 : n_65 (14 * kc2 + 110) = nI 0 := by rw [en_65, pk_un (by omega)]; exact e62
                have e70 : n_65 (14 * kc2 + 111) = nI 0 := by rw [en_65, pk_un (by omega)]; exact e63
                have e71 : n_65 (14 * kc2 + 116) = nI 0 := by rw [en_65, pk_us]
                refine pm_iincX (v := nI 7) (loc' := [some (.ref (B + 54)), some (.int za), some (.int zb), some (.int zc), some (.int zd), some (.int (nI 1)), some (.int (nI kc2)), some (.int (nI 7))]) hG dX12_person_137 rfl (nI_1 _) (by decide) (pm_c1b rfl) rfl ?_
                refine pm_goto (tgt := 121) hG dX12_person_140 rfl ?_
                refine pm_iloadi hG dX12_person_121 rfl ?_
                refine pm_bipush (v := nI 14) hG dX12_person_123 (by decide) ?_
                refine pm_icmpN_ge (tgt := 143) hG dX12_person_125 rfl (by omega) (by omega) (fun q => absurd q (by omega)) (fun _ => ?_)
                refine pm_aloadn hG dX12_person_128 rfl ?_
                refine pm_iloadi hG dX12_person_129 rfl ?_
                refine pm_iloadi hG dX12_person_131 rfl ?_
                refine pm_iconst (v := nI 0) hG dX12_person_133 (by decide) ?_
                refine pm_callV (As := [.int (nI kc2), .int (nI 7), .int (nI 0)]) (rest := []) hG hR dX12_person_134 (lkX12_97 _ rfl) okV_X12_sets rfl rfl (m_sets (d := 2) (e := 14 * kc2 + 117) (by omega) (by omega) (by omega)) rfl rfl hdd (Nat.le_refl _) (Nat.le_refl _) (by decide) (pm_kv (fun σ' cnt' hq => ?_))
                obtain ⟨rfl, rfl⟩ := hq
                obtain ⟨n_72, en_72⟩ : ∃ f : Nat → Int32, f = upd n_65 (14 * kc2 + 117) (nI 0) := ⟨_, rfl⟩
                rw [← en_72]
                have hnn_72 := KI.w en_72 hnn_65 (okv_f (show kd (14 * kc2 + 117) = (0, 0, false) from (kd_P (k := kc2) (c := 7) (by omega) (by omega) (by decide))))
                have hrn_72 := NRx.w en_72 hrn_65 (by rw [(show kd (14 * kc2 + 117) = (0, 0, false) from (kd_P (k := kc2) (c := 7) (by omega) (by omega) (by decide)))])
                have ksn_72 := KSh.w (h := 14 * kc2 + 110) en_72 ksn_65 (by unfold tS; omega)
                have e73 : n_72 0 = nI kc0 := by rw [en_72, pk_un (by omega)]; exact e66
                have e74 : n_72 8 = nI kc8 := by rw [en_72, pk_un (by omega)]; exact e67
                have e75 : n_72 2 = nI (kc2 + 1) := by rw [en_72, pk_un (by omega)]; exact e68
                have e76 : n_72 (14 * kc2 + 110) = nI 0 := by rw [en_72, pk_un (by omega)]; exact e69
                have e77 : n_72 (14 * kc2 + 111) = nI 0 := by rw [en_72, pk_un (by omega)]; exact e70
                have e78 : n_72 (14 * kc2 + 117) = nI 0 := by rw [en_72, pk_us]
                refine pm_iincX (v := nI 8) (loc' := [some (.ref (B + 54)), some (.int za), some (.int zb), some (.int zc), some (.int zd), some (.int (nI 1)), some (.int (nI kc2)), some (.int (nI 8))]) hG dX12_person_137 rfl (nI_1 _) (by decide) (pm_c1b rfl) rfl ?_
                refine pm_goto (tgt := 121) hG dX12_person_140 rfl ?_
                refine pm_iloadi hG dX12_person_121 rfl ?_
                refine pm_bipush (v := nI 14) hG dX12_person_123 (by decide) ?_
                refine pm_icmpN_ge (tgt := 143) hG dX12_person_125 rfl (by omega) (by omega) (fun q => absurd q (by omega)) (fun _ => ?_)
                refine pm_aloadn hG dX12_person_128 rfl ?_
                refine pm_iloadi hG dX12_person_129 rfl ?_
                refine pm_iloadi hG dX12_person_131 rfl ?_
                refine pm_iconst (v := nI 0) hG dX12_person_133 (by decide) ?_
                refine pm_callV (As := [.int (nI kc2), .int (nI 8), .int (nI 0)]) (rest := []) hG hR dX12_person_134 (lkX12_97 _ rfl) okV_X12_sets rfl rfl (m_sets (d := 2) (e := 14 * kc2 + 118) (by omega) (by omega) (by omega)) rfl rfl hdd (Nat.le_refl _) (Nat.le_refl _) (by decide) (pm_kv (fun σ' cnt' hq => ?_))
                obtain ⟨rfl, rfl⟩ := hq
                obtain ⟨n_79, en_79⟩ : ∃ f : Nat → Int32, f = upd n_72 (14 * kc2 + 118) (nI 0) := ⟨_, rfl⟩
                rw [← en_79]
                have hnn_79 := KI.w en_79 hnn_72 (okv_f (show kd (14 * kc2 + 118) = (0, 0, false) from (kd_P (k := kc2) (c := 8) (by omega) (by omega) (by decide))))
                have hrn_79 := NRx.w en_79 hrn_72 (by rw [(show kd (14 * kc2 + 118) = (0, 0, false) from (kd_P (k := kc2) (c := 8) (by omega) (by omega) (by decide)))])
                have ksn_79 := KSh.w (h := 14 * kc2 + 110) en_79 ksn_72 (by unfold tS; omega)
                have e80 : n_79 0 = nI kc0 := by rw [en_79, pk_un (by omega)]; exact e73
                have e81 : n_79 8 = nI kc8 := by rw [en_79, pk_un (by omega)]; exact e74
                have e82 : n_79 2 = nI (kc2 + 1) := by rw [en_79, pk_un (by omega)]; exact e75
                have e83 : n_79 (14 * kc2 + 110) = nI 0 := by rw [en_79, pk_un (by omega)]; exact e76
                have e84 : n_79 (14 * kc2 + 111) = nI 0 := by rw [en_79, pk_un (by omega)]; exact e77
                have e85 : n_79 (14 * kc2 + 118) = nI 0 := by rw [en_79, pk_us]
                refine pm_iincX (v := nI 9) (loc' := [some (.ref (B + 54)), some (.int za), some (.int zb), some (.int zc), some (.int zd), some (.int (nI 1)), some (.int (nI kc2)), some (.int (nI 9))]) hG dX12_person_137 rfl (nI_1 _) (by decide) (pm_c1b rfl) rfl ?_
                refine pm_goto (tgt := 121) hG dX12_person_140 rfl ?_
                refine pm_iloadi hG dX12_person_121 rfl ?_
                refine pm_bipush (v := nI 14) hG dX12_person_123 (by decide) ?_
                refine pm_icmpN_ge (tgt := 143) hG dX12_person_125 rfl (by omega) (by omega) (fun q => absurd q (by omega)) (fun _ => ?_)
                refine pm_aloadn hG dX12_person_128 rfl ?_
                refine pm_iloadi hG dX12_person_129 rfl ?_
                refine pm_iloadi hG dX12_person_131 rfl ?_
                refine pm_iconst (v := nI 0) hG dX12_person_133 (by decide) ?_
                refine pm_callV (As := [.int (nI kc2), .int (nI 9), .int (nI 0)]) (rest := []) hG hR dX12_person_134 (lkX12_97 _ rfl) okV_X12_sets rfl rfl (m_sets (d := 2) (e := 14 * kc2 + 119) (by omega) (by omega) (by omega)) rfl rfl hdd (Nat.le_refl _) (Nat.le_refl _) (by decide) (pm_kv (fun σ' cnt' hq => ?_))
                obtain ⟨rfl, rfl⟩ := hq
                obtain ⟨n_86, en_86⟩ : ∃ f : Nat → Int32, f = upd n_79 (14 * kc2 + 119) (nI 0) := ⟨_, rfl⟩
                rw [← en_86]
                have hnn_86 := KI.w en_86 hnn_79 (okv_o (show kd (14 * kc2 + 119) = (2, 2001, false) from (kd_P (k := kc2) (c := 9) (by omega) (by omega) (by decide))) (by omega))
                have hrn_86 := NRx.w en_86 hrn_79 (by rw [(show kd (14 * kc2 + 119) = (2, 2001, false) from (kd_P (k := kc2) (c := 9) (by omega) (by omega) (by decide)))])
                have ksn_86 := KSh.w (h := 14 * kc2 + 110) en_86 ksn_79 (by unfold tS; omega)
                have e87 : n_86 0 = nI kc0 := by rw [en_86, pk_un (by omega)]; exact e80
                have e88 : n_86 8 = nI kc8 := by rw [en_86, pk_un (by omega)]; exact e81
                have e89 : n_86 2 = nI (kc2 + 1) := by rw [en_86, pk_un (by omega)]; exact e82
                have e90 : n_86 (14 * kc2 + 110) = nI 0 := by rw [en_86, pk_un (by omega)]; exact e83
                have e91 : n_86 (14 * kc2 + 111) = nI 0 := by rw [en_86, pk_un (by omega)]; exact e84
                have e92 : n_86 (14 * kc2 + 119) = nI 0 := by rw [en_86, pk_us]
                refine pm_iincX (v := nI 10) (loc' := [some (.ref (B + 54)), some (.int za), some (.int zb), some (.int zc), some (.int zd), some (.int (nI 1)), some (.int (nI kc2)), some (.int (nI 10))]) hG dX12_person_137 rfl (nI_1 _) (by decide) (pm_c1b rfl) rfl ?_
                refine pm_goto (tgt := 121) hG dX12_person_140 rfl ?_
                refine pm_iloadi hG dX12_person_121 rfl ?_
                refine pm_bipush (v := nI 14) hG dX12_person_123 (by decide) ?_
                refine pm_icmpN_ge (tgt := 143) hG dX12_person_125 rfl (by omega) (by omega) (fun q => absurd q (by omega)) (fun _ => ?_)
                refine pm_aloadn hG dX12_person_128 rfl ?_
                refine pm_iloadi hG dX12_person_129 rfl ?_
                refine pm_iloadi hG dX12_person_131 rfl ?_
                refine pm_iconst (v := nI 0) hG dX12_person_133 (by decide) ?_
                refine pm_callV (As := [.int (nI kc2), .int (nI 10), .int (nI 0)]) (rest := []) hG hR dX12_person_134 (lkX12_97 _ rfl) okV_X12_sets rfl rfl (m_sets (d := 2) (e := 14 * kc2 + 120) (by omega) (by omega) (by omega)) rfl rfl hdd (Nat.le_refl _) (Nat.le_refl _) (by decide) (pm_kv (fun σ' cnt' hq => ?_))
                obtain ⟨rfl, rfl⟩ := hq
                obtain ⟨n_93, en_93⟩ : ∃ f : Nat → Int32, f = upd n_86 (14 * kc2 + 120) (nI 0) := ⟨_, rfl⟩
                rw [← en_93]
                have hnn_93 := KI.w en_93 hnn_86 (okv_f (show kd (14 * kc2 + 120) = (0, 0, false) from (kd_P (k := kc2) (c := 10) (by omega) (by omega) (by decide))))
                have hrn_93 := NRx.w en_93 hrn_86 (by rw [(show kd (14 * kc2 + 120) = (0, 0, false) from (kd_P (k := kc2) (c := 10) (by omega) (by omega) (by decide)))])
                have ksn_93 := KSh.w (h := 14 * kc2 + 110) en_93 ksn_86 (by unfold tS; omega)
                have e94 : n_93 0 = nI kc0 := by rw [en_93, pk_un (by omega)]; exact e87
                have e95 : n_93 8 = nI kc8 := by rw [en_93, pk_un (by omega)]; exact e88
                have e96 : n_93 2 = nI (kc2 + 1) := by rw [en_93, pk_un (by omega)]; exact e89
                have e97 : n_93 (14 * kc2 + 110) = nI 0 := by rw [en_93, pk_un (by omega)]; exact e90
                have e98 : n_93 (14 * kc2 + 111) = nI 0 := by rw [en_93, pk_un (by omega)]; exact e91
                have e99 : n_93 (14 * kc2 + 119) = nI 0 := by rw [en_93, pk_un (by omega)]; exact e92
                have e100 : n_93 (14 * kc2 + 120) = nI 0 := by rw [en_93, pk_us]
                refine pm_iincX (v := nI 11) (loc' := [some (.ref (B + 54)), some (.int za), some (.int zb), some (.int zc), some (.int zd), some (.int (nI 1)), some (.int (nI kc2)), some (.int (nI 11))]) hG dX12_person_137 rfl (nI_1 _) (by decide) (pm_c1b rfl) rfl ?_
                refine pm_goto (tgt := 121) hG dX12_person_140 rfl ?_
                refine pm_iloadi hG dX12_person_121 rfl ?_
                refine pm_bipush (v := nI 14) hG dX12_person_123 (by decide) ?_
                refine pm_icmpN_ge (tgt := 143) hG dX12_person_125 rfl (by omega) (by omega) (fun q => absurd q (by omega)) (fun _ => ?_)
                refine pm_aloadn hG dX12_person_128 rfl ?_
                refine pm_iloadi hG dX12_person_129 rfl ?_
                refine pm_iloadi hG dX12_person_131 rfl ?_
                refine pm_iconst (v := nI 0) hG dX12_person_133 (by decide) ?_
                refine pm_callV (As := [.int (nI kc2), .int (nI 11), .int (nI 0)]) (rest := []) hG hR dX12_person_134 (lkX12_97 _ rfl) okV_X12_sets rfl rfl (m_sets (d := 2) (e := 14 * kc2 + 121) (by omega) (by omega) (by omega)) rfl rfl hdd (Nat.le_refl _) (Nat.le_refl _) (by decide) (pm_kv (fun σ' cnt' hq => ?_))
                obtain ⟨rfl, rfl⟩ := hq
                obtain ⟨n_101, en_101⟩ : ∃ f : Nat → Int32, f = upd n_93 (14 * kc2 + 121) (nI 0) := ⟨_, rfl⟩
                rw [← en_101]
                have hnn_101 := KI.w en_101 hnn_93 (okv_n (show kd (14 * kc2 + 121) = (1, 2, true) from (kd_P (k := kc2) (c := 11) (by omega) (by omega) (by decide))) (by omega))
                have hrn_101 := NRx.unseat (p := kc2) en_101 hrn_93 (by omega)
                have ksn_101 := KSh.w (h := 14 * kc2 + 110) en_101 ksn_93 (by unfold tS; omega)
                have e102 : n_101 0 = nI kc0 := by rw [en_101, pk_un (by omega)]; exact e94
                have e103 : n_101 8 = nI kc8 := by rw [en_101, pk_un (by omega)]; exact e95
                have e104 : n_101 2 = nI (kc2 + 1) := by rw [en_101, pk_un (by omega)]; exact e96
                have e105 : n_101 (14 * kc2 + 110) = nI 0 := by rw [en_101, pk_un (by omega)]; exact e97
                have e106 : n_101 (14 * kc2 + 111) = nI 0 := by rw [en_101, pk_un (by omega)]; exact e98
                have e107 : n_101 (14 * kc2 + 119) = nI 0 := by rw [en_101, pk_un (by omega)]; exact e99
                have e108 : n_101 (14 * kc2 + 121) = nI 0 := by rw [en_101, pk_us]
                refine pm_iincX (v := nI 12) (loc' := [some (.ref (B + 54)), some (.int za), some (.int zb), some (.int zc), some (.int zd), some (.int (nI 1)), some (.int (nI kc2)), some (.int (nI 12))]) hG dX12_person_137 rfl (nI_1 _) (by decide) (pm_c1b rfl) rfl ?_
                refine pm_goto (tgt := 121) hG dX12_person_140 rfl ?_
                refine pm_iloadi hG dX12_person_121 rfl ?_
                refine pm_bipush (v := nI 14) hG dX12_person_123 (by decide) ?_
                refine pm_icmpN_ge (tgt := 143) hG dX12_person_125 rfl (by omega) (by omega) (fun q => absurd q (by omega)) (fun _ => ?_)
                refine pm_aloadn hG dX12_person_128 rfl ?_
                refine pm_iloadi hG dX12_person_129 rfl ?_
                refine pm_iloadi hG dX12_person_131 rfl ?_
                refine pm_iconst (v := nI 0) hG dX12_person_133 (by decide) ?_
                refine pm_callV (As := [.int (nI kc2), .int (nI 12), .int (nI 0)]) (rest := []) hG hR dX12_person_134 (lkX12_97 _ rfl) okV_X12_sets rfl rfl (m_sets (d := 2) (e := 14 * kc2 + 122) (by omega) (by omega) (by omega)) rfl rfl hdd (Nat.le_refl _) (Nat.le_refl _) (by decide) (pm_kv (fun σ' cnt' hq => ?_))
                obtain ⟨rfl, rfl⟩ := hq
                obtain ⟨n_109, en_109⟩ : ∃ f : Nat → Int32, f = upd n_101 (14 * kc2 + 122) (nI 0) := ⟨_, rfl⟩
                rw [← en_109]
                have hnn_109 := KI.w en_109 hnn_101 (okv_f (show kd (14 * kc2 + 122) = (0, 0, false) from (kd_P (k := kc2) (c := 12) (by omega) (by omega) (by decide))))
                have hrn_109 := NRx.w en_109 hrn_101 (by rw [(show kd (14 * kc2 + 122) = (0, 0, false) from (kd_P (k := kc2) (c := 12) (by omega) (by omega) (by decide)))])
                have ksn_109 := KSh.w (h := 14 * kc2 + 110) en_109 ksn_101 (by unfold tS; omega)
                have e110 : n_109 0 = nI kc0 := by rw [en_109, pk_un (by omega)]; exact e102
                have e111 : n_109 8 = nI kc8 := by rw [en_109, pk_un (by omega)]; exact e103
                have e112 : n_109 2 = nI (kc2 + 1) := by rw [en_109, pk_un (by omega)]; exact e104
                have e113 : n_109 (14 * kc2 + 110) = nI 0 := by rw [en_109, pk_un (by omega)]; exact e105
                have e114 : n_109 (14 * kc2 + 111) = nI 0 := by rw [en_109, pk_un (by omega)]; exact e106
                have e115 : n_109 (14 * kc2 + 119) = nI 0 := by rw [en_109, pk_un (by omega)]; exact e107
                have e116 : n_109 (14 * kc2 + 121) = nI 0 := by rw [en_109, pk_un (by omega)]; exact e108
                have e117 : n_109 (14 * kc2 + 122) = nI 0 := by rw [en_109, pk_us]
                refine pm_iincX (v := nI 13) (loc' := [some (.ref (B + 54)), some (.int za), some (.int zb), some (.int zc), some (.int zd), some (.int (nI 1)), some (.int (nI kc2)), some (.int (nI 13))]) hG dX12_person_137 rfl (nI_1 _) (by decide) (pm_c1b rfl) rfl ?_
                refine pm_goto (tgt := 121) hG dX12_person_140 rfl ?_
                refine pm_iloadi hG dX12_person_121 rfl ?_
                refine pm_bipush (v := nI 14) hG dX12_person_123 (by decide) ?_
                refine pm_icmpN_ge (tgt := 143) hG dX12_person_125 rfl (by omega) (by omega) (fun q => absurd q (by omega)) (fun _ => ?_)
                refine pm_aloadn hG dX12_person_128 rfl ?_
                refine pm_iloadi hG dX12_person_129 rfl ?_
                refine pm_iloadi hG dX12_person_131 rfl ?_
                refine pm_iconst (v := nI 0) hG dX12_person_133 (by decide) ?_
                refine pm_callV (As := [.int (nI kc2), .int (nI 13), .int (nI 0)]) (rest := []) hG hR dX12_person_134 (lkX12_97 _ rfl) okV_X12_sets rfl rfl (m_sets (d := 2) (e := 14 * kc2 + 123) (by omega) (by omega) (by omega)) rfl rfl hdd (Nat.le_refl _) (Nat.le_refl _) (by decide) (pm_kv (fun σ' cnt' hq => ?_))
                obtain ⟨rfl, rfl⟩ := hq
                obtain ⟨n_118, en_118⟩ : ∃ f : Nat → Int32, f = upd n_109 (14 * kc2 + 123) (nI 0) := ⟨_, rfl⟩
                rw [← en_118]
                have hnn_118 := KI.w en_118 hnn_109 (okv_f (show kd (14 * kc2 + 123) = (0, 0, false) from (kd_P (k := kc2) (c := 13) (by omega) (by omega) (by decide))))
                have hrn_118 := NRx.w en_118 hrn_109 (by rw [(show kd (14 * kc2 + 123) = (0, 0, false) from (kd_P (k := kc2) (c := 13) (by omega) (by omega) (by decide)))])
                have ksn_118 := KSh.w (h := 14 * kc2 + 110) en_118 ksn_109 (by unfold tS; omega)
                have e119 : n_118 0 = nI kc0 := by rw [en_118, pk_un (by omega)]; exact e110
                have e120 : n_118 8 = nI kc8 := by rw [en_118, pk_un (by omega)]; exact e111
                have e121 : n_118 2 = nI (kc2 + 1) := by rw [en_118, pk_un (by omega)]; exact e112
                have e122 : n_118 (14 * kc2 + 110) = nI 0 := by rw [en_118, pk_un (by omega)]; exact e113
                have e123 : n_118 (14 * kc2 + 111) = nI 0 := by rw [en_118, pk_un (by omega)]; exact e114
                have e124 : n_118 (14 * kc2 + 119) = nI 0 := by rw [en_118, pk_un (by omega)]; exact e115
                have e125 : n_118 (14 * kc2 + 121) = nI 0 := by rw [en_118, pk_un (by omega)]; exact e116
                have e126 : n_118 (14 * kc2 + 123) = nI 0 := by rw [en_118, pk_us]
                refine pm_iincX (v := nI 14) (loc' := [some (.ref (B + 54)), some (.int za), some (.int zb), some (.int zc), some (.int zd), some (.int (nI 1)), some (.int (nI kc2)), some (.int (nI 14))]) hG dX12_person_137 rfl (nI_1 _) (by decide) (pm_c1b rfl) rfl ?_
                refine pm_goto (tgt := 121) hG dX12_person_140 rfl ?_
                refine pm_iloadi hG dX12_person_121 rfl ?_
                refine pm_bipush (v := nI 14) hG dX12_person_123 (by decide) ?_
                refine pm_icmpN_ge (tgt := 143) hG dX12_person_125 rfl (by omega) (by omega) (fun _ => ?_) (fun q => absurd q (by omega))
                refine pm_aloadn hG dX12_person_143 rfl ?_
                refine pm_iloadi hG dX12_person_144 rfl ?_
                refine pm_iconst (v := nI 0) hG dX12_person_146 (by decide) ?_
                refine pm_iloadn hG dX12_person_147 rfl ?_
                refine pm_top (v := nI k3) ek3 ?_
                refine pm_callV (As := [.int (nI kc2), .int (nI 0), .int (nI k3)]) (rest := []) hG hR dX12_person_148 (lkX12_97 _ rfl) okV_X12_sets rfl rfl (m_sets (d := 2) (e := 14 * kc2 + 110) (by omega) (by omega) (by omega)) rfl rfl hdd (Nat.le_refl _) (Nat.le_refl _) (by decide) (pm_kv (fun σ' cnt' hq => ?_))
                obtain ⟨rfl, rfl⟩ := hq
                obtain ⟨n_127, en_127⟩ : ∃ f : Nat → Int32, f = upd n_118 (14 * kc2 + 110) (nI k3) := ⟨_, rfl⟩
                rw [← en_127]
                have hnn_127 := KI.w en_127 hnn_118 (okv_f (show kd (14 * kc2 + 110) = (0, 0, false) from (kd_P (k := kc2) (c := 0) (by omega) (by omega) (by decide))))
                have hrn_127 := NRx.w en_127 hrn_118 (by rw [(show kd (14 * kc2 + 110) = (0, 0, false) from (kd_P (k := kc2) (c := 0) (by omega) (by omega) (by decide)))])
                have ksn_127 := KSh.w (h := 14 * kc2 + 110) en_127 ksn_118 (by unfold tS; omega)
                have e128 : n_127 0 = nI kc0 := by rw [en_127, pk_un (by omega)]; exact e119
                have e129 : n_127 8 = nI kc8 := by rw [en_127, pk_un (by omega)]; exact e120
                have e130 : n_127 2 = nI (kc2 + 1) := by rw [en_127, pk_un (by omega)]; exact e121
                have e131 : n_127 (14 * kc2 + 111) = nI 0 := by rw [en_127, pk_un (by omega)]; exact e123
                have e132 : n_127 (14 * kc2 + 119) = nI 0 := by rw [en_127, pk_un (by omega)]; exact e124
                have e133 : n_127 (14 * kc2 + 121) = nI 0 := by rw [en_127, pk_un (by omega)]; exact e125
                have e134 : n_127 (14 * kc2 + 110) = nI k3 := by rw [en_127, pk_us]
                refine pm_aloadn hG dX12_person_151 rfl ?_
                refine pm_iloadi hG dX12_person_152 rfl ?_
                refine pm_iconst (v := nI 1) hG dX12_person_154 (by decide) ?_
                refine pm_iloadn hG dX12_person_155 rfl ?_
                refine pm_callV (As := [.int (nI kc2), .int (nI 1), .int zb]) (rest := []) hG hR dX12_person_156 (lkX12_97 _ rfl) okV_X12_sets rfl rfl (m_sets (d := 2) (e := 14 * kc2 + 111) (by omega) (by omega) (by omega)) rfl rfl hdd (Nat.le_refl _) (Nat.le_refl _) (by decide) (pm_kv (fun σ' cnt' hq => ?_))
                obtain ⟨rfl, rfl⟩ := hq
                obtain ⟨n_135, en_135⟩ : ∃ f : Nat → Int32, f = upd n_127 (14 * kc2 + 111) zb := ⟨_, rfl⟩
                rw [← en_135]
                have hnn_135 := KI.w en_135 hnn_127 (okv_f (show kd (14 * kc2 + 111) = (0, 0, false) from (kd_P (k := kc2) (c := 1) (by omega) (by omega) (by decide))))
                have hrn_135 := NRx.w en_135 hrn_127 (by rw [(show kd (14 * kc2 + 111) = (0, 0, false) from (kd_P (k := kc2) (c := 1) (by omega) (by omega) (by decide)))])
                have ksn_135 := KSh.w (h := 14 * kc2 + 110) en_135 ksn_127 (by unfold tS; omega)
                have e136 : n_135 0 = nI kc0 := by rw [en_135, pk_un (by omega)]; exact e128
                have e137 : n_135 8 = nI kc8 := by rw [en_135, pk_un (by omega)]; exact e129
                have e138 : n_135 2 = nI (kc2 + 1) := by rw [en_135, pk_un (by omega)]; exact e130
                have e139 : n_135 (14 * kc2 + 119) = nI 0 := by rw [en_135, pk_un (by omega)]; exact e132
                have e140 : n_135 (14 * kc2 + 121) = nI 0 := by rw [en_135, pk_un (by omega)]; exact e133
                have e141 : n_135 (14 * kc2 + 110) = nI k3 := by rw [en_135, pk_un (by omega)]; exact e134
                have e142 : n_135 (14 * kc2 + 111) = zb := by rw [en_135, pk_us]
                refine pm_aloadn hG dX12_person_159 rfl ?_
                refine pm_iloadi hG dX12_person_160 rfl ?_
                refine pm_iconst (v := nI 2) hG dX12_person_162 (by decide) ?_
                refine pm_iloadn hG dX12_person_163 rfl ?_
                refine pm_top (v := nI k9) ek9 ?_
                refine pm_bipush (v := nI 100) hG dX12_person_164 (by decide) ?_
                refine pm_idivN hG dX12_person_166 (by omega) (by decide) (by decide) ?_
                refine pm_iconst (v := nI 1) hG dX12_person_167 (by decide) ?_
                refine pm_isub hG dX12_person_168 ?_
                refine pm_top (v := (-1)) ek11 ?_
                refine pm_callV (As := [.int (nI kc2), .int (nI 2), .int (-1)]) (rest := []) hG hR dX12_person_169 (lkX12_97 _ rfl) okV_X12_sets rfl rfl (m_sets (d := 2) (e := 14 * kc2 + 112) (by omega) (by omega) (by omega)) rfl rfl hdd (Nat.le_refl _) (Nat.le_refl _) (by decide) (pm_kv (fun σ' cnt' hq => ?_))
                obtain ⟨rfl, rfl⟩ := hq
                obtain ⟨n_143, en_143⟩ : ∃ f : Nat → Int32, f = upd n_135 (14 * kc2 + 112) (-1) := ⟨_, rfl⟩
                rw [← en_143]
                have hnn_143 := KI.w en_143 hnn_135 (okv_m (show kd (14 * kc2 + 112) = (2, 20, false) from (kd_P (k := kc2) (c := 2) (by omega) (by omega) (by decide))))
                have hrn_143 := NRx.w en_143 hrn_135 (by rw [(show kd (14 * kc2 + 112) = (2, 20, false) from (kd_P (k := kc2) (c := 2) (by omega) (by omega) (by decide)))])
                have ksn_143 := KSh.w (h := 14 * kc2 + 110) en_143 ksn_135 (by unfold tS; omega)
                have e144 : n_143 0 = nI kc0 := by rw [en_143, pk_un (by omega)]; exact e136
                have e145 : n_143 8 = nI kc8 := by rw [en_143, pk_un (by omega)]; exact e137
                have e146 : n_143 2 = nI (kc2 + 1) := by rw [en_143, pk_un (by omega)]; exact e138
                have e147 : n_143 (14 * kc2 + 119) = nI 0 := by rw [en_143, pk_un (by omega)]; exact e139
                have e148 : n_143 (14 * kc2 + 121) = nI 0 := by rw [en_143, pk_un (by omega)]; exact e140
                have e149 : n_143 (14 * kc2 + 110) = nI k3 := by rw [en_143, pk_un (by omega)]; exact e141
                have e150 : n_143 (14 * kc2 + 111) = zb := by rw [en_143, pk_un (by omega)]; exact e142
                have e151 : n_143 (14 * kc2 + 112) = (-1) := by rw [en_143, pk_us]
                refine pm_aloadn hG dX12_person_172 rfl ?_
                refine pm_iloadi hG dX12_person_173 rfl ?_
                refine pm_iconst (v := nI 3) hG dX12_person_175 (by decide) ?_
                refine pm_iloadn hG dX12_person_176 rfl ?_
                refine pm_top (v := nI k9) ek9 ?_
                refine pm_bipush (v := nI 100) hG dX12_person_177 (by decide) ?_
                refine pm_iremM hG dX12_person_179 (by omega) (by decide) (by decide) ?_
                refine pm_iconst (v := nI 1) hG dX12_person_180 (by decide) ?_
                refine pm_isub hG dX12_person_181 ?_
                refine pm_top (v := (-1)) ek15 ?_
                refine pm_callV (As := [.int (nI kc2), .int (nI 3), .int (-1)]) (rest := []) hG hR dX12_person_182 (lkX12_97 _ rfl) okV_X12_sets rfl rfl (m_sets (d := 2) (e := 14 * kc2 + 113) (by omega) (by omega) (by omega)) rfl rfl hdd (Nat.le_refl _) (Nat.le_refl _) (by decide) (pm_kv (fun σ' cnt' hq => ?_))
                obtain ⟨rfl, rfl⟩ := hq
                obtain ⟨n_152, en_152⟩ : ∃ f : Nat → Int32, f = upd n_143 (14 * kc2 + 113) (-1) := ⟨_, rfl⟩
                rw [← en_152]
                have hnn_152 := KI.w en_152 hnn_143 (okv_m (show kd (14 * kc2 + 113) = (2, 20, false) from (kd_P (k := kc2) (c := 3) (by omega) (by omega) (by decide))))
                have hrn_152 := NRx.w en_152 hrn_143 (by rw [(show kd (14 * kc2 + 113) = (2, 20, false) from (kd_P (k := kc2) (c := 3) (by omega) (by omega) (by decide)))])
                have ksn_152 := KSh.w (h := 14 * kc2 + 110) en_152 ksn_143 (by unfold tS; omega)
                have e153 : n_152 0 = nI kc0 := by rw [en_152, pk_un (by omega)]; exact e144
                have e154 : n_152 8 = nI kc8 := by rw [en_152, pk_un (by omega)]; exact e145
                have e155 : n_152 2 = nI (kc2 + 1) := by rw [en_152, pk_un (by omega)]; exact e146
                have e156 : n_152 (14 * kc2 + 119) = nI 0 := by rw [en_152, pk_un (by omega)]; exact e147
                have e157 : n_152 (14 * kc2 + 121) = nI 0 := by rw [en_152, pk_un (by omega)]; exact e148
                have e158 : n_152 (14 * kc2 + 110) = nI k3 := by rw [en_152, pk_un (by omega)]; exact e149
                have e159 : n_152 (14 * kc2 + 111) = zb := by rw [en_152, pk_un (by omega)]; exact e150
                have e160 : n_152 (14 * kc2 + 113) = (-1) := by rw [en_152, pk_us]
                refine pm_aloadn hG dX12_person_185 rfl ?_
                refine pm_iloadi hG dX12_person_186 rfl ?_
                refine pm_iconst (v := nI 4) hG dX12_person_188 (by decide) ?_
                refine pm_iloadi hG dX12_person_189 rfl ?_
                refine pm_top (v := nI k20) ek20 ?_
                refine pm_callV (As := [.int (nI kc2), .int (nI 4), .int (nI k20)]) (rest := []) hG hR dX12_person_191 (lkX12_97 _ rfl) okV_X12_sets rfl rfl (m_sets (d := 2) (e := 14 * kc2 + 114) (by omega) (by omega) (by omega)) rfl rfl hdd (Nat.le_refl _) (Nat.le_refl _) (by decide) (pm_kv (fun σ' cnt' hq => ?_))
                obtain ⟨rfl, rfl⟩ := hq
                obtain ⟨n_161, en_161⟩ : ∃ f : Nat → Int32, f = upd n_152 (14 * kc2 + 114) (nI k20) := ⟨_, rfl⟩
                rw [← en_161]
                have hnn_161 := KI.w en_161 hnn_152 (okv_o (show kd (14 * kc2 + 114) = (2, 10, false) from (kd_P (k := kc2) (c := 4) (by omega) (by omega) (by decide))) (by omega))
                have hrn_161 := NRx.w en_161 hrn_152 (by rw [(show kd (14 * kc2 + 114) = (2, 10, false) from (kd_P (k := kc2) (c := 4) (by omega) (by omega) (by decide)))])
                have ksn_161 := KSh.w (h := 14 * kc2 + 110) en_161 ksn_152 (by unfold tS; omega)
                have e162 : n_161 0 = nI kc0 := by rw [en_161, pk_un (by omega)]; exact e153
                have e163 : n_161 8 = nI kc8 := by rw [en_161, pk_un (by omega)]; exact e154
                have e164 : n_161 2 = nI (kc2 + 1) := by rw [en_161, pk_un (by omega)]; exact e155
                have e165 : n_161 (14 * kc2 + 119) = nI 0 := by rw [en_161, pk_un (by omega)]; exact e156
                have e166 : n_161 (14 * kc2 + 121) = nI 0 := by rw [en_161, pk_un (by omega)]; exact e157
                have e167 : n_161 (14 * kc2 + 110) = nI k3 := by rw [en_161, pk_un (by omega)]; exact e158
                have e168 : n_161 (14 * kc2 + 111) = zb := by rw [en_161, pk_un (by omega)]; exact e159
                have e169 : n_161 (14 * kc2 + 114) = nI k20 := by rw [en_161, pk_us]
                refine pm_aloadn hG dX12_person_194 rfl ?_
                refine pm_iloadi hG dX12_person_195 rfl ?_
                refine pm_bipush (v := nI 9) hG dX12_person_197 (by decide) ?_
                refine pm_iconst (v := (-1)) hG dX12_person_199 (by decide) ?_
                refine pm_callV (As := [.int (nI kc2), .int (nI 9), .int (-1)]) (rest := []) hG hR dX12_person_200 (lkX12_97 _ rfl) okV_X12_sets rfl rfl (m_sets (d := 2) (e := 14 * kc2 + 119) (by omega) (by omega) (by omega)) rfl rfl hdd (Nat.le_refl _) (Nat.le_refl _) (by decide) (pm_kv (fun σ' cnt' hq => ?_))
                obtain ⟨rfl, rfl⟩ := hq
                obtain ⟨n_170, en_170⟩ : ∃ f : Nat → Int32, f = upd n_161 (14 * kc2 + 119) (-1) := ⟨_, rfl⟩
                rw [← en_170]
                have hnn_170 := KI.w en_170 hnn_161 (okv_m (show kd (14 * kc2 + 119) = (2, 2001, false) from (kd_P (k := kc2) (c := 9) (by omega) (by omega) (by decide))))
                have hrn_170 := NRx.w en_170 hrn_161 (by rw [(show kd (14 * kc2 + 119) = (2, 2001, false) from (kd_P (k := kc2) (c := 9) (by omega) (by omega) (by decide)))])
                have ksn_170 := KSh.w (h := 14 * kc2 + 110) en_170 ksn_161 (by unfold tS; omega)
                have e171 : n_170 0 = nI kc0 := by rw [en_170, pk_un (by omega)]; exact e162
                have e172 : n_170 8 = nI kc8 := by rw [en_170, pk_un (by omega)]; exact e163
                have e173 : n_170 2 = nI (kc2 + 1) := by rw [en_170, pk_un (by omega)]; exact e164
                have e174 : n_170 (14 * kc2 + 121) = nI 0 := by rw [en_170, pk_un (by omega)]; exact e166
                have e175 : n_170 (14 * kc2 + 110) = nI k3 := by rw [en_170, pk_un (by omega)]; exact e167
                have e176 : n_170 (14 * kc2 + 111) = zb := by rw [en_170, pk_un (by omega)]; exact e168
                have e177 : n_170 (14 * kc2 + 119) = (-1) := by rw [en_170, pk_us]
                refine pm_aloadn hG dX12_person_203 rfl ?_
                refine pm_iloadi hG dX12_person_204 rfl ?_
                refine pm_bipush (v := nI 10) hG dX12_person_206 (by decide) ?_
                refine pm_iconst (v := (-1)) hG dX12_person_208 (by decide) ?_
                refine pm_callV (As := [.int (nI kc2), .int (nI 10), .int (-1)]) (rest := []) hG hR dX12_person_209 (lkX12_97 _ rfl) okV_X12_sets rfl rfl (m_sets (d := 2) (e := 14 * kc2 + 120) (by omega) (by omega) (by omega)) rfl rfl hdd (Nat.le_refl _) (Nat.le_refl _) (by decide) (pm_kv (fun σ' cnt' hq => ?_))
                obtain ⟨rfl, rfl⟩ := hq
                obtain ⟨n_178, en_178⟩ : ∃ f : Nat → Int32, f = upd n_170 (14 * kc2 + 120) (-1) := ⟨_, rfl⟩
                rw [← en_178]
                have hnn_178 := KI.w en_178 hnn_170 (okv_f (show kd (14 * kc2 + 120) = (0, 0, false) from (kd_P (k := kc2) (c := 10) (by omega) (by omega) (by decide))))
                have hrn_178 := NRx.w en_178 hrn_170 (by rw [(show kd (14 * kc2 + 120) = (0, 0, false) from (kd_P (k := kc2) (c := 10) (by omega) (by omega) (by decide)))])
                have ksn_178 := KSh.w (h := 14 * kc2 + 110) en_178 ksn_170 (by unfold tS; omega)
                have e179 : n_178 0 = nI kc0 := by rw [en_178, pk_un (by omega)]; exact e171
                have e180 : n_178 8 = nI kc8 := by rw [en_178, pk_un (by omega)]; exact e172
                have e181 : n_178 2 = nI (kc2 + 1) := by rw [en_178, pk_un (by omega)]; exact e173
                have e182 : n_178 (14 * kc2 + 121) = nI 0 := by rw [en_178, pk_un (by omega)]; exact e174
                have e183 : n_178 (14 * kc2 + 110) = nI k3 := by rw [en_178, pk_un (by omega)]; exact e175
                have e184 : n_178 (14 * kc2 + 111) = zb := by rw [en_178, pk_un (by omega)]; exact e176
                have e185 : n_178 (14 * kc2 + 119) = (-1) := by rw [en_178, pk_un (by omega)]; exact e177
                have e186 : n_178 (14 * kc2 + 120) = (-1) := by rw [en_178, pk_us]
                refine pm_aloadn hG dX12_person_212 rfl ?_
                refine pm_iloadi hG dX12_person_213 rfl ?_
                refine pm_bipush (v := nI 12) hG dX12_person_215 (by decide) ?_
                refine pm_iconst (v := nI 1) hG dX12_person_217 (by decide) ?_
                refine pm_callV (As := [.int (nI kc2), .int (nI 12), .int (nI 1)]) (rest := []) hG hR dX12_person_218 (lkX12_97 _ rfl) okV_X12_sets rfl rfl (m_sets (d := 2) (e := 14 * kc2 + 122) (by omega) (by omega) (by omega)) rfl rfl hdd (Nat.le_refl _) (Nat.le_refl _) (by decide) (pm_kv (fun σ' cnt' hq => ?_))
                obtain ⟨rfl, rfl⟩ := hq
                obtain ⟨n_187, en_187⟩ : ∃ f : Nat → Int32, f = upd n_178 (14 * kc2 + 122) (nI 1) := ⟨_, rfl⟩
                rw [← en_187]
                have hnn_187 := KI.w en_187 hnn_178 (okv_f (show kd (14 * kc2 + 122) = (0, 0, false) from (kd_P (k := kc2) (c := 12) (by omega) (by omega) (by decide))))
                have hrn_187 := NRx.w en_187 hrn_178 (by rw [(show kd (14 * kc2 + 122) = (0, 0, false) from (kd_P (k := kc2) (c := 12) (by omega) (by omega) (by decide)))])
                have ksn_187 := KSh.w (h := 14 * kc2 + 110) en_187 ksn_178 (by unfold tS; omega)
                have e188 : n_187 0 = nI kc0 := by rw [en_187, pk_un (by omega)]; exact e179
                have e189 : n_187 8 = nI kc8 := by rw [en_187, pk_un (by omega)]; exact e180
                have e190 : n_187 2 = nI (kc2 + 1) := by rw [en_187, pk_un (by omega)]; exact e181
                have e191 : n_187 (14 * kc2 + 121) = nI 0 := by rw [en_187, pk_un (by omega)]; exact e182
                have e192 : n_187 (14 * kc2 + 110) = nI k3 := by rw [en_187, pk_un (by omega)]; exact e183
                have e193 : n_187 (14 * kc2 + 111) = zb := by rw [en_187, pk_un (by omega)]; exact e184
                have e194 : n_187 (14 * kc2 + 119) = (-1) := by rw [en_187, pk_un (by omega)]; exact e185
                have e195 : n_187 (14 * kc2 + 122) = nI 1 := by rw [en_187, pk_us]
                refine pm_iloadi hG dX12_person_221 rfl ?_
                exact pm_iret hG hF dX12_person_223 rfl (Nat.le_refl _) (Nat.le_refl _) ⟨_, rfl, ⟨_, _, _, rfl, hnn_187, hrn_187, e188.trans ekc0.symm, e189.trans ekc8.symm, ⟨(vE_y (T := pN n) (d := n 8) (t := n 0) (p := n 2) (a := za) (b := zb) (c := zc) (e := zd) (not6 (rg_in (a := 0) (b := 1) (by omega) ek3 (by omega) (by omega)) (fun q => q.elim ac5 (by rw [ekc8]; exact bc5)) (by rw [ek9]; exact nI_pos (by omega)) (nt_in ekc0 (by omega) ek20 (by omega)) (fun q => q (by rw [dv1 ek9 (by omega)]; exact pk11)) (fun q => q (by rw [rm1 ek9 (by omega)]; exact pk15))) ekc2 (by omega)).1, e190.trans (vE_y (T := pN n) (d := n 8) (t := n 0) (p := n 2) (a := za) (b := zb) (c := zc) (e := zd) (not6 (rg_in (a := 0) (b := 1) (by omega) ek3 (by omega) (by omega)) (fun q => q.elim ac5 (by rw [ekc8]; exact bc5)) (by rw [ek9]; exact nI_pos (by omega)) (nt_in ekc0 (by omega) ek20 (by omega)) (fun q => q (by rw [dv1 ek9 (by omega)]; exact pk11)) (fun q => q (by rw [rm1 ek9 (by omega)]; exact pk15))) ekc2 (by omega)).2.1, fun j hj => by rw [e190, nI_clamp (by omega)] at hj; rw [(vE_y (T := pN n) (d := n 8) (t := n 0) (p := n 2) (a := za) (b := zb) (c := zc) (e := zd) (not6 (rg_in (a := 0) (b := 1) (by omega) ek3 (by omega) (by omega)) (fun q => q.elim ac5 (by rw [ekc8]; exact bc5)) (by rw [ek9]; exact nI_pos (by omega)) (nt_in ekc0 (by omega) ek20 (by omega)) (fun q => q (by rw [dv1 ek9 (by omega)]; exact pk11)) (fun q => q (by rw [rm1 ek9 (by omega)]; exact pk15))) ekc2 (by omega)).2.2]; exact tP_ok ksn_187 (e192.trans ek3.symm) e193 e194 e191 (by omega) j hj⟩⟩, rfl⟩
              · refine pm_aloadn hG dX12_person_102 rfl ?_
                refine pm_iconst (v := nI 4) hG dX12_person_103 (by decide) ?_
                refine pm_callV (As := [.int (nI 4)]) (rest := []) hG hR dX12_person_104 (lkX12_80 _ rfl) okV_X12_finds rfl rfl (m_finds (d := 2) (by decide) hn hz (by omega)) rfl rfl hdd (Nat.le_refl _) (Nat.le_refl _) (by decide) (pm_ki (fun v196 σ' cnt' hq => ?_))
                obtain ⟨⟨I197, A197, rfl⟩, rfl, fv196⟩ := hq
                exact pm_iret hG hF dX12_person_107 rfl (Nat.le_refl _) (Nat.le_refl _) ⟨_, rfl, ⟨_, _, _, rfl, hn, hr, ekc0.trans ekc0.symm, ekc8.trans ekc8.symm, ⟨fv196.trans ((by decide : (-1000000 : Int32) - nI 4 = -1000004).trans (vE_f (T := pN n) (d := n 8) (t := n 0) (p := n 2) (a := za) (b := zb) (c := zc) (e := zd) (not6 (rg_in (a := 0) (b := 1) (by omega) ek3 (by omega) (by omega)) (fun q => q.elim ac5 (by rw [ekc8]; exact bc5)) (by rw [ek9]; exact nI_pos (by omega)) (nt_in ekc0 (by omega) ek20 (by omega)) (fun q => q (by rw [dv1 ek9 (by omega)]; exact pk11)) (fun q => q (by rw [rm1 ek9 (by omega)]; exact pk15))) (ekc2.trans (congrArg nI (by omega)))).1), (vE_f (T := pN n) (d := n 8) (t := n 0) (p := n 2) (a := za) (b := zb) (c := zc) (e := zd) (not6 (rg_in (a := 0) (b := 1) (by omega) ek3 (by omega) (by omega)) (fun q => q.elim ac5 (by rw [ekc8]; exact bc5)) (by rw [ek9]; exact nI_pos (by omega)) (nt_in ekc0 (by omega) ek20 (by omega)) (fun q => q (by rw [dv1 ek9 (by omega)]; exact pk11)) (fun q => q (by rw [rm1 ek9 (by omega)]; exact pk15))) (ekc2.trans (congrArg nI (by omega)))).2.1, fun j _ => by rw [(vE_f (T := pN n) (d := n 8) (t := n 0) (p := n 2) (a := za) (b := zb) (c := zc) (e := zd) (not6 (rg_in (a := 0) (b := 1) (by omega) ek3 (by omega) (by omega)) (fun q => q.elim ac5 (by rw [ekc8]; exact bc5)) (by rw [ek9]; exact nI_pos (by omega)) (nt_in ekc0 (by omega) ek20 (by omega)) (fun q => q (by rw [dv1 ek9 (by omega)]; exact pk11)) (fun q => q (by rw [rm1 ek9 (by omega)]; exact pk15))) (ekc2.trans (congrArg nI (by omega)))).2.2]⟩⟩, rfl⟩
            · refine pm_ifN_eq (tgt := 73) hG dX12_person_66 rfl (by omega) (fun _ => ?_) (fun q => absurd q (by omega))
              refine pm_iconst (v := nI 0) hG dX12_person_73 (by decide) ?_
              refine pm_istoreXi (loc' := [some (.ref (B + 54)), some (.int za), some (.int zb), some (.int zc), some (.int zd), some (.int (nI 0)), none, none]) hG dX12_person_74 (by decide) (pm_c1b rfl) rfl ?_
              refine pm_iloadi hG dX12_person_76 rfl ?_
              refine pm_ifN_ne (tgt := 87) hG dX12_person_78 rfl (by omega) (fun q => absurd q (by omega)) (fun _ => ?_)
              refine pm_aloadn hG dX12_person_81 rfl ?_
              refine pm_iconst (v := nI 1) hG dX12_person_82 (by decide) ?_
              refine pm_callV (As := [.int (nI 1)]) (rest := []) hG hR dX12_person_83 (lkX12_80 _ rfl) okV_X12_finds rfl rfl (m_finds (d := 2) (by decide) hn hz (by omega)) rfl rfl hdd (Nat.le_refl _) (Nat.le_refl _) (by decide) (pm_ki (fun v198 σ' cnt' hq => ?_))
              obtain ⟨⟨I199, A199, rfl⟩, rfl, fv198⟩ := hq
              exact pm_iret hG hF dX12_person_86 rfl (Nat.le_refl _) (Nat.le_refl _) ⟨_, rfl, ⟨_, _, _, rfl, hn, hr, ekc0.trans ekc0.symm, ekc8.trans ekc8.symm, ⟨fv198.trans ((by decide : (-1000000 : Int32) - nI 1 = -1000001).trans (vE_n (T := pN n) (d := n 8) (t := n 0) (p := n 2) (a := za) (b := zb) (c := zc) (e := zd) (Or.inr (Or.inr (Or.inr (Or.inl (nt_out ekc0 (by omega) ntk20)))))).1), (vE_n (T := pN n) (d := n 8) (t := n 0) (p := n 2) (a := za) (b := zb) (c := zc) (e := zd) (Or.inr (Or.inr (Or.inr (Or.inl (nt_out ekc0 (by omega) ntk20)))))).2.1, fun j _ => by rw [(vE_n (T := pN n) (d := n 8) (t := n 0) (p := n 2) (a := za) (b := zb) (c := zc) (e := zd) (Or.inr (Or.inr (Or.inr (Or.inl (nt_out ekc0 (by omega) ntk20)))))).2.2]⟩⟩, rfl⟩
          · refine pm_ifN_eq (tgt := 73) hG dX12_person_57 rfl (by omega) (fun q => absurd q (by omega)) (fun _ => ?_)
            refine pm_aloadn hG dX12_person_60 rfl ?_
            refine pm_iloadi hG dX12_person_61 rfl ?_
            refine pm_callV (As := [.int zd]) (rest := []) hG hR dX12_person_63 (lkX12_84 _ rfl) okV_X12_isTown rfl rfl (m_isTown (d := 2) (by decide) ekc0 (by omega)) rfl rfl hdd (Nat.le_refl _) (Nat.le_refl _) (by decide) (pm_ki (fun v200 σ' cnt' hq => ?_))
            obtain ⟨hq, rfl, rfl⟩ := hq
            rcases hq with ⟨rfl, k202, hk202, ek202⟩ | ⟨rfl, ntk202⟩
            · refine pm_ifN_eq (tgt := 73) hG dX12_person_66 rfl (by omega) (fun q => absurd q (by omega)) (fun _ => ?_)
              refine pm_iconst (v := nI 1) hG dX12_person_69 (by decide) ?_
              refine pm_goto (tgt := 74) hG dX12_person_70 rfl ?_
              refine pm_istoreXi (loc' := [some (.ref (B + 54)), some (.int za), some (.int zb), some (.int zc), some (.int zd), some (.int (nI 1)), none, none]) hG dX12_person_74 (by decide) (pm_c1b rfl) rfl ?_
              refine pm_iloadi hG dX12_person_76 rfl ?_
              refine pm_ifN_ne (tgt := 87) hG dX12_person_78 rfl (by omega) (fun _ => ?_) (fun q => absurd q (by omega))
              refine pm_aloadn hG dX12_person_87 rfl ?_
              refine pm_getf hG dX12_person_88 (flX12_7 _ rfl) rfl rfl ?_
              refine pm_iconst (v := nI 2) hG dX12_person_91 (by decide) ?_
              refine pm_ialdN hG dX12_person_92 rfl (by decide) (by omega) ?_
              refine pm_top (v := nI kc2) ekc2 ?_
              refine pm_istoreXi (loc' := [some (.ref (B + 54)), some (.int za), some (.int zb), some (.int zc), some (.int zd), some (.int (nI 1)), some (.int (nI kc2)), none]) hG dX12_person_93 (by decide) (pm_c1b rfl) rfl ?_
              refine pm_iloadi hG dX12_person_95 rfl ?_
              refine pm_bipush (v := nI 20) hG dX12_person_97 (by decide) ?_
              refine pm_icmpN_ne (tgt := 108) hG dX12_person_99 rfl (by omega) (by omega) (fun c203 => ?_) (fun c203 => ?_)
              · refine pm_aloadn hG dX12_person_108 rfl ?_
                refine pm_getf hG dX12_person_109 (flX12_7 _ rfl) rfl rfl ?_
                refine pm_iconst (v := nI 2) hG dX12_person_112 (by decide) ?_
                refine pm_dup2 hG dX12_person_113 rfl rfl ?_
                refine pm_ialdN hG dX12_person_114 rfl (by decide) (by omega) ?_
                refine pm_top (v := nI kc2) ekc2 ?_
                refine pm_iconst (v := nI 1) hG dX12_person_115 (by decide) ?_
                refine pm_iaddN (c := kc2 + 1) hG dX12_person_116 (by omega) ?_
                refine pm_iastN hG dX12_person_117 rfl (by decide) (by omega) ?_
                refine mdn_now (fun n_204 en_204 => ?_)
                have hnn_204 := KI.w en_204 hn (okv_n (show kd 2 = (1, 21, true) by decide) (by omega))
                have hrn_204 := NRx.pers en_204 hr ekc0 (by omega) ekc2 (by omega)
                have ksn_204 := KSh.w (h := 14 * kc2 + 110) en_204 KSh.rf (by unfold tS; omega)
                have e205 : n_204 0 = nI kc0 := by rw [en_204, pk_un (by omega)]; exact ekc0
                have e206 : n_204 8 = nI kc8 := by rw [en_204, pk_un (by omega)]; exact ekc8
                have e207 : n_204 2 = nI (kc2 + 1) := by rw [en_204, pk_us]
                refine pm_iconst (v := nI 0) hG dX12_person_118 (by decide) ?_
                refine pm_istoreXi (loc' := [some (.ref (B + 54)), some (.int za), some (.int zb), some (.int zc), some (.int zd), some (.int (nI 1)), some (.int (nI kc2)), some (.int (nI 0))]) hG dX12_person_119 (by decide) (pm_c1b rfl) rfl ?_
                refine pm_iloadi hG dX12_person_121 rfl ?_
                refine pm_bipush (v := nI 14) hG dX12_person_123 (by decide) ?_
                refine pm_icmpN_ge (tgt := 143) hG dX12_person_125 rfl (by omega) (by omega) (fun q => absurd q (by omega)) (fun _ => ?_)
                refine pm_aloadn hG dX12_person_128 rfl ?_
                refine pm_iloadi hG dX12_person_129 rfl ?_
                refine pm_iloadi hG dX12_person_131 rfl ?_
                refine pm_iconst (v := nI 0) hG dX12_person_133 (by decide) ?_
                refine pm_callV (As := [.int (nI kc2), .int (nI 0), .int (nI 0)]) (rest := []) hG hR dX12_person_134 (lkX12_97 _ rfl) okV_X12_sets rfl rfl (m_sets (d := 2) (e := 14 * kc2 + 110) (by omega) (by omega) (by omega)) rfl rfl hdd (Nat.le_refl _) (Nat.le_refl _) (by decide) (pm_kv (fun σ' cnt' hq => ?_))
                obtain ⟨rfl, rfl⟩ := hq
                obtain ⟨n_208, en_208⟩ : ∃ f : Nat → Int32, f = upd n_204 (14 * kc2 + 110) (nI 0) := ⟨_, rfl⟩
                rw [← en_208]
                have hnn_208 := KI.w en_208 hnn_204 (okv_f (show kd (14 * kc2 + 110) = (0, 0, false) from (kd_P (k := kc2) (c := 0) (by omega) (by omega) (by decide))))
                have hrn_208 := NRx.w en_208 hrn_204 (by rw [(show kd (14 * kc2 + 110) = (0, 0, false) from (kd_P (k := kc2) (c := 0) (by omega) (by omega) (by decide)))])
                have ksn_208 := KSh.w (h := 14 * kc2 + 110) en_208 ksn_204 (by unfold tS; omega)
                have e209 : n_208 0 = nI kc0 := by rw [en_208, pk_un (by omega)]; exact e205
                have e210 : n_208 8 = nI kc8 := by rw [en_208, pk_un (by omega)]; exact e206
                have e211 : n_208 2 = nI (kc2 + 1) := by rw [en_208, pk_un (by omega)]; exact e207
                have e212 : n_208 (14 * kc2 + 110) = nI 0 := by rw [en_208, pk_us]
                refine pm_iincX (v := nI 1) (loc' := [some (.ref (B + 54)), some (.int za), some (.int zb), some (.int zc), some (.int zd), some (.int (nI 1)), some (.int (nI kc2)), some (.int (nI 1))]) hG dX12_person_137 rfl (nI_1 _) (by decide) (pm_c1b rfl) rfl ?_
                refine pm_goto (tgt := 121) hG dX12_person_140 rfl ?_
                refine pm_iloadi hG dX12_person_121 rfl ?_
                refine pm_bipush (v := nI 14) hG dX12_person_123 (by decide) ?_
                refine pm_icmpN_ge (tgt := 143) hG dX12_person_125 rfl (by omega) (by omega) (fun q => absurd q (by omega)) (fun _ => ?_)
                refine pm_aloadn hG dX12_person_128 rfl ?_
                refine pm_iloadi hG dX12_person_129 rfl ?_
                refine pm_iloadi hG dX12_person_131 rfl ?_
                refine pm_iconst (v := nI 0) hG dX12_person_133 (by decide) ?_
                refine pm_callV (As := [.int (nI kc2), .int (nI 1), .int (nI 0)]) (rest := []) hG hR dX12_person_134 (lkX12_97 _ rfl) okV_X12_sets rfl rfl (m_sets (d := 2) (e := 14 * kc2 + 111) (by omega) (by omega) (by omega)) rfl rfl hdd (Nat.le_refl _) (Nat.le_refl _) (by decide) (pm_kv (fun σ' cnt' hq => ?_))
                obtain ⟨rfl, rfl⟩ := hq
                obtain ⟨n_213, en_213⟩ : ∃ f : Nat → Int32, f = upd n_208 (14 * kc2 + 111) (nI 0) := ⟨_, rfl⟩
                rw [← en_213]
                have hnn_213 := KI.w en_213 hnn_208 (okv_f (show kd (14 * kc2 + 111) = (0, 0, false) from (kd_P (k := kc2) (c := 1) (by omega) (by omega) (by decide))))
                have hrn_213 := NRx.w en_213 hrn_208 (by rw [(show kd (14 * kc2 + 111) = (0, 0, false) from (kd_P (k := kc2) (c := 1) (by omega) (by omega) (by decide)))])
                have ksn_213 := KSh.w (h := 14 * kc2 + 110) en_213 ksn_208 (by unfold tS; omega)
                have e214 : n_213 0 = nI kc0 := by rw [en_213, pk_un (by omega)]; exact e209
                have e215 : n_213 8 = nI kc8 := by rw [en_213, pk_un (by omega)]; exact e210
                have e216 : n_213 2 = nI (kc2 + 1) := by rw [en_213, pk_un (by omega)]; exact e211
                have e217 : n_213 (14 * kc2 + 110) = nI 0 := by rw [en_213, pk_un (by omega)]; exact e212
                have e218 : n_213 (14 * kc2 + 111) = nI 0 := by rw [en_213, pk_us]
                refine pm_iincX (v := nI 2) (loc' := [some (.ref (B + 54)), some (.int za), some (.int zb), some (.int zc), some (.int zd), some (.int (nI 1)), some (.int (nI kc2)), some (.int (nI 2))]) hG dX12_person_137 rfl (nI_1 _) (by decide) (pm_c1b rfl) rfl ?_
                refine pm_goto (tgt := 121) hG dX12_person_140 rfl ?_
                refine pm_iloadi hG dX12_person_121 rfl ?_
                refine pm_bipush (v := nI 14) hG dX12_person_123 (by decide) ?_
                refine pm_icmpN_ge (tgt := 143) hG dX12_person_125 rfl (by omega) (by omega) (fun q => absurd q (by omega)) (fun _ => ?_)
                refine pm_aloadn hG dX12_person_128 rfl ?_
                refine pm_iloadi hG dX12_person_129 rfl ?_
                refine pm_iloadi hG dX12_person_131 rfl ?_
                refine pm_iconst (v := nI 0) hG dX12_person_133 (by decide) ?_
                refine pm_callV (As := [.int (nI kc2), .int (nI 2), .int (nI 0)]) (rest := []) hG hR dX12_person_134 (lkX12_97 _ rfl) okV_X12_sets rfl rfl (m_sets (d := 2) (e := 14 * kc2 + 112) (by omega) (by omega) (by omega)) rfl rfl hdd (Nat.le_refl _) (Nat.le_refl _) (by decide) (pm_kv (fun σ' cnt' hq => ?_))
                obtain ⟨rfl, rfl⟩ := hq
                obtain ⟨n_219, en_219⟩ : ∃ f : Nat → Int32, f = upd n_213 (14 * kc2 + 112) (nI 0) := ⟨_, rfl⟩
                rw [← en_219]
                have hnn_219 := KI.w en_219 hnn_213 (okv_o (show kd (14 * kc2 + 112) = (2, 20, false) from (kd_P (k := kc2) (c := 2) (by omega) (by omega) (by decide))) (by omega))
                have hrn_219 := NRx.w en_219 hrn_213 (by rw [(show kd (14 * kc2 + 112) = (2, 20, false) from (kd_P (k := kc2) (c := 2) (by omega) (by omega) (by decide)))])
                have ksn_219 := KSh.w (h := 14 * kc2 + 110) en_219 ksn_213 (by unfold tS; omega)
                have e220 : n_219 0 = nI kc0 := by rw [en_219, pk_un (by omega)]; exact e214
                have e221 : n_219 8 = nI kc8 := by rw [en_219, pk_un (by omega)]; exact e215
                have e222 : n_219 2 = nI (kc2 + 1) := by rw [en_219, pk_un (by omega)]; exact e216
                have e223 : n_219 (14 * kc2 + 110) = nI 0 := by rw [en_219, pk_un (by omega)]; exact e217
                have e224 : n_219 (14 * kc2 + 111) = nI 0 := by rw [en_219, pk_un (by omega)]; exact e218
                have e225 : n_219 (14 * kc2 + 112) = nI 0 := by rw [en_219, pk_us]
                refine pm_iincX (v := nI 3) (loc' := [some (.ref (B + 54)), some (.int za), some (.int zb), some (.int zc), some (.int zd), some (.int (nI 1)), some (.int (nI kc2)), some (.int (nI 3))]) hG dX12_person_137 rfl (nI_1 _) (by decide) (pm_c1b rfl) rfl ?_
                refine pm_goto (tgt := 121) hG dX12_person_140 rfl ?_
                refine pm_iloadi hG dX12_person_121 rfl ?_
                refine pm_bipush (v := nI 14) hG dX12_person_123 (by decide) ?_
                refine pm_icmpN_ge (tgt := 143) hG dX12_person_125 rfl (by omega) (by omega) (fun q => absurd q (by omega)) (fun _ => ?_)
                refine pm_aloadn hG dX12_person_128 rfl ?_
                refine pm_iloadi hG dX12_person_129 rfl ?_
                refine pm_iloadi hG dX12_person_131 rfl ?_
                refine pm_iconst (v := nI 0) hG dX12_person_133 (by decide) ?_
                refine pm_callV (As := [.int (nI kc2), .int (nI 3), .int (nI 0)]) (rest := []) hG hR dX12_person_134 (lkX12_97 _ rfl) okV_X12_sets rfl rfl (m_sets (d := 2) (e := 14 * kc2 + 113) (by omega) (by omega) (by omega)) rfl rfl hdd (Nat.le_refl _) (Nat.le_refl _) (by decide) (pm_kv (fun σ' cnt' hq => ?_))
                obtain ⟨rfl, rfl⟩ := hq
                obtain ⟨n_226, en_226⟩ : ∃ f : Nat → Int32, f = upd n_219 (14 * kc2 + 113) (nI 0) := ⟨_, rfl⟩
                rw [← en_226]
                have hnn_226 := KI.w en_226 hnn_219 (okv_o (show kd (14 * kc2 + 113) = (2, 20, false) from (kd_P (k := kc2) (c := 3) (by omega) (by omega) (by decide))) (by omega))
                have hrn_226 := NRx.w en_226 hrn_219 (by rw [(show kd (14 * kc2 + 113) = (2, 20, false) from (kd_P (k := kc2) (c := 3) (by omega) (by omega) (by decide)))])
                have ksn_226 := KSh.w (h := 14 * kc2 + 110) en_226 ksn_219 (by unfold tS; omega)
                have e227 : n_226 0 = nI kc0 := by rw [en_226, pk_un (by omega)]; exact e220
                have e228 : n_226 8 = nI kc8 := by rw [en_226, pk_un (by omega)]; exact e221
                have e229 : n_226 2 = nI (kc2 + 1) := by rw [en_226, pk_un (by omega)]; exact e222
                have e230 : n_226 (14 * kc2 + 110) = nI 0 := by rw [en_226, pk_un (by omega)]; exact e223
                have e231 : n_226 (14 * kc2 + 111) = nI 0 := by rw [en_226, pk_un (by omega)]; exact e224
                have e232 : n_226 (14 * kc2 + 113) = nI 0 := by rw [en_226, pk_us]
                refine pm_iincX (v := nI 4) (loc' := [some (.ref (B + 54)), some (.int za), some (.int zb), some (.int zc), some (.int zd), some (.int (nI 1)), some (.int (nI kc2)), some (.int (nI 4))]) hG dX12_person_137 rfl (nI_1 _) (by decide) (pm_c1b rfl) rfl ?_
                refine pm_goto (tgt := 121) hG dX12_person_140 rfl ?_
                refine pm_iloadi hG dX12_person_121 rfl ?_
                refine pm_bipush (v := nI 14) hG dX12_person_123 (by decide) ?_
                refine pm_icmpN_ge (tgt := 143) hG dX12_person_125 rfl (by omega) (by omega) (fun q => absurd q (by omega)) (fun _ => ?_)
                refine pm_aloadn hG dX12_person_128 rfl ?_
                refine pm_iloadi hG dX12_person_129 rfl ?_
                refine pm_iloadi hG dX12_person_131 rfl ?_
                refine pm_iconst (v := nI 0) hG dX12_person_133 (by decide) ?_
                refine pm_callV (As := [.int (nI kc2), .int (nI 4), .int (nI 0)]) (rest := []) hG hR dX12_person_134 (lkX12_97 _ rfl) okV_X12_sets rfl rfl (m_sets (d := 2) (e := 14 * kc2 + 114) (by omega) (by omega) (by omega)) rfl rfl hdd (Nat.le_refl _) (Nat.le_refl _) (by decide) (pm_kv (fun σ' cnt' hq => ?_))
                obtain ⟨rfl, rfl⟩ := hq
                obtain ⟨n_233, en_233⟩ : ∃ f : Nat → Int32, f = upd n_226 (14 * kc2 + 114) (nI 0) := ⟨_, rfl⟩
                rw [← en_233]
                have hnn_233 := KI.w en_233 hnn_226 (okv_o (show kd (14 * kc2 + 114) = (2, 10, false) from (kd_P (k := kc2) (c := 4) (by omega) (by omega) (by decide))) (by omega))
                have hrn_233 := NRx.w en_233 hrn_226 (by rw [(show kd (14 * kc2 + 114) = (2, 10, false) from (kd_P (k := kc2) (c := 4) (by omega) (by omega) (by decide)))])
                have ksn_233 := KSh.w (h := 14 * kc2 + 110) en_233 ksn_226 (by unfold tS; omega)
                have e234 : n_233 0 = nI kc0 := by rw [en_233, pk_un (by omega)]; exact e227
                have e235 : n_233 8 = nI kc8 := by rw [en_233, pk_un (by omega)]; exact e228
                have e236 : n_233 2 = nI (kc2 + 1) := by rw [en_233, pk_un (by omega)]; exact e229
                have e237 : n_233 (14 * kc2 + 110) = nI 0 := by rw [en_233, pk_un (by omega)]; exact e230
                have e238 : n_233 (14 * kc2 + 111) = nI 0 := by rw [en_233, pk_un (by omega)]; exact e231
                have e239 : n_233 (14 * kc2 + 114) = nI 0 := by rw [en_233, pk_us]
                refine pm_iincX (v := nI 5) (loc' := [some (.ref (B + 54)), some (.int za), some (.int zb), some (.int zc), some (.int zd), some (.int (nI 1)), some (.int (nI kc2)), some (.int (nI 5))]) hG dX12_person_137 rfl (nI_1 _) (by decide) (pm_c1b rfl) rfl ?_
                refine pm_goto (tgt := 121) hG dX12_person_140 rfl ?_
                refine pm_iloadi hG dX12_person_121 rfl ?_
                refine pm_bipush (v := nI 14) hG dX12_person_123 (by decide) ?_
                refine pm_icmpN_ge (tgt := 143) hG dX12_person_125 rfl (by omega) (by omega) (fun q => absurd q (by omega)) (fun _ => ?_)
                refine pm_aloadn hG dX12_person_128 rfl ?_
                refine pm_iloadi hG dX12_person_129 rfl ?_
                refine pm_iloadi hG dX12_person_131 rfl ?_
                refine pm_iconst (v := nI 0) hG dX12_person_133 (by decide) ?_
                refine pm_callV (As := [.int (nI kc2), .int (nI 5), .int (nI 0)]) (rest := []) hG hR dX12_person_134 (lkX12_97 _ rfl) okV_X12_sets rfl rfl (m_sets (d := 2) (e := 14 * kc2 + 115) (by omega) (by omega) (by omega)) rfl rfl hdd (Nat.le_refl _) (Nat.le_refl _) (by decide) (pm_kv (fun σ' cnt' hq => ?_))
                obtain ⟨rfl, rfl⟩ := hq
                obtain ⟨n_240, en_240⟩ : ∃ f : Nat → Int32, f = upd n_233 (14 * kc2 + 115) (nI 0) := ⟨_, rfl⟩
                rw [← en_240]
                have hnn_240 := KI.w en_240 hnn_233 (okv_n (show kd (14 * kc2 + 115) = (1, 10, false) from (kd_P (k := kc2) (c := 5) (by omega) (by omega) (by decide))) (by omega))
                have hrn_240 := NRx.w en_240 hrn_233 (by rw [(show kd (14 * kc2 + 115) = (1, 10, false) from (kd_P (k := kc2) (c := 5) (by omega) (by omega) (by decide)))])
                have ksn_240 := KSh.w (h := 14 * kc2 + 110) en_240 ksn_233 (by unfold tS; omega)
                have e241 : n_240 0 = nI kc0 := by rw [en_240, pk_un (by omega)]; exact e234
                have e242 : n_240 8 = nI kc8 := by rw [en_240, pk_un (by omega)]; exact e235
                have e243 : n_240 2 = nI (kc2 + 1) := by rw [en_240, pk_un (by omega)]; exact e236
                have e244 : n_240 (14 * kc2 + 110) = nI 0 := by rw [en_240, pk_un (by omega)]; exact e237
                have e245 : n_240 (14 * kc2 + 111) = nI 0 := by rw [en_240, pk_un (by omega)]; exact e238
                have e246 : n_240 (14 * kc2 + 115) = nI 0 := by rw [en_240, pk_us]
                refine pm_iincX (v := nI 6) (loc' := [some (.ref (B + 54)), some (.int za), some (.int zb), some (.int zc), some (.int zd), some (.int (nI 1)), some (.int (nI kc2)), some (.int (nI 6))]) hG dX12_person_137 rfl (nI_1 _) (by decide) (pm_c1b rfl) rfl ?_
                refine pm_goto (tgt := 121) hG dX12_person_140 rfl ?_
                refine pm_iloadi hG dX12_person_121 rfl ?_
                refine pm_bipush (v := nI 14) hG dX12_person_123 (by decide) ?_
                refine pm_icmpN_ge (tgt := 143) hG dX12_person_125 rfl (by omega) (by omega) (fun q => absurd q (by omega)) (fun _ => ?_)
                refine pm_aloadn hG dX12_person_128 rfl ?_
                refine pm_iloadi hG dX12_person_129 rfl ?_
                refine pm_iloadi hG dX12_person_131 rfl ?_
                refine pm_iconst (v := nI 0) hG dX12_person_133 (by decide) ?_
                refine pm_callV (As := [.int (nI kc2), .int (nI 6), .int (nI 0)]) (rest := []) hG hR dX12_person_134 (lkX12_97 _ rfl) okV_X12_sets rfl rfl (m_sets (d := 2) (e := 14 * kc2 + 116) (by omega) (by omega) (by omega)) rfl rfl hdd (Nat.le_refl _) (Nat.le_refl _) (by decide) (pm_kv (fun σ' cnt' hq => ?_))
                obtain ⟨rfl, rfl⟩ := hq
                obtain ⟨n_247, en_247⟩ : ∃ f : Nat → Int32, f = upd n_240 (14 * kc2 + 116) (nI 0) := ⟨_, rfl⟩
                rw [← en_247]
                have hnn_247 := KI.w en_247 hnn_240 (okv_f (show kd (14 * kc2 + 116) = (0, 0, false) from (kd_P (k := kc2) (c := 6) (by omega) (by omega) (by decide))))
                have hrn_247 := NRx.w en_247 hrn_240 (by rw [(show kd (14 * kc2 + 116) = (0, 0, false) from (kd_P (k := kc2) (c := 6) (by omega) (by omega) (by decide)))])
                have ksn_247 := KSh.w (h := 14 * kc2 + 110) en_247 ksn_240 (by unfold tS; omega)
                have e248 : n_247 0 = nI kc0 := by rw [en_247, pk_un (by omega)]; exact e241
                have e249 : n_247 8 = nI kc8 := by rw [en_247, pk_un (by omega)]; exact e242
                have e250 : n_247 2 = nI (kc2 + 1) := by rw [en_247, pk_un (by omega)]; exact e243
                have e251 : n_247 (14 * kc2 + 110) = nI 0 := by rw [en_247, pk_un (by omega)]; exact e244
                have e252 : n_247 (14 * kc2 + 111) = nI 0 := by rw [en_247, pk_un (by omega)]; exact e245
                have e253 : n_247 (14 * kc2 + 116) = nI 0 := by rw [en_247, pk_us]
                refine pm_iincX (v := nI 7) (loc' := [some (.ref (B + 54)), some (.int za), some (.int zb), some (.int zc), some (.int zd), some (.int (nI 1)), some (.int (nI kc2)), some (.int (nI 7))]) hG dX12_person_137 rfl (nI_1 _) (by decide) (pm_c1b rfl) rfl ?_
                refine pm_goto (tgt := 121) hG dX12_person_140 rfl ?_
                refine pm_iloadi hG dX12_person_121 rfl ?_
                refine pm_bipush (v := nI 14) hG dX12_person_123 (by decide) ?_
                refine pm_icmpN_ge (tgt := 143) hG dX12_person_125 rfl (by omega) (by omega) (fun q => absurd q (by omega)) (fun _ => ?_)
                refine pm_aloadn hG dX12_person_128 rfl ?_
                refine pm_iloadi hG dX12_person_129 rfl ?_
                refine pm_iloadi hG dX12_person_131 rfl ?_
                refine pm_iconst (v := nI 0) hG dX12_person_133 (by decide) ?_
                refine pm_callV (As := [.int (nI kc2), .int (nI 7), .int (nI 0)]) (rest := []) hG hR dX12_person_134 (lkX12_97 _ rfl) okV_X12_sets rfl rfl (m_sets (d := 2) (e := 14 * kc2 + 117) (by omega) (by omega) (by omega)) rfl rfl hdd (Nat.le_refl _) (Nat.le_refl _) (by decide) (pm_kv (fun σ' cnt' hq => ?_))
                obtain ⟨rfl, rfl⟩ := hq
                obtain ⟨n_254, en_254⟩ : ∃ f : Nat → Int32, f = upd n_247 (14 * kc2 + 117) (nI 0) := ⟨_, rfl⟩
                rw [← en_254]
                have hnn_254 := KI.w en_254 hnn_247 (okv_f (show kd (14 * kc2 + 117) = (0, 0, false) from (kd_P (k := kc2) (c := 7) (by omega) (by omega) (by decide))))
                have hrn_254 := NRx.w en_254 hrn_247 (by rw [(show kd (14 * kc2 + 117) = (0, 0, false) from (kd_P (k := kc2) (c := 7) (by omega) (by omega) (by decide)))])
                have ksn_254 := KSh.w (h := 14 * kc2 + 110) en_254 ksn_247 (by unfold tS; omega)
                have e255 : n_254 0 = nI kc0 := by rw [en_254, pk_un (by omega)]; exact e248
                have e256 : n_254 8 = nI kc8 := by rw [en_254, pk_un (by omega)]; exact e249
                have e257 : n_254 2 = nI (kc2 + 1) := by rw [en_254, pk_un (by omega)]; exact e250
                have e258 : n_254 (14 * kc2 + 110) = nI 0 := by rw [en_254, pk_un (by omega)]; exact e251
                have e259 : n_254 (14 * kc2 + 111) = nI 0 := by rw [en_254, pk_un (by omega)]; exact e252
                have e260 : n_254 (14 * kc2 + 117) = nI 0 := by rw [en_254, pk_us]
                refine pm_iincX (v := nI 8) (loc' := [some (.ref (B + 54)), some (.int za), some (.int zb), some (.int zc), some (.int zd), some (.int (nI 1)), some (.int (nI kc2)), some (.int (nI 8))]) hG dX12_person_137 rfl (nI_1 _) (by decide) (pm_c1b rfl) rfl ?_
                refine pm_goto (tgt := 121) hG dX12_person_140 rfl ?_
                refine pm_iloadi hG dX12_person_121 rfl ?_
                refine pm_bipush (v := nI 14) hG dX12_person_123 (by decide) ?_
                refine pm_icmpN_ge (tgt := 143) hG dX12_person_125 rfl (by omega) (by omega) (fun q => absurd q (by omega)) (fun _ => ?_)
                refine pm_aloadn hG dX12_person_128 rfl ?_
                refine pm_iloadi hG dX12_person_129 rfl ?_
                refine pm_iloadi hG dX12_person_131 rfl ?_
                refine pm_iconst (v := nI 0) hG dX12_person_133 (by decide) ?_
                refine pm_callV (As := [.int (nI kc2), .int (nI 8), .int (nI 0)]) (rest := []) hG hR dX12_person_134 (lkX12_97 _ rfl) okV_X12_sets rfl rfl (m_sets (d := 2) (e := 14 * kc2 + 118) (by omega) (by omega) (by omega)) rfl rfl hdd (Nat.le_refl _) (Nat.le_refl _) (by decide) (pm_kv (fun σ' cnt' hq => ?_))
                obtain ⟨rfl, rfl⟩ := hq
                obtain ⟨n_261, en_261⟩ : ∃ f : Nat → Int32, f = upd n_254 (14 * kc2 + 118) (nI 0) := ⟨_, rfl⟩
                rw [← en_261]
                have hnn_261 := KI.w en_261 hnn_254 (okv_f (show kd (14 * kc2 + 118) = (0, 0, false) from (kd_P (k := kc2) (c := 8) (by omega) (by omega) (by decide))))
                have hrn_261 := NRx.w en_261 hrn_254 (by rw [(show kd (14 * kc2 + 118) = (0, 0, false) from (kd_P (k := kc2) (c := 8) (by omega) (by omega) (by decide)))])
                have ksn_261 := KSh.w (h := 14 * kc2 + 110) en_261 ksn_254 (by unfold tS; omega)
                have e262 : n_261 0 = nI kc0 := by rw [en_261, pk_un (by omega)]; exact e255
                have e263 : n_261 8 = nI kc8 := by rw [en_261, pk_un (by omega)]; exact e256
                have e264 : n_261 2 = nI (kc2 + 1) := by rw [en_261, pk_un (by omega)]; exact e257
                have e265 : n_261 (14 * kc2 + 110) = nI 0 := by rw [en_261, pk_un (by omega)]; exact e258
                have e266 : n_261 (14 * kc2 + 111) = nI 0 := by rw [en_261, pk_un (by omega)]; exact e259
                have e267 : n_261 (14 * kc2 + 118) = nI 0 := by rw [en_261, pk_us]
                refine pm_iincX (v := nI 9) (loc' := [some (.ref (B + 54)), some (.int za), some (.int zb), some (.int zc), some (.int zd), some (.int (nI 1)), some (.int (nI kc2)), some (.int (nI 9))]) hG dX12_person_137 rfl (nI_1 _) (by decide) (pm_c1b rfl) rfl ?_
                refine pm_goto (tgt := 121) hG dX12_person_140 rfl ?_
                refine pm_iloadi hG dX12_person_121 rfl ?_
                refine pm_bipush (v := nI 14) hG dX12_person_123 (by decide) ?_
                refine pm_icmpN_ge (tgt := 143) hG dX12_person_125 rfl (by omega) (by omega) (fun q => absurd q (by omega)) (fun _ => ?_)
                refine pm_aloadn hG dX12_person_128 rfl ?_
                refine pm_iloadi hG dX12_person_129 rfl ?_
                refine pm_iloadi hG dX12_person_131 rfl ?_
                refine pm_iconst (v := nI 0) hG dX12_person_133 (by decide) ?_
                refine pm_callV (As := [.int (nI kc2), .int (nI 9), .int (nI 0)]) (rest := []) hG hR dX12_person_134 (lkX12_97 _ rfl) okV_X12_sets rfl rfl (m_sets (d := 2) (e := 14 * kc2 + 119) (by omega) (by omega) (by omega)) rfl rfl hdd (Nat.le_refl _) (Nat.le_refl _) (by decide) (pm_kv (fun σ' cnt' hq => ?_))
                obtain ⟨rfl, rfl⟩ := hq
                obtain ⟨n_268, en_268⟩ : ∃ f : Nat → Int32, f = upd n_261 (14 * kc2 + 119) (nI 0) := ⟨_, rfl⟩
                rw [← en_268]
                have hnn_268 := KI.w en_268 hnn_261 (okv_o (show kd (14 * kc2 + 119) = (2, 2001, false) from (kd_P (k := kc2) (c := 9) (by omega) (by omega) (by decide))) (by omega))
                have hrn_268 := NRx.w en_268 hrn_261 (by rw [(show kd (14 * kc2 + 119) = (2, 2001, false) from (kd_P (k := kc2) (c := 9) (by omega) (by omega) (by decide)))])
                have ksn_268 := KSh.w (h := 14 * kc2 + 110) en_268 ksn_261 (by unfold tS; omega)
                have e269 : n_268 0 = nI kc0 := by rw [en_268, pk_un (by omega)]; exact e262
                have e270 : n_268 8 = nI kc8 := by rw [en_268, pk_un (by omega)]; exact e263
                have e271 : n_268 2 = nI (kc2 + 1) := by rw [en_268, pk_un (by omega)]; exact e264
                have e272 : n_268 (14 * kc2 + 110) = nI 0 := by rw [en_268, pk_un (by omega)]; exact e265
                have e273 : n_268 (14 * kc2 + 111) = nI 0 := by rw [en_268, pk_un (by omega)]; exact e266
                have e274 : n_268 (14 * kc2 + 119) = nI 0 := by rw [en_268, pk_us]
                refine pm_iincX (v := nI 10) (loc' := [some (.ref (B + 54)), some (.int za), some (.int zb), some (.int zc), some (.int zd), some (.int (nI 1)), some (.int (nI kc2)), some (.int (nI 10))]) hG dX12_person_137 rfl (nI_1 _) (by decide) (pm_c1b rfl) rfl ?_
                refine pm_goto (tgt := 121) hG dX12_person_140 rfl ?_
                refine pm_iloadi hG dX12_person_121 rfl ?_
                refine pm_bipush (v := nI 14) hG dX12_person_123 (by decide) ?_
                refine pm_icmpN_ge (tgt := 143) hG dX12_person_125 rfl (by omega) (by omega) (fun q => absurd q (by omega)) (fun _ => ?_)
                refine pm_aloadn hG dX12_person_128 rfl ?_
                refine pm_iloadi hG dX12_person_129 rfl ?_
                refine pm_iloadi hG dX12_person_131 rfl ?_
                refine pm_iconst (v := nI 0) hG dX12_person_133 (by decide) ?_
                refine pm_callV (As := [.int (nI kc2), .int (nI 10), .int (nI 0)]) (rest := []) hG hR dX12_person_134 (lkX12_97 _ rfl) okV_X12_sets rfl rfl (m_sets (d := 2) (e := 14 * kc2 + 120) (by omega) (by omega) (by omega)) rfl rfl hdd (Nat.le_refl _) (Nat.le_refl _) (by decide) (pm_kv (fun σ' cnt' hq => ?_))
                obtain ⟨rfl, rfl⟩ := hq
                obtain ⟨n_275, en_275⟩ : ∃ f : Nat → Int32, f = upd n_268 (14 * kc2 + 120) (nI 0) := ⟨_, rfl⟩
                rw [← en_275]
                have hnn_275 := KI.w en_275 hnn_268 (okv_f (show kd (14 * kc2 + 120) = (0, 0, false) from (kd_P (k := kc2) (c := 10) (by omega) (by omega) (by decide))))
                have hrn_275 := NRx.w en_275 hrn_268 (by rw [(show kd (14 * kc2 + 120) = (0, 0, false) from (kd_P (k := kc2) (c := 10) (by omega) (by omega) (by decide)))])
                have ksn_275 := KSh.w (h := 14 * kc2 + 110) en_275 ksn_268 (by unfold tS; omega)
                have e276 : n_275 0 = nI kc0 := by rw [en_275, pk_un (by omega)]; exact e269
                have e277 : n_275 8 = nI kc8 := by rw [en_275, pk_un (by omega)]; exact e270
                have e278 : n_275 2 = nI (kc2 + 1) := by rw [en_275, pk_un (by omega)]; exact e271
                have e279 : n_275 (14 * kc2 + 110) = nI 0 := by rw [en_275, pk_un (by omega)]; exact e272
                have e280 : n_275 (14 * kc2 + 111) = nI 0 := by rw [en_275, pk_un (by omega)]; exact e273
                have e281 : n_275 (14 * kc2 + 119) = nI 0 := by rw [en_275, pk_un (by omega)]; exact e274
                have e282 : n_275 (14 * kc2 + 120) = nI 0 := by rw [en_275, pk_us]
                refine pm_iincX (v := nI 11) (loc' := [some (.ref (B + 54)), some (.int za), some (.int zb), some (.int zc), some (.int zd), some (.int (nI 1)), some (.int (nI kc2)), some (.int (nI 11))]) hG dX12_person_137 rfl (nI_1 _) (by decide) (pm_c1b rfl) rfl ?_
                refine pm_goto (tgt := 121) hG dX12_person_140 rfl ?_
                refine pm_iloadi hG dX12_person_121 rfl ?_
                refine pm_bipush (v := nI 14) hG dX12_person_123 (by decide) ?_
                refine pm_icmpN_ge (tgt := 143) hG dX12_person_125 rfl (by omega) (by omega) (fun q => absurd q (by omega)) (fun _ => ?_)
                refine pm_aloadn hG dX12_person_128 rfl ?_
                refine pm_iloadi hG dX12_person_129 rfl ?_
                refine pm_iloadi hG dX12_person_131 rfl ?_
                refine pm_iconst (v := nI 0) hG dX12_person_133 (by decide) ?_
                refine pm_callV (As := [.int (nI kc2), .int (nI 11), .int (nI 0)]) (rest := []) hG hR dX12_person_134 (lkX12_97 _ rfl) okV_X12_sets rfl rfl (m_sets (d := 2) (e := 14 * kc2 + 121) (by omega) (by omega) (by omega)) rfl rfl hdd (Nat.le_refl _) (Nat.le_refl _) (by decide) (pm_kv (fun σ' cnt' hq => ?_))
                obtain ⟨rfl, rfl⟩ := hq
                obtain ⟨n_283, en_283⟩ : ∃ f : Nat → Int32, f = upd n_275 (14 * kc2 + 121) (nI 0) := ⟨_, rfl⟩
                rw [← en_283]
                have hnn_283 := KI.w en_283 hnn_275 (okv_n (show kd (14 * kc2 + 121) = (1, 2, true) from (kd_P (k := kc2) (c := 11) (by omega) (by omega) (by decide))) (by omega))
                have hrn_283 := NRx.unseat (p := kc2) en_283 hrn_275 (by omega)
                have ksn_283 := KSh.w (h := 14 * kc2 + 110) en_283 ksn_275 (by unfold tS; omega)
                have e284 : n_283 0 = nI kc0 := by rw [en_283, pk_un (by omega)]; exact e276
                have e285 : n_283 8 = nI kc8 := by rw [en_283, pk_un (by omega)]; exact e277
                have e286 : n_283 2 = nI (kc2 + 1) := by rw [en_283, pk_un (by omega)]; exact e278
                have e287 : n_283 (14 * kc2 + 110) = nI 0 := by rw [en_283, pk_un (by omega)]; exact e279
                have e288 : n_283 (14 * kc2 + 111) = nI 0 := by rw [en_283, pk_un (by omega)]; exact e280
                have e289 : n_283 (14 * kc2 + 119) = nI 0 := by rw [en_283, pk_un (by omega)]; exact e281
                have e290 : n_283 (14 * kc2 + 121) = nI 0 := by rw [en_283, pk_us]
                refine pm_iincX (v := nI 12) (loc' := [some (.ref (B + 54)), some (.int za), some (.int zb), some (.int zc), some (.int zd), some (.int (nI 1)), some (.int (nI kc2)), some (.int (nI 12))]) hG dX12_person_137 rfl (nI_1 _) (by decide) (pm_c1b rfl) rfl ?_
                refine pm_goto (tgt := 121) hG dX12_person_140 rfl ?_
                refine pm_iloadi hG dX12_person_121 rfl ?_
                refine pm_bipush (v := nI 14) hG dX12_person_123 (by decide) ?_
                refine pm_icmpN_ge (tgt := 143) hG dX12_person_125 rfl (by omega) (by omega) (fun q => absurd q (by omega)) (fun _ => ?_)
                refine pm_aloadn hG dX12_person_128 rfl ?_
                refine pm_iloadi hG dX12_person_129 rfl ?_
                refine pm_iloadi hG dX12_person_131 rfl ?_
                refine pm_iconst (v := nI 0) hG dX12_person_133 (by decide) ?_
                refine pm_callV (As := [.int (nI kc2), .int (nI 12), .int (nI 0)]) (rest := []) hG hR dX12_person_134 (lkX12_97 _ rfl) okV_X12_sets rfl rfl (m_sets (d := 2) (e := 14 * kc2 + 122) (by omega) (by omega) (by omega)) rfl rfl hdd (Nat.le_refl _) (Nat.le_refl _) (by decide) (pm_kv (fun σ' cnt' hq => ?_))
                obtain ⟨rfl, rfl⟩ := hq
                obtain ⟨n_291, en_291⟩ : ∃ f : Nat → Int32, f = upd n_283 (14 * kc2 + 122) (nI 0) := ⟨_, rfl⟩
                rw [← en_291]
                have hnn_291 := KI.w en_291 hnn_283 (okv_f (show kd (14 * kc2 + 122) = (0, 0, false) from (kd_P (k := kc2) (c := 12) (by omega) (by omega) (by decide))))
                have hrn_291 := NRx.w en_291 hrn_283 (by rw [(show kd (14 * kc2 + 122) = (0, 0, false) from (kd_P (k := kc2) (c := 12) (by omega) (by omega) (by decide)))])
                have ksn_291 := KSh.w (h := 14 * kc2 + 110) en_291 ksn_283 (by unfold tS; omega)
                have e292 : n_291 0 = nI kc0 := by rw [en_291, pk_un (by omega)]; exact e284
                have e293 : n_291 8 = nI kc8 := by rw [en_291, pk_un (by omega)]; exact e285
                have e294 : n_291 2 = nI (kc2 + 1) := by rw [en_291, pk_un (by omega)]; exact e286
                have e295 : n_291 (14 * kc2 + 110) = nI 0 := by rw [en_291, pk_un (by omega)]; exact e287
                have e296 : n_291 (14 * kc2 + 111) = nI 0 := by rw [en_291, pk_un (by omega)]; exact e288
                have e297 : n_291 (14 * kc2 + 119) = nI 0 := by rw [en_291, pk_un (by omega)]; exact e289
                have e298 : n_291 (14 * kc2 + 121) = nI 0 := by rw [en_291, pk_un (by omega)]; exact e290
                have e299 : n_291 (14 * kc2 + 122) = nI 0 := by rw [en_291, pk_us]
                refine pm_iincX (v := nI 13) (loc' := [some (.ref (B + 54)), some (.int za), some (.int zb), some (.int zc), some (.int zd), some (.int (nI 1)), some (.int (nI kc2)), some (.int (nI 13))]) hG dX12_person_137 rfl (nI_1 _) (by decide) (pm_c1b rfl) rfl ?_
                refine pm_goto (tgt := 121) hG dX12_person_140 rfl ?_
                refine pm_iloadi hG dX12_person_121 rfl ?_
                refine pm_bipush (v := nI 14) hG dX12_person_123 (by decide) ?_
                refine pm_icmpN_ge (tgt := 143) hG dX12_person_125 rfl (by omega) (by omega) (fun q => absurd q (by omega)) (fun _ => ?_)
                refine pm_aloadn hG dX12_person_128 rfl ?_
                refine pm_iloadi hG dX12_person_129 rfl ?_
                refine pm_iloadi hG dX12_person_131 rfl ?_
                refine pm_iconst (v := nI 0) hG dX12_person_133 (by decide) ?_
                refine pm_callV (As := [.int (nI kc2), .int (nI 13), .int (nI 0)]) (rest := []) hG hR dX12_person_134 (lkX12_97 _ rfl) okV_X12_sets rfl rfl (m_sets (d := 2) (e := 14 * kc2 + 123) (by omega) (by omega) (by omega)) rfl rfl hdd (Nat.le_refl _) (Nat.le_refl _) (by decide) (pm_kv (fun σ' cnt' hq => ?_))
                obtain ⟨rfl, rfl⟩ := hq
                obtain ⟨n_300, en_300⟩ : ∃ f : Nat → Int32, f = upd n_291 (14 * kc2 + 123) (nI 0) := ⟨_, rfl⟩
                rw [← en_300]
                have hnn_300 := KI.w en_300 hnn_291 (okv_f (show kd (14 * kc2 + 123) = (0, 0, false) from (kd_P (k := kc2) (c := 13) (by omega) (by omega) (by decide))))
                have hrn_300 := NRx.w en_300 hrn_291 (by rw [(show kd (14 * kc2 + 123) = (0, 0, false) from (kd_P (k := kc2) (c := 13) (by omega) (by omega) (by decide)))])
                have ksn_300 := KSh.w (h := 14 * kc2 + 110) en_300 ksn_291 (by unfold tS; omega)
                have e301 : n_300 0 = nI kc0 := by rw [en_300, pk_un (by omega)]; exact e292
                have e302 : n_300 8 = nI kc8 := by rw [en_300, pk_un (by omega)]; exact e293
                have e303 : n_300 2 = nI (kc2 + 1) := by rw [en_300, pk_un (by omega)]; exact e294
                have e304 : n_300 (14 * kc2 + 110) = nI 0 := by rw [en_300, pk_un (by omega)]; exact e295
                have e305 : n_300 (14 * kc2 + 111) = nI 0 := by rw [en_300, pk_un (by omega)]; exact e296
                have e306 : n_300 (14 * kc2 + 119) = nI 0 := by rw [en_300, pk_un (by omega)]; exact e297
                have e307 : n_300 (14 * kc2 + 121) = nI 0 := by rw [en_300, pk_un (by omega)]; exact e298
                have e308 : n_300 (14 * kc2 + 123) = nI 0 := by rw [en_300, pk_us]
                refine pm_iincX (v := nI 14) (loc' := [some (.ref (B + 54)), some (.int za), some (.int zb), some (.int zc), some (.int zd), some (.int (nI 1)), some (.int (nI kc2)), some (.int (nI 14))]) hG dX12_person_137 rfl (nI_1 _) (by decide) (pm_c1b rfl) rfl ?_
                refine pm_goto (tgt := 121) hG dX12_person_140 rfl ?_
                refine pm_iloadi hG dX12_person_121 rfl ?_
                refine pm_bipush (v := nI 14) hG dX12_person_123 (by decide) ?_
                refine pm_icmpN_ge (tgt := 143) hG dX12_person_125 rfl (by omega) (by omega) (fun _ => ?_) (fun q => absurd q (by omega))
                refine pm_aloadn hG dX12_person_143 rfl ?_
                refine pm_iloadi hG dX12_person_144 rfl ?_
                refine pm_iconst (v := nI 0) hG dX12_person_146 (by decide) ?_
                refine pm_iloadn hG dX12_person_147 rfl ?_
                refine pm_top (v := nI k3) ek3 ?_
                refine pm_callV (As := [.int (nI kc2), .int (nI 0), .int (nI k3)]) (rest := []) hG hR dX12_person_148 (lkX12_97 _ rfl) okV_X12_sets rfl rfl (m_sets (d := 2) (e := 14 * kc2 + 110) (by omega) (by omega) (by omega)) rfl rfl hdd (Nat.le_refl _) (Nat.le_refl _) (by decide) (pm_kv (fun σ' cnt' hq => ?_))
                obtain ⟨rfl, rfl⟩ := hq
                obtain ⟨n_309, en_309⟩ : ∃ f : Nat → Int32, f = upd n_300 (14 * kc2 + 110) (nI k3) := ⟨_, rfl⟩
                rw [← en_309]
                have hnn_309 := KI.w en_309 hnn_300 (okv_f (show kd (14 * kc2 + 110) = (0, 0, false) from (kd_P (k := kc2) (c := 0) (by omega) (by omega) (by decide))))
                have hrn_309 := NRx.w en_309 hrn_300 (by rw [(show kd (14 * kc2 + 110) = (0, 0, false) from (kd_P (k := kc2) (c := 0) (by omega) (by omega) (by decide)))])
                have ksn_309 := KSh.w (h := 14 * kc2 + 110) en_309 ksn_300 (by unfold tS; omega)
                have e310 : n_309 0 = nI kc0 := by rw [en_309, pk_un (by omega)]; exact e301
                have e311 : n_309 8 = nI kc8 := by rw [en_309, pk_un (by omega)]; exact e302
                have e312 : n_309 2 = nI (kc2 + 1) := by rw [en_309, pk_un (by omega)]; exact e303
                have e313 : n_309 (14 * kc2 + 111) = nI 0 := by rw [en_309, pk_un (by omega)]; exact e305
                have e314 : n_309 (14 * kc2 + 119) = nI 0 := by rw [en_309, pk_un (by omega)]; exact e306
                have e315 : n_309 (14 * kc2 + 121) = nI 0 := by rw [en_309, pk_un (by omega)]; exact e307
                have e316 : n_309 (14 * kc2 + 110) = nI k3 := by rw [en_309, pk_us]
                refine pm_aloadn hG dX12_person_151 rfl ?_
                refine pm_iloadi hG dX12_person_152 rfl ?_
                refine pm_iconst (v := nI 1) hG dX12_person_154 (by decide) ?_
                refine pm_iloadn hG dX12_person_155 rfl ?_
                refine pm_callV (As := [.int (nI kc2), .int (nI 1), .int zb]) (rest := []) hG hR dX12_person_156 (lkX12_97 _ rfl) okV_X12_sets rfl rfl (m_sets (d := 2) (e := 14 * kc2 + 111) (by omega) (by omega) (by omega)) rfl rfl hdd (Nat.le_refl _) (Nat.le_refl _) (by decide) (pm_kv (fun σ' cnt' hq => ?_))
                obtain ⟨rfl, rfl⟩ := hq
                obtain ⟨n_317, en_317⟩ : ∃ f : Nat → Int32, f = upd n_309 (14 * kc2 + 111) zb := ⟨_, rfl⟩
                rw [← en_317]
                have hnn_317 := KI.w en_317 hnn_309 (okv_f (show kd (14 * kc2 + 111) = (0, 0, false) from (kd_P (k := kc2) (c := 1) (by omega) (by omega) (by decide))))
                have hrn_317 := NRx.w en_317 hrn_309 (by rw [(show kd (14 * kc2 + 111) = (0, 0, false) from (kd_P (k := kc2) (c := 1) (by omega) (by omega) (by decide)))])
                have ksn_317 := KSh.w (h := 14 * kc2 + 110) en_317 ksn_309 (by unfold tS; omega)
                have e318 : n_317 0 = nI kc0 := by rw [en_317, pk_un (by omega)]; exact e310
                have e319 : n_317 8 = nI kc8 := by rw [en_317, pk_un (by omega)]; exact e311
                have e320 : n_317 2 = nI (kc2 + 1) := by rw [en_317, pk_un (by omega)]; exact e312
                have e321 : n_317 (14 * kc2 + 119) = nI 0 := by rw [en_317, pk_un (by omega)]; exact e314
                have e322 : n_317 (14 * kc2 + 121) = nI 0 := by rw [en_317, pk_un (by omega)]; exact e315
                have e323 : n_317 (14 * kc2 + 110) = nI k3 := by rw [en_317, pk_un (by omega)]; exact e316
                have e324 : n_317 (14 * kc2 + 111) = zb := by rw [en_317, pk_us]
                refine pm_aloadn hG dX12_person_159 rfl ?_
                refine pm_iloadi hG dX12_person_160 rfl ?_
                refine pm_iconst (v := nI 2) hG dX12_person_162 (by decide) ?_
                refine pm_iloadn hG dX12_person_163 rfl ?_
                refine pm_top (v := nI k9) ek9 ?_
                refine pm_bipush (v := nI 100) hG dX12_person_164 (by decide) ?_
                refine pm_idivN hG dX12_person_166 (by omega) (by decide) (by decide) ?_
                refine pm_iconst (v := nI 1) hG dX12_person_167 (by decide) ?_
                refine pm_isub hG dX12_person_168 ?_
                refine pm_top (v := (-1)) ek11 ?_
                refine pm_callV (As := [.int (nI kc2), .int (nI 2), .int (-1)]) (rest := []) hG hR dX12_person_169 (lkX12_97 _ rfl) okV_X12_sets rfl rfl (m_sets (d := 2) (e := 14 * kc2 + 112) (by omega) (by omega) (by omega)) rfl rfl hdd (Nat.le_refl _) (Nat.le_refl _) (by decide) (pm_kv (fun σ' cnt' hq => ?_))
                obtain ⟨rfl, rfl⟩ := hq
                obtain ⟨n_325, en_325⟩ : ∃ f : Nat → Int32, f = upd n_317 (14 * kc2 + 112) (-1) := ⟨_, rfl⟩
                rw [← en_325]
                have hnn_325 := KI.w en_325 hnn_317 (okv_m (show kd (14 * kc2 + 112) = (2, 20, false) from (kd_P (k := kc2) (c := 2) (by omega) (by omega) (by decide))))
                have hrn_325 := NRx.w en_325 hrn_317 (by rw [(show kd (14 * kc2 + 112) = (2, 20, false) from (kd_P (k := kc2) (c := 2) (by omega) (by omega) (by decide)))])
                have ksn_325 := KSh.w (h := 14 * kc2 + 110) en_325 ksn_317 (by unfold tS; omega)
                have e326 : n_325 0 = nI kc0 := by rw [en_325, pk_un (by omega)]; exact e318
                have e327 : n_325 8 = nI kc8 := by rw [en_325, pk_un (by omega)]; exact e319
                have e328 : n_325 2 = nI (kc2 + 1) := by rw [en_325, pk_un (by omega)]; exact e320
                have e329 : n_325 (14 * kc2 + 119) = nI 0 := by rw [en_325, pk_un (by omega)]; exact e321
                have e330 : n_325 (14 * kc2 + 121) = nI 0 := by rw [en_325, pk_un (by omega)]; exact e322
                have e331 : n_325 (14 * kc2 + 110) = nI k3 := by rw [en_325, pk_un (by omega)]; exact e323
                have e332 : n_325 (14 * kc2 + 111) = zb := by rw [en_325, pk_un (by omega)]; exact e324
                have e333 : n_325 (14 * kc2 + 112) = (-1) := by rw [en_325, pk_us]
                refine pm_aloadn hG dX12_person_172 rfl ?_
                refine pm_iloadi hG dX12_person_173 rfl ?_
                refine pm_iconst (v := nI 3) hG dX12_person_175 (by decide) ?_
                refine pm_iloadn hG dX12_person_176 rfl ?_
                refine pm_top (v := nI k9) ek9 ?_
                refine pm_bipush (v := nI 100) hG dX12_person_177 (by decide) ?_
                refine pm_iremM hG dX12_person_179 (by omega) (by decide) (by decide) ?_
                refine pm_iconst (v := nI 1) hG dX12_person_180 (by decide) ?_
                refine pm_isub hG dX12_person_181 ?_
                refine pm_top (v := nI k15) ek15 ?_
                refine pm_callV (As := [.int (nI kc2), .int (nI 3), .int (nI k15)]) (rest := []) hG hR dX12_person_182 (lkX12_97 _ rfl) okV_X12_sets rfl rfl (m_sets (d := 2) (e := 14 * kc2 + 113) (by omega) (by omega) (by omega)) rfl rfl hdd (Nat.le_refl _) (Nat.le_refl _) (by decide) (pm_kv (fun σ' cnt' hq => ?_))
                obtain ⟨rfl, rfl⟩ := hq
                obtain ⟨n_334, en_334⟩ : ∃ f : Nat → Int32, f = upd n_325 (14 * kc2 + 113) (nI k15) := ⟨_, rfl⟩
                rw [← en_334]
                have hnn_334 := KI.w en_334 hnn_325 (okv_o (show kd (14 * kc2 + 113) = (2, 20, false) from (kd_P (k := kc2) (c := 3) (by omega) (by omega) (by decide))) (by omega))
                have hrn_334 := NRx.w en_334 hrn_325 (by rw [(show kd (14 * kc2 + 113) = (2, 20, false) from (kd_P (k := kc2) (c := 3) (by omega) (by omega) (by decide)))])
                have ksn_334 := KSh.w (h := 14 * kc2 + 110) en_334 ksn_325 (by unfold tS; omega)
                have e335 : n_334 0 = nI kc0 := by rw [en_334, pk_un (by omega)]; exact e326
                have e336 : n_334 8 = nI kc8 := by rw [en_334, pk_un (by omega)]; exact e327
                have e337 : n_334 2 = nI (kc2 + 1) := by rw [en_334, pk_un (by omega)]; exact e328
                have e338 : n_334 (14 * kc2 + 119) = nI 0 := by rw [en_334, pk_un (by omega)]; exact e329
                have e339 : n_334 (14 * kc2 + 121) = nI 0 := by rw [en_334, pk_un (by omega)]; exact e330
                have e340 : n_334 (14 * kc2 + 110) = nI k3 := by rw [en_334, pk_un (by omega)]; exact e331
                have e341 : n_334 (14 * kc2 + 111) = zb := by rw [en_334, pk_un (by omega)]; exact e332
                have e342 : n_334 (14 * kc2 + 113) = nI k15 := by rw [en_334, pk_us]
                refine pm_aloadn hG dX12_person_185 rfl ?_
                refine pm_iloadi hG dX12_person_186 rfl ?_
                refine pm_iconst (v := nI 4) hG dX12_person_188 (by decide) ?_
                refine pm_iloadi hG dX12_person_189 rfl ?_
                refine pm_top (v := nI k202) ek202 ?_
                refine pm_callV (As := [.int (nI kc2), .int (nI 4), .int (nI k202)]) (rest := []) hG hR dX12_person_191 (lkX12_97 _ rfl) okV_X12_sets rfl rfl (m_sets (d := 2) (e := 14 * kc2 + 114) (by omega) (by omega) (by omega)) rfl rfl hdd (Nat.le_refl _) (Nat.le_refl _) (by decide) (pm_kv (fun σ' cnt' hq => ?_))
                obtain ⟨rfl, rfl⟩ := hq
                obtain ⟨n_343, en_343⟩ : ∃ f : Nat → Int32, f = upd n_334 (14 * kc2 + 114) (nI k202) := ⟨_, rfl⟩
                rw [← en_343]
                have hnn_343 := KI.w en_343 hnn_334 (okv_o (show kd (14 * kc2 + 114) = (2, 10, false) from (kd_P (k := kc2) (c := 4) (by omega) (by omega) (by decide))) (by omega))
                have hrn_343 := NRx.w en_343 hrn_334 (by rw [(show kd (14 * kc2 + 114) = (2, 10, false) from (kd_P (k := kc2) (c := 4) (by omega) (by omega) (by decide)))])
                have ksn_343 := KSh.w (h := 14 * kc2 + 110) en_343 ksn_334 (by unfold tS; omega)
                have e344 : n_343 0 = nI kc0 := by rw [en_343, pk_un (by omega)]; exact e335
                have e345 : n_343 8 = nI kc8 := by rw [en_343, pk_un (by omega)]; exact e336
                have e346 : n_343 2 = nI (kc2 + 1) := by rw [en_343, pk_un (by omega)]; exact e337
                have e347 : n_343 (14 * kc2 + 119) = nI 0 := by rw [en_343, pk_un (by omega)]; exact e338
                have e348 : n_343 (14 * kc2 + 121) = nI 0 := by rw [en_343, pk_un (by omega)]; exact e339
                have e349 : n_343 (14 * kc2 + 110) = nI k3 := by rw [en_343, pk_un (by omega)]; exact e340
                have e350 : n_343 (14 * kc2 + 111) = zb := by rw [en_343, pk_un (by omega)]; exact e341
                have e351 : n_343 (14 * kc2 + 114) = nI k202 := by rw [en_343, pk_us]
                refine pm_aloadn hG dX12_person_194 rfl ?_
                refine pm_iloadi hG dX12_person_195 rfl ?_
                refine pm_bipush (v := nI 9) hG dX12_person_197 (by decide) ?_
                refine pm_iconst (v := (-1)) hG dX12_person_199 (by decide) ?_
                refine pm_callV (As := [.int (nI kc2), .int (nI 9), .int (-1)]) (rest := []) hG hR dX12_person_200 (lkX12_97 _ rfl) okV_X12_sets rfl rfl (m_sets (d := 2) (e := 14 * kc2 + 119) (by omega) (by omega) (by omega)) rfl rfl hdd (Nat.le_refl _) (Nat.le_refl _) (by decide) (pm_kv (fun σ' cnt' hq => ?_))
                obtain ⟨rfl, rfl⟩ := hq
                obtain ⟨n_352, en_352⟩ : ∃ f : Nat → Int32, f = upd n_343 (14 * kc2 + 119) (-1) := ⟨_, rfl⟩
                rw [← en_352]
                have hnn_352 := KI.w en_352 hnn_343 (okv_m (show kd (14 * kc2 + 119) = (2, 2001, false) from (kd_P (k := kc2) (c := 9) (by omega) (by omega) (by decide))))
                have hrn_352 := NRx.w en_352 hrn_343 (by rw [(show kd (14 * kc2 + 119) = (2, 2001, false) from (kd_P (k := kc2) (c := 9) (by omega) (by omega) (by decide)))])
                have ksn_352 := KSh.w (h := 14 * kc2 + 110) en_352 ksn_343 (by unfold tS; omega)
                have e353 : n_352 0 = nI kc0 := by rw [en_352, pk_un (by omega)]; exact e344
                have e354 : n_352 8 = nI kc8 := by rw [en_352, pk_un (by omega)]; exact e345
                have e355 : n_352 2 = nI (kc2 + 1) := by rw [en_352, pk_un (by omega)]; exact e346
                have e356 : n_352 (14 * kc2 + 121) = nI 0 := by rw [en_352, pk_un (by omega)]; exact e348
                have e357 : n_352 (14 * kc2 + 110) = nI k3 := by rw [en_352, pk_un (by omega)]; exact e349
                have e358 : n_352 (14 * kc2 + 111) = zb := by rw [en_352, pk_un (by omega)]; exact e350
                have e359 : n_352 (14 * kc2 + 119) = (-1) := by rw [en_352, pk_us]
                refine pm_aloadn hG dX12_person_203 rfl ?_
                refine pm_iloadi hG dX12_person_204 rfl ?_
                refine pm_bipush (v := nI 10) hG dX12_person_206 (by decide) ?_
                refine pm_iconst (v := (-1)) hG dX12_person_208 (by decide) ?_
                refine pm_callV (As := [.int (nI kc2), .int (nI 10), .int (-1)]) (rest := []) hG hR dX12_person_209 (lkX12_97 _ rfl) okV_X12_sets rfl rfl (m_sets (d := 2) (e := 14 * kc2 + 120) (by omega) (by omega) (by omega)) rfl rfl hdd (Nat.le_refl _) (Nat.le_refl _) (by decide) (pm_kv (fun σ' cnt' hq => ?_))
                obtain ⟨rfl, rfl⟩ := hq
                obtain ⟨n_360, en_360⟩ : ∃ f : Nat → Int32, f = upd n_352 (14 * kc2 + 120) (-1) := ⟨_, rfl⟩
                rw [← en_360]
                have hnn_360 := KI.w en_360 hnn_352 (okv_f (show kd (14 * kc2 + 120) = (0, 0, false) from (kd_P (k := kc2) (c := 10) (by omega) (by omega) (by decide))))
                have hrn_360 := NRx.w en_360 hrn_352 (by rw [(show kd (14 * kc2 + 120) = (0, 0, false) from (kd_P (k := kc2) (c := 10) (by omega) (by omega) (by decide)))])
                have ksn_360 := KSh.w (h := 14 * kc2 + 110) en_360 ksn_352 (by unfold tS; omega)
                have e361 : n_360 0 = nI kc0 := by rw [en_360, pk_un (by omega)]; exact e353
                have e362 : n_360 8 = nI kc8 := by rw [en_360, pk_un (by omega)]; exact e354
                have e363 : n_360 2 = nI (kc2 + 1) := by rw [en_360, pk_un (by omega)]; exact e355
                have e364 : n_360 (14 * kc2 + 121) = nI 0 := by rw [en_360, pk_un (by omega)]; exact e356
                have e365 : n_360 (14 * kc2 + 110) = nI k3 := by rw [en_360, pk_un (by omega)]; exact e357
                have e366 : n_360 (14 * kc2 + 111) = zb := by rw [en_360, pk_un (by omega)]; exact e358
                have e367 : n_360 (14 * kc2 + 119) = (-1) := by rw [en_360, pk_un (by omega)]; exact e359
                have e368 : n_360 (14 * kc2 + 120) = (-1) := by rw [en_360, pk_us]
                refine pm_aloadn hG dX12_person_212 rfl ?_
                refine pm_iloadi hG dX12_person_213 rfl ?_
                refine pm_bipush (v := nI 12) hG dX12_person_215 (by decide) ?_
                refine pm_iconst (v := nI 1) hG dX12_person_217 (by decide) ?_
                refine pm_callV (As := [.int (nI kc2), .int (nI 12), .int (nI 1)]) (rest := []) hG hR dX12_person_218 (lkX12_97 _ rfl) okV_X12_sets rfl rfl (m_sets (d := 2) (e := 14 * kc2 + 122) (by omega) (by omega) (by omega)) rfl rfl hdd (Nat.le_refl _) (Nat.le_refl _) (by decide) (pm_kv (fun σ' cnt' hq => ?_))
                obtain ⟨rfl, rfl⟩ := hq
                obtain ⟨n_369, en_369⟩ : ∃ f : Nat → Int32, f = upd n_360 (14 * kc2 + 122) (nI 1) := ⟨_, rfl⟩
                rw [← en_369]
                have hnn_369 := KI.w en_369 hnn_360 (okv_f (show kd (14 * kc2 + 122) = (0, 0, false) from (kd_P (k := kc2) (c := 12) (by omega) (by omega) (by decide))))
                have hrn_369 := NRx.w en_369 hrn_360 (by rw [(show kd (14 * kc2 + 122) = (0, 0, false) from (kd_P (k := kc2) (c := 12) (by omega) (by omega) (by decide)))])
                have ksn_369 := KSh.w (h := 14 * kc2 + 110) en_369 ksn_360 (by unfold tS; omega)
                have e370 : n_369 0 = nI kc0 := by rw [en_369, pk_un (by omega)]; exact e361
                have e371 : n_369 8 = nI kc8 := by rw [en_369, pk_un (by omega)]; exact e362
                have e372 : n_369 2 = nI (kc2 + 1) := by rw [en_369, pk_un (by omega)]; exact e363
                have e373 : n_369 (14 * kc2 + 121) = nI 0 := by rw [en_369, pk_un (by omega)]; exact e364
                have e374 : n_369 (14 * kc2 + 110) = nI k3 := by rw [en_369, pk_un (by omega)]; exact e365
                have e375 : n_369 (14 * kc2 + 111) = zb := by rw [en_369, pk_un (by omega)]; exact e366
                have e376 : n_369 (14 * kc2 + 119) = (-1) := by rw [en_369, pk_un (by omega)]; exact e367
                have e377 : n_369 (14 * kc2 + 122) = nI 1 := by rw [en_369, pk_us]
                refine pm_iloadi hG dX12_person_221 rfl ?_
                exact pm_iret hG hF dX12_person_223 rfl (Nat.le_refl _) (Nat.le_refl _) ⟨_, rfl, ⟨_, _, _, rfl, hnn_369, hrn_369, e370.trans ekc0.symm, e371.trans ekc8.symm, ⟨(vE_y (T := pN n) (d := n 8) (t := n 0) (p := n 2) (a := za) (b := zb) (c := zc) (e := zd) (not6 (rg_in (a := 0) (b := 1) (by omega) ek3 (by omega) (by omega)) (fun q => q.elim ac5 (by rw [ekc8]; exact bc5)) (by rw [ek9]; exact nI_pos (by omega)) (nt_in ekc0 (by omega) ek202 (by omega)) (fun q => q (by rw [dv1 ek9 (by omega)]; exact pk11)) (fun q => q (by rw [rm1 ek9 (by omega)]; exact pk15))) ekc2 (by omega)).1, e372.trans (vE_y (T := pN n) (d := n 8) (t := n 0) (p := n 2) (a := za) (b := zb) (c := zc) (e := zd) (not6 (rg_in (a := 0) (b := 1) (by omega) ek3 (by omega) (by omega)) (fun q => q.elim ac5 (by rw [ekc8]; exact bc5)) (by rw [ek9]; exact nI_pos (by omega)) (nt_in ekc0 (by omega) ek202 (by omega)) (fun q => q (by rw [dv1 ek9 (by omega)]; exact pk11)) (fun q => q (by rw [rm1 ek9 (by omega)]; exact pk15))) ekc2 (by omega)).2.1, fun j hj => by rw [e372, nI_clamp (by omega)] at hj; rw [(vE_y (T := pN n) (d := n 8) (t := n 0) (p := n 2) (a := za) (b := zb) (c := zc) (e := zd) (not6 (rg_in (a := 0) (b := 1) (by omega) ek3 (by omega) (by omega)) (fun q => q.elim ac5 (by rw [ekc8]; exact bc5)) (by rw [ek9]; exact nI_pos (by omega)) (nt_in ekc0 (by omega) ek202 (by omega)) (fun q => q (by rw [dv1 ek9 (by omega)]; exact pk11)) (fun q => q (by rw [rm1 ek9 (by omega)]; exact pk15))) ekc2 (by omega)).2.2]; exact tP_ok ksn_369 (e374.trans ek3.symm) e375 e376 e373 (by omega) j hj⟩⟩, rfl⟩
              · refine pm_aloadn hG dX12_person_102 rfl ?_
                refine pm_iconst (v := nI 4) hG dX12_person_103 (by decide) ?_
                refine pm_callV (As := [.int (nI 4)]) (rest := []) hG hR dX12_person_104 (lkX12_80 _ rfl) okV_X12_finds rfl rfl (m_finds (d := 2) (by decide) hn hz (by omega)) rfl rfl hdd (Nat.le_refl _) (Nat.le_refl _) (by decide) (pm_ki (fun v378 σ' cnt' hq => ?_))
                obtain ⟨⟨I379, A379, rfl⟩, rfl, fv378⟩ := hq
                exact pm_iret hG hF dX12_person_107 rfl (Nat.le_refl _) (Nat.le_refl _) ⟨_, rfl, ⟨_, _, _, rfl, hn, hr, ekc0.trans ekc0.symm, ekc8.trans ekc8.symm, ⟨fv378.trans ((by decide : (-1000000 : Int32) - nI 4 = -1000004).trans (vE_f (T := pN n) (d := n 8) (t := n 0) (p := n 2) (a := za) (b := zb) (c := zc) (e := zd) (not6 (rg_in (a := 0) (b := 1) (by omega) ek3 (by omega) (by omega)) (fun q => q.elim ac5 (by rw [ekc8]; exact bc5)) (by rw [ek9]; exact nI_pos (by omega)) (nt_in ekc0 (by omega) ek202 (by omega)) (fun q => q (by rw [dv1 ek9 (by omega)]; exact pk11)) (fun q => q (by rw [rm1 ek9 (by omega)]; exact pk15))) (ekc2.trans (congrArg nI (by omega)))).1), (vE_f (T := pN n) (d := n 8) (t := n 0) (p := n 2) (a := za) (b := zb) (c := zc) (e := zd) (not6 (rg_in (a := 0) (b := 1) (by omega) ek3 (by omega) (by omega)) (fun q => q.elim ac5 (by rw [ekc8]; exact bc5)) (by rw [ek9]; exact nI_pos (by omega)) (nt_in ekc0 (by omega) ek202 (by omega)) (fun q => q (by rw [dv1 ek9 (by omega)]; exact pk11)) (fun q => q (by rw [rm1 ek9 (by omega)]; exact pk15))) (ekc2.trans (congrArg nI (by omega)))).2.1, fun j _ => by rw [(vE_f (T := pN n) (d := n 8) (t := n 0) (p := n 2) (a := za) (b := zb) (c := zc) (e := zd) (not6 (rg_in (a := 0) (b := 1) (by omega) ek3 (by omega) (by omega)) (fun q => q.elim ac5 (by rw [ekc8]; exact bc5)) (by rw [ek9]; exact nI_pos (by omega)) (nt_in ekc0 (by omega) ek202 (by omega)) (fun q => q (by rw [dv1 ek9 (by omega)]; exact pk11)) (fun q => q (by rw [rm1 ek9 (by omega)]; exact pk15))) (ekc2.trans (congrArg nI (by omega)))).2.2]⟩⟩, rfl⟩
            · refine pm_ifN_eq (tgt := 73) hG dX12_person_66 rfl (by omega) (fun _ => ?_) (fun q => absurd q (by omega))
              refine pm_iconst (v := nI 0) hG dX12_person_73 (by decide) ?_
              refine pm_istoreXi (loc' := [some (.ref (B + 54)), some (.int za), some (.int zb), some (.int zc), some (.int zd), some (.int (nI 0)), none, none]) hG dX12_person_74 (by decide) (pm_c1b rfl) rfl ?_
              refine pm_iloadi hG dX12_person_76 rfl ?_
              refine pm_ifN_ne (tgt := 87) hG dX12_person_78 rfl (by omega) (fun q => absurd q (by omega)) (fun _ => ?_)
              refine pm_aloadn hG dX12_person_81 rfl ?_
              refine pm_iconst (v := nI 1) hG dX12_person_82 (by decide) ?_
              refine pm_callV (As := [.int (nI 1)]) (rest := []) hG hR dX12_person_83 (lkX12_80 _ rfl) okV_X12_finds rfl rfl (m_finds (d := 2) (by decide) hn hz (by omega)) rfl rfl hdd (Nat.le_refl _) (Nat.le_refl _) (by decide) (pm_ki (fun v380 σ' cnt' hq => ?_))
              obtain ⟨⟨I381, A381, rfl⟩, rfl, fv380⟩ := hq
              exact pm_iret hG hF dX12_person_86 rfl (Nat.le_refl _) (Nat.le_refl _) ⟨_, rfl, ⟨_, _, _, rfl, hn, hr, ekc0.trans ekc0.symm, ekc8.trans ekc8.symm, ⟨fv380.trans ((by decide : (-1000000 : Int32) - nI 1 = -1000001).trans (vE_n (T := pN n) (d := n 8) (t := n 0) (p := n 2) (a := za) (b := zb) (c := zc) (e := zd) (Or.inr (Or.inr (Or.inr (Or.inl (nt_out ekc0 (by omega) ntk202)))))).1), (vE_n (T := pN n) (d := n 8) (t := n 0) (p := n 2) (a := za) (b := zb) (c := zc) (e := zd) (Or.inr (Or.inr (Or.inr (Or.inl (nt_out ekc0 (by omega) ntk202)))))).2.1, fun j _ => by rw [(vE_n (T := pN n) (d := n 8) (t := n 0) (p := n 2) (a := za) (b := zb) (c := zc) (e := zd) (Or.inr (Or.inr (Or.inr (Or.inl (nt_out ekc0 (by omega) ntk202)))))).2.2]⟩⟩, rfl⟩
        · refine pm_ifN_eq (tgt := 73) hG dX12_person_42 rfl (by omega) (fun q => absurd q (by omega)) (fun _ => ?_)
          refine pm_aloadn hG dX12_person_45 rfl ?_
          refine pm_iloadn hG dX12_person_46 rfl ?_
          refine pm_top (v := nI k9) ek9 ?_
          refine pm_bipush (v := nI 100) hG dX12_person_47 (by decide) ?_
          refine pm_iremM hG dX12_person_49 (by omega) (by decide) (by decide) ?_
          refine pm_iconst (v := nI 1) hG dX12_person_50 (by decide) ?_
          refine pm_isub hG dX12_person_51 ?_
          refine pm_iconst (v := nI 0) hG dX12_person_52 (by decide) ?_
          refine pm_iloadn hG dX12_person_53 rfl ?_
          refine pm_callV (As := [.int ((nI ((k9 % 100))) - (nI 1)), .int (nI 0), .int zb]) (rest := []) hG hR dX12_person_54 (lkX12_94 _ rfl) okV_X12_isParent rfl rfl (m_isParent (d := 2) (by decide) hn hz) rfl rfl hdd (Nat.le_refl _) (Nat.le_refl _) (by decide) (pm_ki (fun v382 σ' cnt' hq => ?_))
          obtain ⟨rfl, rfl, hq⟩ := hq
          rcases hq with ⟨rfl, pk383⟩ | ⟨rfl, pk383, ek383 | ⟨k383, hk383, ek383⟩⟩
          · refine pm_ifN_eq (tgt := 73) hG dX12_person_57 rfl (by omega) (fun _ => ?_) (fun q => absurd q (by omega))
            refine pm_iconst (v := nI 0) hG dX12_person_73 (by decide) ?_
            refine pm_istoreXi (loc' := [some (.ref (B + 54)), some (.int za), some (.int zb), some (.int zc), some (.int zd), some (.int (nI 0)), none, none]) hG dX12_person_74 (by decide) (pm_c1b rfl) rfl ?_
            refine pm_iloadi hG dX12_person_76 rfl ?_
            refine pm_ifN_ne (tgt := 87) hG dX12_person_78 rfl (by omega) (fun q => absurd q (by omega)) (fun _ => ?_)
            refine pm_aloadn hG dX12_person_81 rfl ?_
            refine pm_iconst (v := nI 1) hG dX12_person_82 (by decide) ?_
            refine pm_callV (As := [.int (nI 1)]) (rest := []) hG hR dX12_person_83 (lkX12_80 _ rfl) okV_X12_finds rfl rfl (m_finds (d := 2) (by decide) hn hz (by omega)) rfl rfl hdd (Nat.le_refl _) (Nat.le_refl _) (by decide) (pm_ki (fun v384 σ' cnt' hq => ?_))
            obtain ⟨⟨I385, A385, rfl⟩, rfl, fv384⟩ := hq
            exact pm_iret hG hF dX12_person_86 rfl (Nat.le_refl _) (Nat.le_refl _) ⟨_, rfl, ⟨_, _, _, rfl, hn, hr, ekc0.trans ekc0.symm, ekc8.trans ekc8.symm, ⟨fv384.trans ((by decide : (-1000000 : Int32) - nI 1 = -1000001).trans (vE_n (T := pN n) (d := n 8) (t := n 0) (p := n 2) (a := za) (b := zb) (c := zc) (e := zd) (Or.inr (Or.inr (Or.inr (Or.inr (Or.inr (by rw [rm1 ek9 (by omega)]; exact pk383))))))).1), (vE_n (T := pN n) (d := n 8) (t := n 0) (p := n 2) (a := za) (b := zb) (c := zc) (e := zd) (Or.inr (Or.inr (Or.inr (Or.inr (Or.inr (by rw [rm1 ek9 (by omega)]; exact pk383))))))).2.1, fun j _ => by rw [(vE_n (T := pN n) (d := n 8) (t := n 0) (p := n 2) (a := za) (b := zb) (c := zc) (e := zd) (Or.inr (Or.inr (Or.inr (Or.inr (Or.inr (by rw [rm1 ek9 (by omega)]; exact pk383))))))).2.2]⟩⟩, rfl⟩
          · refine pm_ifN_eq (tgt := 73) hG dX12_person_57 rfl (by omega) (fun q => absurd q (by omega)) (fun _ => ?_)
            refine pm_aloadn hG dX12_person_60 rfl ?_
            refine pm_iloadi hG dX12_person_61 rfl ?_
            refine pm_callV (As := [.int zd]) (rest := []) hG hR dX12_person_63 (lkX12_84 _ rfl) okV_X12_isTown rfl rfl (m_isTown (d := 2) (by decide) ekc0 (by omega)) rfl rfl hdd (Nat.le_refl _) (Nat.le_refl _) (by decide) (pm_ki (fun v386 σ' cnt' hq => ?_))
            obtain ⟨hq, rfl, rfl⟩ := hq
            rcases hq with ⟨rfl, k388, hk388, ek388⟩ | ⟨rfl, ntk388⟩
            · refine pm_ifN_eq (tgt := 73) hG dX12_person_66 rfl (by omega) (fun q => absurd q (by omega)) (fun _ => ?_)
              refine pm_iconst (v := nI 1) hG dX12_person_69 (by decide) ?_
              refine pm_goto (tgt := 74) hG dX12_person_70 rfl ?_
              refine pm_istoreXi (loc' := [some (.ref (B + 54)), some (.int za), some (.int zb), some (.int zc), some (.int zd), some (.int (nI 1)), none, none]) hG dX12_person_74 (by decide) (pm_c1b rfl) rfl ?_
              refine pm_iloadi hG dX12_person_76 rfl ?_
              refine pm_ifN_ne (tgt := 87) hG dX12_person_78 rfl (by omega) (fun _ => ?_) (fun q => absurd q (by omega))
              refine pm_aloadn hG dX12_person_87 rfl ?_
              refine pm_getf hG dX12_person_88 (flX12_7 _ rfl) rfl rfl ?_
              refine pm_iconst (v := nI 2) hG dX12_person_91 (by decide) ?_
              refine pm_ialdN hG dX12_person_92 rfl (by decide) (by omega) ?_
              refine pm_top (v := nI kc2) ekc2 ?_
              refine pm_istoreXi (loc' := [some (.ref (B + 54)), some (.int za), some (.int zb), some (.int zc), some (.int zd), some (.int (nI 1)), some (.int (nI kc2)), none]) hG dX12_person_93 (by decide) (pm_c1b rfl) rfl ?_
              refine pm_iloadi hG dX12_person_95 rfl ?_
              refine pm_bipush (v := nI 20) hG dX12_person_97 (by decide) ?_
              refine pm_icmpN_ne (tgt := 108) hG dX12_person_99 rfl (by omega) (by omega) (fun c389 => ?_) (fun c389 => ?_)
              · refine pm_aloadn hG dX12_person_108 rfl ?_
                refine pm_getf hG dX12_person_109 (flX12_7 _ rfl) rfl rfl ?_
                refine pm_iconst (v := nI 2) hG dX12_person_112 (by decide) ?_
                refine pm_dup2 hG dX12_person_113 rfl rfl ?_
                refine pm_ialdN hG dX12_person_114 rfl (by decide) (by omega) ?_
                refine pm_top (v := nI kc2) ekc2 ?_
                refine pm_iconst (v := nI 1) hG dX12_person_115 (by decide) ?_
                refine pm_iaddN (c := kc2 + 1) hG dX12_person_116 (by omega) ?_
                refine pm_iastN hG dX12_person_117 rfl (by decide) (by omega) ?_
                refine mdn_now (fun n_390 en_390 => ?_)
                have hnn_390 := KI.w en_390 hn (okv_n (show kd 2 = (1, 21, true) by decide) (by omega))
                have hrn_390 := NRx.pers en_390 hr ekc0 (by omega) ekc2 (by omega)
                have ksn_390 := KSh.w (h := 14 * kc2 + 110) en_390 KSh.rf (by unfold tS; omega)
                have e391 : n_390 0 = nI kc0 := by rw [en_390, pk_un (by omega)]; exact ekc0
                have e392 : n_390 8 = nI kc8 := by rw [en_390, pk_un (by omega)]; exact ekc8
                have e393 : n_390 2 = nI (kc2 + 1) := by rw [en_390, pk_us]
                refine pm_iconst (v := nI 0) hG dX12_person_118 (by decide) ?_
                refine pm_istoreXi (loc' := [some (.ref (B + 54)), some (.int za), some (.int zb), some (.int zc), some (.int zd), some (.int (nI 1)), some (.int (nI kc2)), some (.int (nI 0))]) hG dX12_person_119 (by decide) (pm_c1b rfl) rfl ?_
                refine pm_iloadi hG dX12_person_121 rfl ?_
                refine pm_bipush (v := nI 14) hG dX12_person_123 (by decide) ?_
                refine pm_icmpN_ge (tgt := 143) hG dX12_person_125 rfl (by omega) (by omega) (fun q => absurd q (by omega)) (fun _ => ?_)
                refine pm_aloadn hG dX12_person_128 rfl ?_
                refine pm_iloadi hG dX12_person_129 rfl ?_
                refine pm_iloadi hG dX12_person_131 rfl ?_
                refine pm_iconst (v := nI 0) hG dX12_person_133 (by decide) ?_
                refine pm_callV (As := [.int (nI kc2), .int (nI 0), .int (nI 0)]) (rest := []) hG hR dX12_person_134 (lkX12_97 _ rfl) okV_X12_sets rfl rfl (m_sets (d := 2) (e := 14 * kc2 + 110) (by omega) (by omega) (by omega)) rfl rfl hdd (Nat.le_refl _) (Nat.le_refl _) (by decide) (pm_kv (fun σ' cnt' hq => ?_))
                obtain ⟨rfl, rfl⟩ := hq
                obtain ⟨n_394, en_394⟩ : ∃ f : Nat → Int32, f = upd n_390 (14 * kc2 + 110) (nI 0) := ⟨_, rfl⟩
                rw [← en_394]
                have hnn_394 := KI.w en_394 hnn_390 (okv_f (show kd (14 * kc2 + 110) = (0, 0, false) from (kd_P (k := kc2) (c := 0) (by omega) (by omega) (by decide))))
                have hrn_394 := NRx.w en_394 hrn_390 (by rw [(show kd (14 * kc2 + 110) = (0, 0, false) from (kd_P (k := kc2) (c := 0) (by omega) (by omega) (by decide)))])
                have ksn_394 := KSh.w (h := 14 * kc2 + 110) en_394 ksn_390 (by unfold tS; omega)
                have e395 : n_394 0 = nI kc0 := by rw [en_394, pk_un (by omega)]; exact e391
                have e396 : n_394 8 = nI kc8 := by rw [en_394, pk_un (by omega)]; exact e392
                have e397 : n_394 2 = nI (kc2 + 1) := by rw [en_394, pk_un (by omega)]; exact e393
                have e398 : n_394 (14 * kc2 + 110) = nI 0 := by rw [en_394, pk_us]
                refine pm_iincX (v := nI 1) (loc' := [some (.ref (B + 54)), some (.int za), some (.int zb), some (.int zc), some (.int zd), some (.int (nI 1)), some (.int (nI kc2)), some (.int (nI 1))]) hG dX12_person_137 rfl (nI_1 _) (by decide) (pm_c1b rfl) rfl ?_
                refine pm_goto (tgt := 121) hG dX12_person_140 rfl ?_
                refine pm_iloadi hG dX12_person_121 rfl ?_
                refine pm_bipush (v := nI 14) hG dX12_person_123 (by decide) ?_
                refine pm_icmpN_ge (tgt := 143) hG dX12_person_125 rfl (by omega) (by omega) (fun q => absurd q (by omega)) (fun _ => ?_)
                refine pm_aloadn hG dX12_person_128 rfl ?_
                refine pm_iloadi hG dX12_person_129 rfl ?_
                refine pm_iloadi hG dX12_person_131 rfl ?_
                refine pm_iconst (v := nI 0) hG dX12_person_133 (by decide) ?_
                refine pm_callV (As := [.int (nI kc2), .int (nI 1), .int (nI 0)]) (rest := []) hG hR dX12_person_134 (lkX12_97 _ rfl) okV_X12_sets rfl rfl (m_sets (d := 2) (e := 14 * kc2 + 111) (by omega) (by omega) (by omega)) rfl rfl hdd (Nat.le_refl _) (Nat.le_refl _) (by decide) (pm_kv (fun σ' cnt' hq => ?_))
                obtain ⟨rfl, rfl⟩ := hq
                obtain ⟨n_399, en_399⟩ : ∃ f : Nat → Int32, f = upd n_394 (14 * kc2 + 111) (nI 0) := ⟨_, rfl⟩
                rw [← en_399]
                have hnn_399 := KI.w en_399 hnn_394 (okv_f (show kd (14 * kc2 + 111) = (0, 0, false) from (kd_P (k := kc2) (c := 1) (by omega) (by omega) (by decide))))
                have hrn_399 := NRx.w en_399 hrn_394 (by rw [(show kd (14 * kc2 + 111) = (0, 0, false) from (kd_P (k := kc2) (c := 1) (by omega) (by omega) (by decide)))])
                have ksn_399 := KSh.w (h := 14 * kc2 + 110) en_399 ksn_394 (by unfold tS; omega)
                have e400 : n_399 0 = nI kc0 := by rw [en_399, pk_un (by omega)]; exact e395
                have e401 : n_399 8 = nI kc8 := by rw [en_399, pk_un (by omega)]; exact e396
                have e402 : n_399 2 = nI (kc2 + 1) := by rw [en_399, pk_un (by omega)]; exact e397
                have e403 : n_399 (14 * kc2 + 110) = nI 0 := by rw [en_399, pk_un (by omega)]; exact e398
                have e404 : n_399 (14 * kc2 + 111) = nI 0 := by rw [en_399, pk_us]
                refine pm_iincX (v := nI 2) (loc' := [some (.ref (B + 54)), some (.int za), some (.int zb), some (.int zc), some (.int zd), some (.int (nI 1)), some (.int (nI kc2)), some (.int (nI 2))]) hG dX12_person_137 rfl (nI_1 _) (by decide) (pm_c1b rfl) rfl ?_
                refine pm_goto (tgt := 121) hG dX12_person_140 rfl ?_
                refine pm_iloadi hG dX12_person_121 rfl ?_
                refine pm_bipush (v := nI 14) hG dX12_person_123 (by decide) ?_
                refine pm_icmpN_ge (tgt := 143) hG dX12_person_125 rfl (by omega) (by omega) (fun q => absurd q (by omega)) (fun _ => ?_)
                refine pm_aloadn hG dX12_person_128 rfl ?_
                refine pm_iloadi hG dX12_person_129 rfl ?_
                refine pm_iloadi hG dX12_person_131 rfl ?_
                refine pm_iconst (v := nI 0) hG dX12_person_133 (by decide) ?_
                refine pm_callV (As := [.int (nI kc2), .int (nI 2), .int (nI 0)]) (rest := []) hG hR dX12_person_134 (lkX12_97 _ rfl) okV_X12_sets rfl rfl (m_sets (d := 2) (e := 14 * kc2 + 112) (by omega) (by omega) (by omega)) rfl rfl hdd (Nat.le_refl _) (Nat.le_refl _) (by decide) (pm_kv (fun σ' cnt' hq => ?_))
                obtain ⟨rfl, rfl⟩ := hq
                obtain ⟨n_405, en_405⟩ : ∃ f : Nat → Int32, f = upd n_399 (14 * kc2 + 112) (nI 0) := ⟨_, rfl⟩
                rw [← en_405]
                have hnn_405 := KI.w en_405 hnn_399 (okv_o (show kd (14 * kc2 + 112) = (2, 20, false) from (kd_P (k := kc2) (c := 2) (by omega) (by omega) (by decide))) (by omega))
                have hrn_405 := NRx.w en_405 hrn_399 (by rw [(show kd (14 * kc2 + 112) = (2, 20, false) from (kd_P (k := kc2) (c := 2) (by omega) (by omega) (by decide)))])
                have ksn_405 := KSh.w (h := 14 * kc2 + 110) en_405 ksn_399 (by unfold tS; omega)
                have e406 : n_405 0 = nI kc0 := by rw [en_405, pk_un (by omega)]; exact e400
                have e407 : n_405 8 = nI kc8 := by rw [en_405, pk_un (by omega)]; exact e401
                have e408 : n_405 2 = nI (kc2 + 1) := by rw [en_405, pk_un (by omega)]; exact e402
                have e409 : n_405 (14 * kc2 + 110) = nI 0 := by rw [en_405, pk_un (by omega)]; exact e403
                have e410 : n_405 (14 * kc2 + 111) = nI 0 := by rw [en_405, pk_un (by omega)]; exact e404
                have e411 : n_405 (14 * kc2 + 112) = nI 0 := by rw [en_405, pk_us]
                refine pm_iincX (v := nI 3) (loc' := [some (.ref (B + 54)), some (.int za), some (.int zb), some (.int zc), some (.int zd), some (.int (nI 1)), some (.int (nI kc2)), some (.int (nI 3))]) hG dX12_person_137 rfl (nI_1 _) (by decide) (pm_c1b rfl) rfl ?_
                refine pm_goto (tgt := 121) hG dX12_person_140 rfl ?_
                refine pm_iloadi hG dX12_person_121 rfl ?_
                refine pm_bipush (v := nI 14) hG dX12_person_123 (by decide) ?_
                refine pm_icmpN_ge (tgt := 143) hG dX12_person_125 rfl (by omega) (by omega) (fun q => absurd q (by omega)) (fun _ => ?_)
                refine pm_aloadn hG dX12_person_128 rfl ?_
                refine pm_iloadi hG dX12_person_129 rfl ?_
                refine pm_iloadi hG dX12_person_131 rfl ?_
                refine pm_iconst (v := nI 0) hG dX12_person_133 (by decide) ?_
                refine pm_callV (As := [.int (nI kc2), .int (nI 3), .int (nI 0)]) (rest := []) hG hR dX12_person_134 (lkX12_97 _ rfl) okV_X12_sets rfl rfl (m_sets (d := 2) (e := 14 * kc2 + 113) (by omega) (by omega) (by omega)) rfl rfl hdd (Nat.le_refl _) (Nat.le_refl _) (by decide) (pm_kv (fun σ' cnt' hq => ?_))
                obtain ⟨rfl, rfl⟩ := hq
                obtain ⟨n_412, en_412⟩ : ∃ f : Nat → Int32, f = upd n_405 (14 * kc2 + 113) (nI 0) := ⟨_, rfl⟩
                rw [← en_412]
                have hnn_412 := KI.w en_412 hnn_405 (okv_o (show kd (14 * kc2 + 113) = (2, 20, false) from (kd_P (k := kc2) (c := 3) (by omega) (by omega) (by decide))) (by omega))
                have hrn_412 := NRx.w en_412 hrn_405 (by rw [(show kd (14 * kc2 + 113) = (2, 20, false) from (kd_P (k := kc2) (c := 3) (by omega) (by omega) (by decide)))])
                have ksn_412 := KSh.w (h := 14 * kc2 + 110) en_412 ksn_405 (by unfold tS; omega)
                have e413 : n_412 0 = nI kc0 := by rw [en_412, pk_un (by omega)]; exact e406
                have e414 : n_412 8 = nI kc8 := by rw [en_412, pk_un (by omega)]; exact e407
                have e415 : n_412 2 = nI (kc2 + 1) := by rw [en_412, pk_un (by omega)]; exact e408
                have e416 : n_412 (14 * kc2 + 110) = nI 0 := by rw [en_412, pk_un (by omega)]; exact e409
                have e417 : n_412 (14 * kc2 + 111) = nI 0 := by rw [en_412, pk_un (by omega)]; exact e410
                have e418 : n_412 (14 * kc2 + 113) = nI 0 := by rw [en_412, pk_us]
                refine pm_iincX (v := nI 4) (loc' := [some (.ref (B + 54)), some (.int za), some (.int zb), some (.int zc), some (.int zd), some (.int (nI 1)), some (.int (nI kc2)), some (.int (nI 4))]) hG dX12_person_137 rfl (nI_1 _) (by decide) (pm_c1b rfl) rfl ?_
                refine pm_goto (tgt := 121) hG dX12_person_140 rfl ?_
                refine pm_iloadi hG dX12_person_121 rfl ?_
                refine pm_bipush (v := nI 14) hG dX12_person_123 (by decide) ?_
                refine pm_icmpN_ge (tgt := 143) hG dX12_person_125 rfl (by omega) (by omega) (fun q => absurd q (by omega)) (fun _ => ?_)
                refine pm_aloadn hG dX12_person_128 rfl ?_
                refine pm_iloadi hG dX12_person_129 rfl ?_
                refine pm_iloadi hG dX12_person_131 rfl ?_
                refine pm_iconst (v := nI 0) hG dX12_person_133 (by decide) ?_
                refine pm_callV (As := [.int (nI kc2), .int (nI 4), .int (nI 0)]) (rest := []) hG hR dX12_person_134 (lkX12_97 _ rfl) okV_X12_sets rfl rfl (m_sets (d := 2) (e := 14 * kc2 + 114) (by omega) (by omega) (by omega)) rfl rfl hdd (Nat.le_refl _) (Nat.le_refl _) (by decide) (pm_kv (fun σ' cnt' hq => ?_))
                obtain ⟨rfl, rfl⟩ := hq
                obtain ⟨n_419, en_419⟩ : ∃ f : Nat → Int32, f = upd n_412 (14 * kc2 + 114) (nI 0) := ⟨_, rfl⟩
                rw [← en_419]
                have hnn_419 := KI.w en_419 hnn_412 (okv_o (show kd (14 * kc2 + 114) = (2, 10, false) from (kd_P (k := kc2) (c := 4) (by omega) (by omega) (by decide))) (by omega))
                have hrn_419 := NRx.w en_419 hrn_412 (by rw [(show kd (14 * kc2 + 114) = (2, 10, false) from (kd_P (k := kc2) (c := 4) (by omega) (by omega) (by decide)))])
                have ksn_419 := KSh.w (h := 14 * kc2 + 110) en_419 ksn_412 (by unfold tS; omega)
                have e420 : n_419 0 = nI kc0 := by rw [en_419, pk_un (by omega)]; exact e413
                have e421 : n_419 8 = nI kc8 := by rw [en_419, pk_un (by omega)]; exact e414
                have e422 : n_419 2 = nI (kc2 + 1) := by rw [en_419, pk_un (by omega)]; exact e415
                have e423 : n_419 (14 * kc2 + 110) = nI 0 := by rw [en_419, pk_un (by omega)]; exact e416
                have e424 : n_419 (14 * kc2 + 111) = nI 0 := by rw [en_419, pk_un (by omega)]; exact e417
                have e425 : n_419 (14 * kc2 + 114) = nI 0 := by rw [en_419, pk_us]
                refine pm_iincX (v := nI 5) (loc' := [some (.ref (B + 54)), some (.int za), some (.int zb), some (.int zc), some (.int zd), some (.int (nI 1)), some (.int (nI kc2)), some (.int (nI 5))]) hG dX12_person_137 rfl (nI_1 _) (by decide) (pm_c1b rfl) rfl ?_
                refine pm_goto (tgt := 121) hG dX12_person_140 rfl ?_
                refine pm_iloadi hG dX12_person_121 rfl ?_
                refine pm_bipush (v := nI 14) hG dX12_person_123 (by decide) ?_
                refine pm_icmpN_ge (tgt := 143) hG dX12_person_125 rfl (by omega) (by omega) (fun q => absurd q (by omega)) (fun _ => ?_)
                refine pm_aloadn hG dX12_person_128 rfl ?_
                refine pm_iloadi hG dX12_person_129 rfl ?_
                refine pm_iloadi hG dX12_person_131 rfl ?_
                refine pm_iconst (v := nI 0) hG dX12_person_133 (by decide) ?_
                refine pm_callV (As := [.int (nI kc2), .int (nI 5), .int (nI 0)]) (rest := []) hG hR dX12_person_134 (lkX12_97 _ rfl) okV_X12_sets rfl rfl (m_sets (d := 2) (e := 14 * kc2 + 115) (by omega) (by omega) (by omega)) rfl rfl hdd (Nat.le_refl _) (Nat.le_refl _) (by decide) (pm_kv (fun σ' cnt' hq => ?_))
                obtain ⟨rfl, rfl⟩ := hq
                obtain ⟨n_426, en_426⟩ : ∃ f : Nat → Int32, f = upd n_419 (14 * kc2 + 115) (nI 0) := ⟨_, rfl⟩
                rw [← en_426]
                have hnn_426 := KI.w en_426 hnn_419 (okv_n (show kd (14 * kc2 + 115) = (1, 10, false) from (kd_P (k := kc2) (c := 5) (by omega) (by omega) (by decide))) (by omega))
                have hrn_426 := NRx.w en_426 hrn_419 (by rw [(show kd (14 * kc2 + 115) = (1, 10, false) from (kd_P (k := kc2) (c := 5) (by omega) (by omega) (by decide)))])
                have ksn_426 := KSh.w (h := 14 * kc2 + 110) en_426 ksn_419 (by unfold tS; omega)
                have e427 : n_426 0 = nI kc0 := by rw [en_426, pk_un (by omega)]; exact e420
                have e428 : n_426 8 = nI kc8 := by rw [en_426, pk_un (by omega)]; exact e421
                have e429 : n_426 2 = nI (kc2 + 1) := by rw [en_426, pk_un (by omega)]; exact e422
                have e430 : n_426 (14 * kc2 + 110) = nI 0 := by rw [en_426, pk_un (by omega)]; exact e423
                have e431 : n_426 (14 * kc2 + 111) = nI 0 := by rw [en_426, pk_un (by omega)]; exact e424
                have e432 : n_426 (14 * kc2 + 115) = nI 0 := by rw [en_426, pk_us]
                refine pm_iincX (v := nI 6) (loc' := [some (.ref (B + 54)), some (.int za), some (.int zb), some (.int zc), some (.int zd), some (.int (nI 1)), some (.int (nI kc2)), some (.int (nI 6))]) hG dX12_person_137 rfl (nI_1 _) (by decide) (pm_c1b rfl) rfl ?_
                refine pm_goto (tgt := 121) hG dX12_person_140 rfl ?_
                refine pm_iloadi hG dX12_person_121 rfl ?_
                refine pm_bipush (v := nI 14) hG dX12_person_123 (by decide) ?_
                refine pm_icmpN_ge (tgt := 143) hG dX12_person_125 rfl (by omega) (by omega) (fun q => absurd q (by omega)) (fun _ => ?_)
                refine pm_aloadn hG dX12_person_128 rfl ?_
                refine pm_iloadi hG dX12_person_129 rfl ?_
                refine pm_iloadi hG dX12_person_131 rfl ?_
                refine pm_iconst (v := nI 0) hG dX12_person_133 (by decide) ?_
                refine pm_callV (As := [.int (nI kc2), .int (nI 6), .int (nI 0)]) (rest := []) hG hR dX12_person_134 (lkX12_97 _ rfl) okV_X12_sets rfl rfl (m_sets (d := 2) (e := 14 * kc2 + 116) (by omega) (by omega) (by omega)) rfl rfl hdd (Nat.le_refl _) (Nat.le_refl _) (by decide) (pm_kv (fun σ' cnt' hq => ?_))
                obtain ⟨rfl, rfl⟩ := hq
                obtain ⟨n_433, en_433⟩ : ∃ f : Nat → Int32, f = upd n_426 (14 * kc2 + 116) (nI 0) := ⟨_, rfl⟩
                rw [← en_433]
                have hnn_433 := KI.w en_433 hnn_426 (okv_f (show kd (14 * kc2 + 116) = (0, 0, false) from (kd_P (k := kc2) (c := 6) (by omega) (by omega) (by decide))))
                have hrn_433 := NRx.w en_433 hrn_426 (by rw [(show kd (14 * kc2 + 116) = (0, 0, false) from (kd_P (k := kc2) (c := 6) (by omega) (by omega) (by decide)))])
                have ksn_433 := KSh.w (h := 14 * kc2 + 110) en_433 ksn_426 (by unfold tS; omega)
                have e434 : n_433 0 = nI kc0 := by rw [en_433, pk_un (by omega)]; exact e427
                have e435 : n_433 8 = nI kc8 := by rw [en_433, pk_un (by omega)]; exact e428
                have e436 : n_433 2 = nI (kc2 + 1) := by rw [en_433, pk_un (by omega)]; exact e429
                have e437 : n_433 (14 * kc2 + 110) = nI 0 := by rw [en_433, pk_un (by omega)]; exact e430
                have e438 : n_433 (14 * kc2 + 111) = nI 0 := by rw [en_433, pk_un (by omega)]; exact e431
                have e439 : n_433 (14 * kc2 + 116) = nI 0 := by rw [en_433, pk_us]
                refine pm_iincX (v := nI 7) (loc' := [some (.ref (B + 54)), some (.int za), some (.int zb), some (.int zc), some (.int zd), some (.int (nI 1)), some (.int (nI kc2)), some (.int (nI 7))]) hG dX12_person_137 rfl (nI_1 _) (by decide) (pm_c1b rfl) rfl ?_
                refine pm_goto (tgt := 121) hG dX12_person_140 rfl ?_
                refine pm_iloadi hG dX12_person_121 rfl ?_
                refine pm_bipush (v := nI 14) hG dX12_person_123 (by decide) ?_
                refine pm_icmpN_ge (tgt := 143) hG dX12_person_125 rfl (by omega) (by omega) (fun q => absurd q (by omega)) (fun _ => ?_)
                refine pm_aloadn hG dX12_person_128 rfl ?_
                refine pm_iloadi hG dX12_person_129 rfl ?_
                refine pm_iloadi hG dX12_person_131 rfl ?_
                refine pm_iconst (v := nI 0) hG dX12_person_133 (by decide) ?_
                refine pm_callV (As := [.int (nI kc2), .int (nI 7), .int (nI 0)]) (rest := []) hG hR dX12_person_134 (lkX12_97 _ rfl) okV_X12_sets rfl rfl (m_sets (d := 2) (e := 14 * kc2 + 117) (by omega) (by omega) (by omega)) rfl rfl hdd (Nat.le_refl _) (Nat.le_refl _) (by decide) (pm_kv (fun σ' cnt' hq => ?_))
                obtain ⟨rfl, rfl⟩ := hq
                obtain ⟨n_440, en_440⟩ : ∃ f : Nat → Int32, f = upd n_433 (14 * kc2 + 117) (nI 0) := ⟨_, rfl⟩
                rw [← en_440]
                have hnn_440 := KI.w en_440 hnn_433 (okv_f (show kd (14 * kc2 + 117) = (0, 0, false) from (kd_P (k := kc2) (c := 7) (by omega) (by omega) (by decide))))
                have hrn_440 := NRx.w en_440 hrn_433 (by rw [(show kd (14 * kc2 + 117) = (0, 0, false) from (kd_P (k := kc2) (c := 7) (by omega) (by omega) (by decide)))])
                have ksn_440 := KSh.w (h := 14 * kc2 + 110) en_440 ksn_433 (by unfold tS; omega)
                have e441 : n_440 0 = nI kc0 := by rw [en_440, pk_un (by omega)]; exact e434
                have e442 : n_440 8 = nI kc8 := by rw [en_440, pk_un (by omega)]; exact e435
                have e443 : n_440 2 = nI (kc2 + 1) := by rw [en_440, pk_un (by omega)]; exact e436
                have e444 : n_440 (14 * kc2 + 110) = nI 0 := by rw [en_440, pk_un (by omega)]; exact e437
                have e445 : n_440 (14 * kc2 + 111) = nI 0 := by rw [en_440, pk_un (by omega)]; exact e438
                have e446 : n_440 (14 * kc2 + 117) = nI 0 := by rw [en_440, pk_us]
                refine pm_iincX (v := nI 8) (loc' := [some (.ref (B + 54)), some (.int za), some (.int zb), some (.int zc), some (.int zd), some (.int (nI 1)), some (.int (nI kc2)), some (.int (nI 8))]) hG dX12_person_137 rfl (nI_1 _) (by decide) (pm_c1b rfl) rfl ?_
                refine pm_goto (tgt := 121) hG dX12_person_140 rfl ?_
                refine pm_iloadi hG dX12_person_121 rfl ?_
                refine pm_bipush (v := nI 14) hG dX12_person_123 (by decide) ?_
                refine pm_icmpN_ge (tgt := 143) hG dX12_person_125 rfl (by omega) (by omega) (fun q => absurd q (by omega)) (fun _ => ?_)
                refine pm_aloadn hG dX12_person_128 rfl ?_
                refine pm_iloadi hG dX12_person_129 rfl ?_
                refine pm_iloadi hG dX12_person_131 rfl ?_
                refine pm_iconst (v := nI 0) hG dX12_person_133 (by decide) ?_
                refine pm_callV (As := [.int (nI kc2), .int (nI 8), .int (nI 0)]) (rest := []) hG hR dX12_person_134 (lkX12_97 _ rfl) okV_X12_sets rfl rfl (m_sets (d := 2) (e := 14 * kc2 + 118) (by omega) (by omega) (by omega)) rfl rfl hdd (Nat.le_refl _) (Nat.le_refl _) (by decide) (pm_kv (fun σ' cnt' hq => ?_))
                obtain ⟨rfl, rfl⟩ := hq
                obtain ⟨n_447, en_447⟩ : ∃ f : Nat → Int32, f = upd n_440 (14 * kc2 + 118) (nI 0) := ⟨_, rfl⟩
                rw [← en_447]
                have hnn_447 := KI.w en_447 hnn_440 (okv_f (show kd (14 * kc2 + 118) = (0, 0, false) from (kd_P (k := kc2) (c := 8) (by omega) (by omega) (by decide))))
                have hrn_447 := NRx.w en_447 hrn_440 (by rw [(show kd (14 * kc2 + 118) = (0, 0, false) from (kd_P (k := kc2) (c := 8) (by omega) (by omega) (by decide)))])
                have ksn_447 := KSh.w (h := 14 * kc2 + 110) en_447 ksn_440 (by unfold tS; omega)
                have e448 : n_447 0 = nI kc0 := by rw [en_447, pk_un (by omega)]; exact e441
                have e449 : n_447 8 = nI kc8 := by rw [en_447, pk_un (by omega)]; exact e442
                have e450 : n_447 2 = nI (kc2 + 1) := by rw [en_447, pk_un (by omega)]; exact e443
                have e451 : n_447 (14 * kc2 + 110) = nI 0 := by rw [en_447, pk_un (by omega)]; exact e444
                have e452 : n_447 (14 * kc2 + 111) = nI 0 := by rw [en_447, pk_un (by omega)]; exact e445
                have e453 : n_447 (14 * kc2 + 118) = nI 0 := by rw [en_447, pk_us]
                refine pm_iincX (v := nI 9) (loc' := [some (.ref (B + 54)), some (.int za), some (.int zb), some (.int zc), some (.int zd), some (.int (nI 1)), some (.int (nI kc2)), some (.int (nI 9))]) hG dX12_person_137 rfl (nI_1 _) (by decide) (pm_c1b rfl) rfl ?_
                refine pm_goto (tgt := 121) hG dX12_person_140 rfl ?_
                refine pm_iloadi hG dX12_person_121 rfl ?_
                refine pm_bipush (v := nI 14) hG dX12_person_123 (by decide) ?_
                refine pm_icmpN_ge (tgt := 143) hG dX12_person_125 rfl (by omega) (by omega) (fun q => absurd q (by omega)) (fun _ => ?_)
                refine pm_aloadn hG dX12_person_128 rfl ?_
                refine pm_iloadi hG dX12_person_129 rfl ?_
                refine pm_iloadi hG dX12_person_131 rfl ?_
                refine pm_iconst (v := nI 0) hG dX12_person_133 (by decide) ?_
                refine pm_callV (As := [.int (nI kc2), .int (nI 9), .int (nI 0)]) (rest := []) hG hR dX12_person_134 (lkX12_97 _ rfl) okV_X12_sets rfl rfl (m_sets (d := 2) (e := 14 * kc2 + 119) (by omega) (by omega) (by omega)) rfl rfl hdd (Nat.le_refl _) (Nat.le_refl _) (by decide) (pm_kv (fun σ' cnt' hq => ?_))
                obtain ⟨rfl, rfl⟩ := hq
                obtain ⟨n_454, en_454⟩ : ∃ f : Nat → Int32, f = upd n_447 (14 * kc2 + 119) (nI 0) := ⟨_, rfl⟩
                rw [← en_454]
                have hnn_454 := KI.w en_454 hnn_447 (okv_o (show kd (14 * kc2 + 119) = (2, 2001, false) from (kd_P (k := kc2) (c := 9) (by omega) (by omega) (by decide))) (by omega))
                have hrn_454 := NRx.w en_454 hrn_447 (by rw [(show kd (14 * kc2 + 119) = (2, 2001, false) from (kd_P (k := kc2) (c := 9) (by omega) (by omega) (by decide)))])
                have ksn_454 := KSh.w (h := 14 * kc2 + 110) en_454 ksn_447 (by unfold tS; omega)
                have e455 : n_454 0 = nI kc0 := by rw [en_454, pk_un (by omega)]; exact e448
                have e456 : n_454 8 = nI kc8 := by rw [en_454, pk_un (by omega)]; exact e449
                have e457 : n_454 2 = nI (kc2 + 1) := by rw [en_454, pk_un (by omega)]; exact e450
                have e458 : n_454 (14 * kc2 + 110) = nI 0 := by rw [en_454, pk_un (by omega)]; exact e451
                have e459 : n_454 (14 * kc2 + 111) = nI 0 := by rw [en_454, pk_un (by omega)]; exact e452
                have e460 : n_454 (14 * kc2 + 119) = nI 0 := by rw [en_454, pk_us]
                refine pm_iincX (v := nI 10) (loc' := [some (.ref (B + 54)), some (.int za), some (.int zb), some (.int zc), some (.int zd), some (.int (nI 1)), some (.int (nI kc2)), some (.int (nI 10))]) hG dX12_person_137 rfl (nI_1 _) (by decide) (pm_c1b rfl) rfl ?_
                refine pm_goto (tgt := 121) hG dX12_person_140 rfl ?_
                refine pm_iloadi hG dX12_person_121 rfl ?_
                refine pm_bipush (v := nI 14) hG dX12_person_123 (by decide) ?_
                refine pm_icmpN_ge (tgt := 143) hG dX12_person_125 rfl (by omega) (by omega) (fun q => absurd q (by omega)) (fun _ => ?_)
                refine pm_aloadn hG dX12_person_128 rfl ?_
                refine pm_iloadi hG dX12_person_129 rfl ?_
                refine pm_iloadi hG dX12_person_131 rfl ?_
                refine pm_iconst (v := nI 0) hG dX12_person_133 (by decide) ?_
                refine pm_callV (As := [.int (nI kc2), .int (nI 10), .int (nI 0)]) (rest := []) hG hR dX12_person_134 (lkX12_97 _ rfl) okV_X12_sets rfl rfl (m_sets (d := 2) (e := 14 * kc2 + 120) (by omega) (by omega) (by omega)) rfl rfl hdd (Nat.le_refl _) (Nat.le_refl _) (by decide) (pm_kv (fun σ' cnt' hq => ?_))
                obtain ⟨rfl, rfl⟩ := hq
                obtain ⟨n_461, en_461⟩ : ∃ f : Nat → Int32, f = upd n_454 (14 * kc2 + 120) (nI 0) := ⟨_, rfl⟩
                rw [← en_461]
                have hnn_461 := KI.w en_461 hnn_454 (okv_f (show kd (14 * kc2 + 120) = (0, 0, false) from (kd_P (k := kc2) (c := 10) (by omega) (by omega) (by decide))))
                have hrn_461 := NRx.w en_461 hrn_454 (by rw [(show kd (14 * kc2 + 120) = (0, 0, false) from (kd_P (k := kc2) (c := 10) (by omega) (by omega) (by decide)))])
                have ksn_461 := KSh.w (h := 14 * kc2 + 110) en_461 ksn_454 (by unfold tS; omega)
                have e462 : n_461 0 = nI kc0 := by rw [en_461, pk_un (by omega)]; exact e455
                have e463 : n_461 8 = nI kc8 := by rw [en_461, pk_un (by omega)]; exact e456
                have e464 : n_461 2 = nI (kc2 + 1) := by rw [en_461, pk_un (by omega)]; exact e457
                have e465 : n_461 (14 * kc2 + 110) = nI 0 := by rw [en_461, pk_un (by omega)]; exact e458
                have e466 : n_461 (14 * kc2 + 111) = nI 0 := by rw [en_461, pk_un (by omega)]; exact e459
                have e467 : n_461 (14 * kc2 + 119) = nI 0 := by rw [en_461, pk_un (by omega)]; exact e460
                have e468 : n_461 (14 * kc2 + 120) = nI 0 := by rw [en_461, pk_us]
                refine pm_iincX (v := nI 11) (loc' := [some (.ref (B + 54)), some (.int za), some (.int zb), some (.int zc), some (.int zd), some (.int (nI 1)), some (.int (nI kc2)), some (.int (nI 11))]) hG dX12_person_137 rfl (nI_1 _) (by decide) (pm_c1b rfl) rfl ?_
                refine pm_goto (tgt := 121) hG dX12_person_140 rfl ?_
                refine pm_iloadi hG dX12_person_121 rfl ?_
                refine pm_bipush (v := nI 14) hG dX12_person_123 (by decide) ?_
                refine pm_icmpN_ge (tgt := 143) hG dX12_person_125 rfl (by omega) (by omega) (fun q => absurd q (by omega)) (fun _ => ?_)
                refine pm_aloadn hG dX12_person_128 rfl ?_
                refine pm_iloadi hG dX12_person_129 rfl ?_
                refine pm_iloadi hG dX12_person_131 rfl ?_
                refine pm_iconst (v := nI 0) hG dX12_person_133 (by decide) ?_
                refine pm_callV (As := [.int (nI kc2), .int (nI 11), .int (nI 0)]) (rest := []) hG hR dX12_person_134 (lkX12_97 _ rfl) okV_X12_sets rfl rfl (m_sets (d := 2) (e := 14 * kc2 + 121) (by omega) (by omega) (by omega)) rfl rfl hdd (Nat.le_refl _) (Nat.le_refl _) (by decide) (pm_kv (fun σ' cnt' hq => ?_))
                obtain ⟨rfl, rfl⟩ := hq
                obtain ⟨n_469, en_469⟩ : ∃ f : Nat → Int32, f = upd n_461 (14 * kc2 + 121) (nI 0) := ⟨_, rfl⟩
                rw [← en_469]
                have hnn_469 := KI.w en_469 hnn_461 (okv_n (show kd (14 * kc2 + 121) = (1, 2, true) from (kd_P (k := kc2) (c := 11) (by omega) (by omega) (by decide))) (by omega))
                have hrn_469 := NRx.unseat (p := kc2) en_469 hrn_461 (by omega)
                have ksn_469 := KSh.w (h := 14 * kc2 + 110) en_469 ksn_461 (by unfold tS; omega)
                have e470 : n_469 0 = nI kc0 := by rw [en_469, pk_un (by omega)]; exact e462
                have e471 : n_469 8 = nI kc8 := by rw [en_469, pk_un (by omega)]; exact e463
                have e472 : n_469 2 = nI (kc2 + 1) := by rw [en_469, pk_un (by omega)]; exact e464
                have e473 : n_469 (14 * kc2 + 110) = nI 0 := by rw [en_469, pk_un (by omega)]; exact e465
                have e474 : n_469 (14 * kc2 + 111) = nI 0 := by rw [en_469, pk_un (by omega)]; exact e466
                have e475 : n_469 (14 * kc2 + 119) = nI 0 := by rw [en_469, pk_un (by omega)]; exact e467
                have e476 : n_469 (14 * kc2 + 121) = nI 0 := by rw [en_469, pk_us]
                refine pm_iincX (v := nI 12) (loc' := [some (.ref (B + 54)), some (.int za), some (.int zb), some (.int zc), some (.int zd), some (.int (nI 1)), some (.int (nI kc2)), some (.int (nI 12))]) hG dX12_person_137 rfl (nI_1 _) (by decide) (pm_c1b rfl) rfl ?_
                refine pm_goto (tgt := 121) hG dX12_person_140 rfl ?_
                refine pm_iloadi hG dX12_person_121 rfl ?_
                refine pm_bipush (v := nI 14) hG dX12_person_123 (by decide) ?_
                refine pm_icmpN_ge (tgt := 143) hG dX12_person_125 rfl (by omega) (by omega) (fun q => absurd q (by omega)) (fun _ => ?_)
                refine pm_aloadn hG dX12_person_128 rfl ?_
                refine pm_iloadi hG dX12_person_129 rfl ?_
                refine pm_iloadi hG dX12_person_131 rfl ?_
                refine pm_iconst (v := nI 0) hG dX12_person_133 (by decide) ?_
                refine pm_callV (As := [.int (nI kc2), .int (nI 12), .int (nI 0)]) (rest := []) hG hR dX12_person_134 (lkX12_97 _ rfl) okV_X12_sets rfl rfl (m_sets (d := 2) (e := 14 * kc2 + 122) (by omega) (by omega) (by omega)) rfl rfl hdd (Nat.le_refl _) (Nat.le_refl _) (by decide) (pm_kv (fun σ' cnt' hq => ?_))
                obtain ⟨rfl, rfl⟩ := hq
                obtain ⟨n_477, en_477⟩ : ∃ f : Nat → Int32, f = upd n_469 (14 * kc2 + 122) (nI 0) := ⟨_, rfl⟩
                rw [← en_477]
                have hnn_477 := KI.w en_477 hnn_469 (okv_f (show kd (14 * kc2 + 122) = (0, 0, false) from (kd_P (k := kc2) (c := 12) (by omega) (by omega) (by decide))))
                have hrn_477 := NRx.w en_477 hrn_469 (by rw [(show kd (14 * kc2 + 122) = (0, 0, false) from (kd_P (k := kc2) (c := 12) (by omega) (by omega) (by decide)))])
                have ksn_477 := KSh.w (h := 14 * kc2 + 110) en_477 ksn_469 (by unfold tS; omega)
                have e478 : n_477 0 = nI kc0 := by rw [en_477, pk_un (by omega)]; exact e470
                have e479 : n_477 8 = nI kc8 := by rw [en_477, pk_un (by omega)]; exact e471
                have e480 : n_477 2 = nI (kc2 + 1) := by rw [en_477, pk_un (by omega)]; exact e472
                have e481 : n_477 (14 * kc2 + 110) = nI 0 := by rw [en_477, pk_un (by omega)]; exact e473
                have e482 : n_477 (14 * kc2 + 111) = nI 0 := by rw [en_477, pk_un (by omega)]; exact e474
                have e483 : n_477 (14 * kc2 + 119) = nI 0 := by rw [en_477, pk_un (by omega)]; exact e475
                have e484 : n_477 (14 * kc2 + 121) = nI 0 := by rw [en_477, pk_un (by omega)]; exact e476
                have e485 : n_477 (14 * kc2 + 122) = nI 0 := by rw [en_477, pk_us]
                refine pm_iincX (v := nI 13) (loc' := [some (.ref (B + 54)), some (.int za), some (.int zb), some (.int zc), some (.int zd), some (.int (nI 1)), some (.int (nI kc2)), some (.int (nI 13))]) hG dX12_person_137 rfl (nI_1 _) (by decide) (pm_c1b rfl) rfl ?_
                refine pm_goto (tgt := 121) hG dX12_person_140 rfl ?_
                refine pm_iloadi hG dX12_person_121 rfl ?_
                refine pm_bipush (v := nI 14) hG dX12_person_123 (by decide) ?_
                refine pm_icmpN_ge (tgt := 143) hG dX12_person_125 rfl (by omega) (by omega) (fun q => absurd q (by omega)) (fun _ => ?_)
                refine pm_aloadn hG dX12_person_128 rfl ?_
                refine pm_iloadi hG dX12_person_129 rfl ?_
                refine pm_iloadi hG dX12_person_131 rfl ?_
                refine pm_iconst (v := nI 0) hG dX12_person_133 (by decide) ?_
                refine pm_callV (As := [.int (nI kc2), .int (nI 13), .int (nI 0)]) (rest := []) hG hR dX12_person_134 (lkX12_97 _ rfl) okV_X12_sets rfl rfl (m_sets (d := 2) (e := 14 * kc2 + 123) (by omega) (by omega) (by omega)) rfl rfl hdd (Nat.le_refl _) (Nat.le_refl _) (by decide) (pm_kv (fun σ' cnt' hq => ?_))
                obtain ⟨rfl, rfl⟩ := hq
                obtain ⟨n_486, en_486⟩ : ∃ f : Nat → Int32, f = upd n_477 (14 * kc2 + 123) (nI 0) := ⟨_, rfl⟩
                rw [← en_486]
                have hnn_486 := KI.w en_486 hnn_477 (okv_f (show kd (14 * kc2 + 123) = (0, 0, false) from (kd_P (k := kc2) (c := 13) (by omega) (by omega) (by decide))))
                have hrn_486 := NRx.w en_486 hrn_477 (by rw [(show kd (14 * kc2 + 123) = (0, 0, false) from (kd_P (k := kc2) (c := 13) (by omega) (by omega) (by decide)))])
                have ksn_486 := KSh.w (h := 14 * kc2 + 110) en_486 ksn_477 (by unfold tS; omega)
                have e487 : n_486 0 = nI kc0 := by rw [en_486, pk_un (by omega)]; exact e478
                have e488 : n_486 8 = nI kc8 := by rw [en_486, pk_un (by omega)]; exact e479
                have e489 : n_486 2 = nI (kc2 + 1) := by rw [en_486, pk_un (by omega)]; exact e480
                have e490 : n_486 (14 * kc2 + 110) = nI 0 := by rw [en_486, pk_un (by omega)]; exact e481
                have e491 : n_486 (14 * kc2 + 111) = nI 0 := by rw [en_486, pk_un (by omega)]; exact e482
                have e492 : n_486 (14 * kc2 + 119) = nI 0 := by rw [en_486, pk_un (by omega)]; exact e483
                have e493 : n_486 (14 * kc2 + 121) = nI 0 := by rw [en_486, pk_un (by omega)]; exact e484
                have e494 : n_486 (14 * kc2 + 123) = nI 0 := by rw [en_486, pk_us]
                refine pm_iincX (v := nI 14) (loc' := [some (.ref (B + 54)), some (.int za), some (.int zb), some (.int zc), some (.int zd), some (.int (nI 1)), some (.int (nI kc2)), some (.int (nI 14))]) hG dX12_person_137 rfl (nI_1 _) (by decide) (pm_c1b rfl) rfl ?_
                refine pm_goto (tgt := 121) hG dX12_person_140 rfl ?_
                refine pm_iloadi hG dX12_person_121 rfl ?_
                refine pm_bipush (v := nI 14) hG dX12_person_123 (by decide) ?_
                refine pm_icmpN_ge (tgt := 143) hG dX12_person_125 rfl (by omega) (by omega) (fun _ => ?_) (fun q => absurd q (by omega))
                refine pm_aloadn hG dX12_person_143 rfl ?_
                refine pm_iloadi hG dX12_person_144 rfl ?_
                refine pm_iconst (v := nI 0) hG dX12_person_146 (by decide) ?_
                refine pm_iloadn hG dX12_person_147 rfl ?_
                refine pm_top (v := nI k3) ek3 ?_
                refine pm_callV (As := [.int (nI kc2), .int (nI 0), .int (nI k3)]) (rest := []) hG hR dX12_person_148 (lkX12_97 _ rfl) okV_X12_sets rfl rfl (m_sets (d := 2) (e := 14 * kc2 + 110) (by omega) (by omega) (by omega)) rfl rfl hdd (Nat.le_refl _) (Nat.le_refl _) (by decide) (pm_kv (fun σ' cnt' hq => ?_))
                obtain ⟨rfl, rfl⟩ := hq
                obtain ⟨n_495, en_495⟩ : ∃ f : Nat → Int32, f = upd n_486 (14 * kc2 + 110) (nI k3) := ⟨_, rfl⟩
                rw [← en_495]
                have hnn_495 := KI.w en_495 hnn_486 (okv_f (show kd (14 * kc2 + 110) = (0, 0, false) from (kd_P (k := kc2) (c := 0) (by omega) (by omega) (by decide))))
                have hrn_495 := NRx.w en_495 hrn_486 (by rw [(show kd (14 * kc2 + 110) = (0, 0, false) from (kd_P (k := kc2) (c := 0) (by omega) (by omega) (by decide)))])
                have ksn_495 := KSh.w (h := 14 * kc2 + 110) en_495 ksn_486 (by unfold tS; omega)
                have e496 : n_495 0 = nI kc0 := by rw [en_495, pk_un (by omega)]; exact e487
                have e497 : n_495 8 = nI kc8 := by rw [en_495, pk_un (by omega)]; exact e488
                have e498 : n_495 2 = nI (kc2 + 1) := by rw [en_495, pk_un (by omega)]; exact e489
                have e499 : n_495 (14 * kc2 + 111) = nI 0 := by rw [en_495, pk_un (by omega)]; exact e491
                have e500 : n_495 (14 * kc2 + 119) = nI 0 := by rw [en_495, pk_un (by omega)]; exact e492
                have e501 : n_495 (14 * kc2 + 121) = nI 0 := by rw [en_495, pk_un (by omega)]; exact e493
                have e502 : n_495 (14 * kc2 + 110) = nI k3 := by rw [en_495, pk_us]
                refine pm_aloadn hG dX12_person_151 rfl ?_
                refine pm_iloadi hG dX12_person_152 rfl ?_
                refine pm_iconst (v := nI 1) hG dX12_person_154 (by decide) ?_
                refine pm_iloadn hG dX12_person_155 rfl ?_
                refine pm_callV (As := [.int (nI kc2), .int (nI 1), .int zb]) (rest := []) hG hR dX12_person_156 (lkX12_97 _ rfl) okV_X12_sets rfl rfl (m_sets (d := 2) (e := 14 * kc2 + 111) (by omega) (by omega) (by omega)) rfl rfl hdd (Nat.le_refl _) (Nat.le_refl _) (by decide) (pm_kv (fun σ' cnt' hq => ?_))
                obtain ⟨rfl, rfl⟩ := hq
                obtain ⟨n_503, en_503⟩ : ∃ f : Nat → Int32, f = upd n_495 (14 * kc2 + 111) zb := ⟨_, rfl⟩
                rw [← en_503]
                have hnn_503 := KI.w en_503 hnn_495 (okv_f (show kd (14 * kc2 + 111) = (0, 0, false) from (kd_P (k := kc2) (c := 1) (by omega) (by omega) (by decide))))
                have hrn_503 := NRx.w en_503 hrn_495 (by rw [(show kd (14 * kc2 + 111) = (0, 0, false) from (kd_P (k := kc2) (c := 1) (by omega) (by omega) (by decide)))])
                have ksn_503 := KSh.w (h := 14 * kc2 + 110) en_503 ksn_495 (by unfold tS; omega)
                have e504 : n_503 0 = nI kc0 := by rw [en_503, pk_un (by omega)]; exact e496
                have e505 : n_503 8 = nI kc8 := by rw [en_503, pk_un (by omega)]; exact e497
                have e506 : n_503 2 = nI (kc2 + 1) := by rw [en_503, pk_un (by omega)]; exact e498
                have e507 : n_503 (14 * kc2 + 119) = nI 0 := by rw [en_503, pk_un (by omega)]; exact e500
                have e508 : n_503 (14 * kc2 + 121) = nI 0 := by rw [en_503, pk_un (by omega)]; exact e501
                have e509 : n_503 (14 * kc2 + 110) = nI k3 := by rw [en_503, pk_un (by omega)]; exact e502
                have e510 : n_503 (14 * kc2 + 111) = zb := by rw [en_503, pk_us]
                refine pm_aloadn hG dX12_person_159 rfl ?_
                refine pm_iloadi hG dX12_person_160 rfl ?_
                refine pm_iconst (v := nI 2) hG dX12_person_162 (by decide) ?_
                refine pm_iloadn hG dX12_person_163 rfl ?_
                refine pm_top (v := nI k9) ek9 ?_
                refine pm_bipush (v := nI 100) hG dX12_person_164 (by decide) ?_
                refine pm_idivN hG dX12_person_166 (by omega) (by decide) (by decide) ?_
                refine pm_iconst (v := nI 1) hG dX12_person_167 (by decide) ?_
                refine pm_isub hG dX12_person_168 ?_
                refine pm_top (v := nI k11) ek11 ?_
                refine pm_callV (As := [.int (nI kc2), .int (nI 2), .int (nI k11)]) (rest := []) hG hR dX12_person_169 (lkX12_97 _ rfl) okV_X12_sets rfl rfl (m_sets (d := 2) (e := 14 * kc2 + 112) (by omega) (by omega) (by omega)) rfl rfl hdd (Nat.le_refl _) (Nat.le_refl _) (by decide) (pm_kv (fun σ' cnt' hq => ?_))
                obtain ⟨rfl, rfl⟩ := hq
                obtain ⟨n_511, en_511⟩ : ∃ f : Nat → Int32, f = upd n_503 (14 * kc2 + 112) (nI k11) := ⟨_, rfl⟩
                rw [← en_511]
                have hnn_511 := KI.w en_511 hnn_503 (okv_o (show kd (14 * kc2 + 112) = (2, 20, false) from (kd_P (k := kc2) (c := 2) (by omega) (by omega) (by decide))) (by omega))
                have hrn_511 := NRx.w en_511 hrn_503 (by rw [(show kd (14 * kc2 + 112) = (2, 20, false) from (kd_P (k := kc2) (c := 2) (by omega) (by omega) (by decide)))])
                have ksn_511 := KSh.w (h := 14 * kc2 + 110) en_511 ksn_503 (by unfold tS; omega)
                have e512 : n_511 0 = nI kc0 := by rw [en_511, pk_un (by omega)]; exact e504
                have e513 : n_511 8 = nI kc8 := by rw [en_511, pk_un (by omega)]; exact e505
                have e514 : n_511 2 = nI (kc2 + 1) := by rw [en_511, pk_un (by omega)]; exact e506
                have e515 : n_511 (14 * kc2 + 119) = nI 0 := by rw [en_511, pk_un (by omega)]; exact e507
                have e516 : n_511 (14 * kc2 + 121) = nI 0 := by rw [en_511, pk_un (by omega)]; exact e508
                have e517 : n_511 (14 * kc2 + 110) = nI k3 := by rw [en_511, pk_un (by omega)]; exact e509
                have e518 : n_511 (14 * kc2 + 111) = zb := by rw [en_511, pk_un (by omega)]; exact e510
                have e519 : n_511 (14 * kc2 + 112) = nI k11 := by rw [en_511, pk_us]
                refine pm_aloadn hG dX12_person_172 rfl ?_
                refine pm_iloadi hG dX12_person_173 rfl ?_
                refine pm_iconst (v := nI 3) hG dX12_person_175 (by decide) ?_
                refine pm_iloadn hG dX12_person_176 rfl ?_
                refine pm_top (v := nI k9) ek9 ?_
                refine pm_bipush (v := nI 100) hG dX12_person_177 (by decide) ?_
                refine pm_iremM hG dX12_person_179 (by omega) (by decide) (by decide) ?_
                refine pm_iconst (v := nI 1) hG dX12_person_180 (by decide) ?_
                refine pm_isub hG dX12_person_181 ?_
                refine pm_top (v := (-1)) ek383 ?_
                refine pm_callV (As := [.int (nI kc2), .int (nI 3), .int (-1)]) (rest := []) hG hR dX12_person_182 (lkX12_97 _ rfl) okV_X12_sets rfl rfl (m_sets (d := 2) (e := 14 * kc2 + 113) (by omega) (by omega) (by omega)) rfl rfl hdd (Nat.le_refl _) (Nat.le_refl _) (by decide) (pm_kv (fun σ' cnt' hq => ?_))
                obtain ⟨rfl, rfl⟩ := hq
                obtain ⟨n_520, en_520⟩ : ∃ f : Nat → Int32, f = upd n_511 (14 * kc2 + 113) (-1) := ⟨_, rfl⟩
                rw [← en_520]
                have hnn_520 := KI.w en_520 hnn_511 (okv_m (show kd (14 * kc2 + 113) = (2, 20, false) from (kd_P (k := kc2) (c := 3) (by omega) (by omega) (by decide))))
                have hrn_520 := NRx.w en_520 hrn_511 (by rw [(show kd (14 * kc2 + 113) = (2, 20, false) from (kd_P (k := kc2) (c := 3) (by omega) (by omega) (by decide)))])
                have ksn_520 := KSh.w (h := 14 * kc2 + 110) en_520 ksn_511 (by unfold tS; omega)
                have e521 : n_520 0 = nI kc0 := by rw [en_520, pk_un (by omega)]; exact e512
                have e522 : n_520 8 = nI kc8 := by rw [en_520, pk_un (by omega)]; exact e513
                have e523 : n_520 2 = nI (kc2 + 1) := by rw [en_520, pk_un (by omega)]; exact e514
                have e524 : n_520 (14 * kc2 + 119) = nI 0 := by rw [en_520, pk_un (by omega)]; exact e515
                have e525 : n_520 (14 * kc2 + 121) = nI 0 := by rw [en_520, pk_un (by omega)]; exact e516
                have e526 : n_520 (14 * kc2 + 110) = nI k3 := by rw [en_520, pk_un (by omega)]; exact e517
                have e527 : n_520 (14 * kc2 + 111) = zb := by rw [en_520, pk_un (by omega)]; exact e518
                have e528 : n_520 (14 * kc2 + 113) = (-1) := by rw [en_520, pk_us]
                refine pm_aloadn hG dX12_person_185 rfl ?_
                refine pm_iloadi hG dX12_person_186 rfl ?_
                refine pm_iconst (v := nI 4) hG dX12_person_188 (by decide) ?_
                refine pm_iloadi hG dX12_person_189 rfl ?_
                refine pm_top (v := nI k388) ek388 ?_
                refine pm_callV (As := [.int (nI kc2), .int (nI 4), .int (nI k388)]) (rest := []) hG hR dX12_person_191 (lkX12_97 _ rfl) okV_X12_sets rfl rfl (m_sets (d := 2) (e := 14 * kc2 + 114) (by omega) (by omega) (by omega)) rfl rfl hdd (Nat.le_refl _) (Nat.le_refl _) (by decide) (pm_kv (fun σ' cnt' hq => ?_))
                obtain ⟨rfl, rfl⟩ := hq
                obtain ⟨n_529, en_529⟩ : ∃ f : Nat → Int32, f = upd n_520 (14 * kc2 + 114) (nI k388) := ⟨_, rfl⟩
                rw [← en_529]
                have hnn_529 := KI.w en_529 hnn_520 (okv_o (show kd (14 * kc2 + 114) = (2, 10, false) from (kd_P (k := kc2) (c := 4) (by omega) (by omega) (by decide))) (by omega))
                have hrn_529 := NRx.w en_529 hrn_520 (by rw [(show kd (14 * kc2 + 114) = (2, 10, false) from (kd_P (k := kc2) (c := 4) (by omega) (by omega) (by decide)))])
                have ksn_529 := KSh.w (h := 14 * kc2 + 110) en_529 ksn_520 (by unfold tS; omega)
                have e530 : n_529 0 = nI kc0 := by rw [en_529, pk_un (by omega)]; exact e521
                have e531 : n_529 8 = nI kc8 := by rw [en_529, pk_un (by omega)]; exact e522
                have e532 : n_529 2 = nI (kc2 + 1) := by rw [en_529, pk_un (by omega)]; exact e523
                have e533 : n_529 (14 * kc2 + 119) = nI 0 := by rw [en_529, pk_un (by omega)]; exact e524
                have e534 : n_529 (14 * kc2 + 121) = nI 0 := by rw [en_529, pk_un (by omega)]; exact e525
                have e535 : n_529 (14 * kc2 + 110) = nI k3 := by rw [en_529, pk_un (by omega)]; exact e526
                have e536 : n_529 (14 * kc2 + 111) = zb := by rw [en_529, pk_un (by omega)]; exact e527
                have e537 : n_529 (14 * kc2 + 114) = nI k388 := by rw [en_529, pk_us]
                refine pm_aloadn hG dX12_person_194 rfl ?_
                refine pm_iloadi hG dX12_person_195 rfl ?_
                refine pm_bipush (v := nI 9) hG dX12_person_197 (by decide) ?_
                refine pm_iconst (v := (-1)) hG dX12_person_199 (by decide) ?_
                refine pm_callV (As := [.int (nI kc2), .int (nI 9), .int (-1)]) (rest := []) hG hR dX12_person_200 (lkX12_97 _ rfl) okV_X12_sets rfl rfl (m_sets (d := 2) (e := 14 * kc2 + 119) (by omega) (by omega) (by omega)) rfl rfl hdd (Nat.le_refl _) (Nat.le_refl _) (by decide) (pm_kv (fun σ' cnt' hq => ?_))
                obtain ⟨rfl, rfl⟩ := hq
                obtain ⟨n_538, en_538⟩ : ∃ f : Nat → Int32, f = upd n_529 (14 * kc2 + 119) (-1) := ⟨_, rfl⟩
                rw [← en_538]
                have hnn_538 := KI.w en_538 hnn_529 (okv_m (show kd (14 * kc2 + 119) = (2, 2001, false) from (kd_P (k := kc2) (c := 9) (by omega) (by omega) (by decide))))
                have hrn_538 := NRx.w en_538 hrn_529 (by rw [(show kd (14 * kc2 + 119) = (2, 2001, false) from (kd_P (k := kc2) (c := 9) (by omega) (by omega) (by decide)))])
                have ksn_538 := KSh.w (h := 14 * kc2 + 110) en_538 ksn_529 (by unfold tS; omega)
                have e539 : n_538 0 = nI kc0 := by rw [en_538, pk_un (by omega)]; exact e530
                have e540 : n_538 8 = nI kc8 := by rw [en_538, pk_un (by omega)]; exact e531
                have e541 : n_538 2 = nI (kc2 + 1) := by rw [en_538, pk_un (by omega)]; exact e532
                have e542 : n_538 (14 * kc2 + 121) = nI 0 := by rw [en_538, pk_un (by omega)]; exact e534
                have e543 : n_538 (14 * kc2 + 110) = nI k3 := by rw [en_538, pk_un (by omega)]; exact e535
                have e544 : n_538 (14 * kc2 + 111) = zb := by rw [en_538, pk_un (by omega)]; exact e536
                have e545 : n_538 (14 * kc2 + 119) = (-1) := by rw [en_538, pk_us]
                refine pm_aloadn hG dX12_person_203 rfl ?_
                refine pm_iloadi hG dX12_person_204 rfl ?_
                refine pm_bipush (v := nI 10) hG dX12_person_206 (by decide) ?_
                refine pm_iconst (v := (-1)) hG dX12_person_208 (by decide) ?_
                refine pm_callV (As := [.int (nI kc2), .int (nI 10), .int (-1)]) (rest := []) hG hR dX12_person_209 (lkX12_97 _ rfl) okV_X12_sets rfl rfl (m_sets (d := 2) (e := 14 * kc2 + 120) (by omega) (by omega) (by omega)) rfl rfl hdd (Nat.le_refl _) (Nat.le_refl _) (by decide) (pm_kv (fun σ' cnt' hq => ?_))
                obtain ⟨rfl, rfl⟩ := hq
                obtain ⟨n_546, en_546⟩ : ∃ f : Nat → Int32, f = upd n_538 (14 * kc2 + 120) (-1) := ⟨_, rfl⟩
                rw [← en_546]
                have hnn_546 := KI.w en_546 hnn_538 (okv_f (show kd (14 * kc2 + 120) = (0, 0, false) from (kd_P (k := kc2) (c := 10) (by omega) (by omega) (by decide))))
                have hrn_546 := NRx.w en_546 hrn_538 (by rw [(show kd (14 * kc2 + 120) = (0, 0, false) from (kd_P (k := kc2) (c := 10) (by omega) (by omega) (by decide)))])
                have ksn_546 := KSh.w (h := 14 * kc2 + 110) en_546 ksn_538 (by unfold tS; omega)
                have e547 : n_546 0 = nI kc0 := by rw [en_546, pk_un (by omega)]; exact e539
                have e548 : n_546 8 = nI kc8 := by rw [en_546, pk_un (by omega)]; exact e540
                have e549 : n_546 2 = nI (kc2 + 1) := by rw [en_546, pk_un (by omega)]; exact e541
                have e550 : n_546 (14 * kc2 + 121) = nI 0 := by rw [en_546, pk_un (by omega)]; exact e542
                have e551 : n_546 (14 * kc2 + 110) = nI k3 := by rw [en_546, pk_un (by omega)]; exact e543
                have e552 : n_546 (14 * kc2 + 111) = zb := by rw [en_546, pk_un (by omega)]; exact e544
                have e553 : n_546 (14 * kc2 + 119) = (-1) := by rw [en_546, pk_un (by omega)]; exact e545
                have e554 : n_546 (14 * kc2 + 120) = (-1) := by rw [en_546, pk_us]
                refine pm_aloadn hG dX12_person_212 rfl ?_
                refine pm_iloadi hG dX12_person_213 rfl ?_
                refine pm_bipush (v := nI 12) hG dX12_person_215 (by decide) ?_
                refine pm_iconst (v := nI 1) hG dX12_person_217 (by decide) ?_
                refine pm_callV (As := [.int (nI kc2), .int (nI 12), .int (nI 1)]) (rest := []) hG hR dX12_person_218 (lkX12_97 _ rfl) okV_X12_sets rfl rfl (m_sets (d := 2) (e := 14 * kc2 + 122) (by omega) (by omega) (by omega)) rfl rfl hdd (Nat.le_refl _) (Nat.le_refl _) (by decide) (pm_kv (fun σ' cnt' hq => ?_))
                obtain ⟨rfl, rfl⟩ := hq
                obtain ⟨n_555, en_555⟩ : ∃ f : Nat → Int32, f = upd n_546 (14 * kc2 + 122) (nI 1) := ⟨_, rfl⟩
                rw [← en_555]
                have hnn_555 := KI.w en_555 hnn_546 (okv_f (show kd (14 * kc2 + 122) = (0, 0, false) from (kd_P (k := kc2) (c := 12) (by omega) (by omega) (by decide))))
                have hrn_555 := NRx.w en_555 hrn_546 (by rw [(show kd (14 * kc2 + 122) = (0, 0, false) from (kd_P (k := kc2) (c := 12) (by omega) (by omega) (by decide)))])
                have ksn_555 := KSh.w (h := 14 * kc2 + 110) en_555 ksn_546 (by unfold tS; omega)
                have e556 : n_555 0 = nI kc0 := by rw [en_555, pk_un (by omega)]; exact e547
                have e557 : n_555 8 = nI kc8 := by rw [en_555, pk_un (by omega)]; exact e548
                have e558 : n_555 2 = nI (kc2 + 1) := by rw [en_555, pk_un (by omega)]; exact e549
                have e559 : n_555 (14 * kc2 + 121) = nI 0 := by rw [en_555, pk_un (by omega)]; exact e550
                have e560 : n_555 (14 * kc2 + 110) = nI k3 := by rw [en_555, pk_un (by omega)]; exact e551
                have e561 : n_555 (14 * kc2 + 111) = zb := by rw [en_555, pk_un (by omega)]; exact e552
                have e562 : n_555 (14 * kc2 + 119) = (-1) := by rw [en_555, pk_un (by omega)]; exact e553
                have e563 : n_555 (14 * kc2 + 122) = nI 1 := by rw [en_555, pk_us]
                refine pm_iloadi hG dX12_person_221 rfl ?_
                exact pm_iret hG hF dX12_person_223 rfl (Nat.le_refl _) (Nat.le_refl _) ⟨_, rfl, ⟨_, _, _, rfl, hnn_555, hrn_555, e556.trans ekc0.symm, e557.trans ekc8.symm, ⟨(vE_y (T := pN n) (d := n 8) (t := n 0) (p := n 2) (a := za) (b := zb) (c := zc) (e := zd) (not6 (rg_in (a := 0) (b := 1) (by omega) ek3 (by omega) (by omega)) (fun q => q.elim ac5 (by rw [ekc8]; exact bc5)) (by rw [ek9]; exact nI_pos (by omega)) (nt_in ekc0 (by omega) ek388 (by omega)) (fun q => q (by rw [dv1 ek9 (by omega)]; exact pk11)) (fun q => q (by rw [rm1 ek9 (by omega)]; exact pk383))) ekc2 (by omega)).1, e558.trans (vE_y (T := pN n) (d := n 8) (t := n 0) (p := n 2) (a := za) (b := zb) (c := zc) (e := zd) (not6 (rg_in (a := 0) (b := 1) (by omega) ek3 (by omega) (by omega)) (fun q => q.elim ac5 (by rw [ekc8]; exact bc5)) (by rw [ek9]; exact nI_pos (by omega)) (nt_in ekc0 (by omega) ek388 (by omega)) (fun q => q (by rw [dv1 ek9 (by omega)]; exact pk11)) (fun q => q (by rw [rm1 ek9 (by omega)]; exact pk383))) ekc2 (by omega)).2.1, fun j hj => by rw [e558, nI_clamp (by omega)] at hj; rw [(vE_y (T := pN n) (d := n 8) (t := n 0) (p := n 2) (a := za) (b := zb) (c := zc) (e := zd) (not6 (rg_in (a := 0) (b := 1) (by omega) ek3 (by omega) (by omega)) (fun q => q.elim ac5 (by rw [ekc8]; exact bc5)) (by rw [ek9]; exact nI_pos (by omega)) (nt_in ekc0 (by omega) ek388 (by omega)) (fun q => q (by rw [dv1 ek9 (by omega)]; exact pk11)) (fun q => q (by rw [rm1 ek9 (by omega)]; exact pk383))) ekc2 (by omega)).2.2]; exact tP_ok ksn_555 (e560.trans ek3.symm) e561 e562 e559 (by omega) j hj⟩⟩, rfl⟩
              · refine pm_aloadn hG dX12_person_102 rfl ?_
                refine pm_iconst (v := nI 4) hG dX12_person_103 (by decide) ?_
                refine pm_callV (As := [.int (nI 4)]) (rest := []) hG hR dX12_person_104 (lkX12_80 _ rfl) okV_X12_finds rfl rfl (m_finds (d := 2) (by decide) hn hz (by omega)) rfl rfl hdd (Nat.le_refl _) (Nat.le_refl _) (by decide) (pm_ki (fun v564 σ' cnt' hq => ?_))
                obtain ⟨⟨I565, A565, rfl⟩, rfl, fv564⟩ := hq
                exact pm_iret hG hF dX12_person_107 rfl (Nat.le_refl _) (Nat.le_refl _) ⟨_, rfl, ⟨_, _, _, rfl, hn, hr, ekc0.trans ekc0.symm, ekc8.trans ekc8.symm, ⟨fv564.trans ((by decide : (-1000000 : Int32) - nI 4 = -1000004).trans (vE_f (T := pN n) (d := n 8) (t := n 0) (p := n 2) (a := za) (b := zb) (c := zc) (e := zd) (not6 (rg_in (a := 0) (b := 1) (by omega) ek3 (by omega) (by omega)) (fun q => q.elim ac5 (by rw [ekc8]; exact bc5)) (by rw [ek9]; exact nI_pos (by omega)) (nt_in ekc0 (by omega) ek388 (by omega)) (fun q => q (by rw [dv1 ek9 (by omega)]; exact pk11)) (fun q => q (by rw [rm1 ek9 (by omega)]; exact pk383))) (ekc2.trans (congrArg nI (by omega)))).1), (vE_f (T := pN n) (d := n 8) (t := n 0) (p := n 2) (a := za) (b := zb) (c := zc) (e := zd) (not6 (rg_in (a := 0) (b := 1) (by omega) ek3 (by omega) (by omega)) (fun q => q.elim ac5 (by rw [ekc8]; exact bc5)) (by rw [ek9]; exact nI_pos (by omega)) (nt_in ekc0 (by omega) ek388 (by omega)) (fun q => q (by rw [dv1 ek9 (by omega)]; exact pk11)) (fun q => q (by rw [rm1 ek9 (by omega)]; exact pk383))) (ekc2.trans (congrArg nI (by omega)))).2.1, fun j _ => by rw [(vE_f (T := pN n) (d := n 8) (t := n 0) (p := n 2) (a := za) (b := zb) (c := zc) (e := zd) (not6 (rg_in (a := 0) (b := 1) (by omega) ek3 (by omega) (by omega)) (fun q => q.elim ac5 (by rw [ekc8]; exact bc5)) (by rw [ek9]; exact nI_pos (by omega)) (nt_in ekc0 (by omega) ek388 (by omega)) (fun q => q (by rw [dv1 ek9 (by omega)]; exact pk11)) (fun q => q (by rw [rm1 ek9 (by omega)]; exact pk383))) (ekc2.trans (congrArg nI (by omega)))).2.2]⟩⟩, rfl⟩
            · refine pm_ifN_eq (tgt := 73) hG dX12_person_66 rfl (by omega) (fun _ => ?_) (fun q => absurd q (by omega))
              refine pm_iconst (v := nI 0) hG dX12_person_73 (by decide) ?_
              refine pm_istoreXi (loc' := [some (.ref (B + 54)), some (.int za), some (.int zb), some (.int zc), some (.int zd), some (.int (nI 0)), none, none]) hG dX12_person_74 (by decide) (pm_c1b rfl) rfl ?_
              refine pm_iloadi hG dX12_person_76 rfl ?_
              refine pm_ifN_ne (tgt := 87) hG dX12_person_78 rfl (by omega) (fun q => absurd q (by omega)) (fun _ => ?_)
              refine pm_aloadn hG dX12_person_81 rfl ?_
              refine pm_iconst (v := nI 1) hG dX12_person_82 (by decide) ?_
              refine pm_callV (As := [.int (nI 1)]) (rest := []) hG hR dX12_person_83 (lkX12_80 _ rfl) okV_X12_finds rfl rfl (m_finds (d := 2) (by decide) hn hz (by omega)) rfl rfl hdd (Nat.le_refl _) (Nat.le_refl _) (by decide) (pm_ki (fun v566 σ' cnt' hq => ?_))
              obtain ⟨⟨I567, A567, rfl⟩, rfl, fv566⟩ := hq
              exact pm_iret hG hF dX12_person_86 rfl (Nat.le_refl _) (Nat.le_refl _) ⟨_, rfl, ⟨_, _, _, rfl, hn, hr, ekc0.trans ekc0.symm, ekc8.trans ekc8.symm, ⟨fv566.trans ((by decide : (-1000000 : Int32) - nI 1 = -1000001).trans (vE_n (T := pN n) (d := n 8) (t := n 0) (p := n 2) (a := za) (b := zb) (c := zc) (e := zd) (Or.inr (Or.inr (Or.inr (Or.inl (nt_out ekc0 (by omega) ntk388)))))).1), (vE_n (T := pN n) (d := n 8) (t := n 0) (p := n 2) (a := za) (b := zb) (c := zc) (e := zd) (Or.inr (Or.inr (Or.inr (Or.inl (nt_out ekc0 (by omega) ntk388)))))).2.1, fun j _ => by rw [(vE_n (T := pN n) (d := n 8) (t := n 0) (p := n 2) (a := za) (b := zb) (c := zc) (e := zd) (Or.inr (Or.inr (Or.inr (Or.inl (nt_out ekc0 (by omega) ntk388)))))).2.2]⟩⟩, rfl⟩
          · refine pm_ifN_eq (tgt := 73) hG dX12_person_57 rfl (by omega) (fun q => absurd q (by omega)) (fun _ => ?_)
            refine pm_aloadn hG dX12_person_60 rfl ?_
            refine pm_iloadi hG dX12_person_61 rfl ?_
            refine pm_callV (As := [.int zd]) (rest := []) hG hR dX12_person_63 (lkX12_84 _ rfl) okV_X12_isTown rfl rfl (m_isTown (d := 2) (by decide) ekc0 (by omega)) rfl rfl hdd (Nat.le_refl _) (Nat.le_refl _) (by decide) (pm_ki (fun v568 σ' cnt' hq => ?_))
            obtain ⟨hq, rfl, rfl⟩ := hq
            rcases hq with ⟨rfl, k570, hk570, ek570⟩ | ⟨rfl, ntk570⟩
            · refine pm_ifN_eq (tgt := 73) hG dX12_person_66 rfl (by omega) (fun q => absurd q (by omega)) (fun _ => ?_)
              refine pm_iconst (v := nI 1) hG dX12_person_69 (by decide) ?_
              refine pm_goto (tgt := 74) hG dX12_person_70 rfl ?_
              refine pm_istoreXi (loc' := [some (.ref (B + 54)), some (.int za), some (.int zb), some (.int zc), some (.int zd), some (.int (nI 1)), none, none]) hG dX12_person_74 (by decide) (pm_c1b rfl) rfl ?_
              refine pm_iloadi hG dX12_person_76 rfl ?_
              refine pm_ifN_ne (tgt := 87) hG dX12_person_78 rfl (by omega) (fun _ => ?_) (fun q => absurd q (by omega))
              refine pm_aloadn hG dX12_person_87 rfl ?_
              refine pm_getf hG dX12_person_88 (flX12_7 _ rfl) rfl rfl ?_
              refine pm_iconst (v := nI 2) hG dX12_person_91 (by decide) ?_
              refine pm_ialdN hG dX12_person_92 rfl (by decide) (by omega) ?_
              refine pm_top (v := nI kc2) ekc2 ?_
              refine pm_istoreXi (loc' := [some (.ref (B + 54)), some (.int za), some (.int zb), some (.int zc), some (.int zd), some (.int (nI 1)), some (.int (nI kc2)), none]) hG dX12_person_93 (by decide) (pm_c1b rfl) rfl ?_
              refine pm_iloadi hG dX12_person_95 rfl ?_
              refine pm_bipush (v := nI 20) hG dX12_person_97 (by decide) ?_
              refine pm_icmpN_ne (tgt := 108) hG dX12_person_99 rfl (by omega) (by omega) (fun c571 => ?_) (fun c571 => ?_)
              · refine pm_aloadn hG dX12_person_108 rfl ?_
                refine pm_getf hG dX12_person_109 (flX12_7 _ rfl) rfl rfl ?_
                refine pm_iconst (v := nI 2) hG dX12_person_112 (by decide) ?_
                refine pm_dup2 hG dX12_person_113 rfl rfl ?_
                refine pm_ialdN hG dX12_person_114 rfl (by decide) (by omega) ?_
                refine pm_top (v := nI kc2) ekc2 ?_
                refine pm_iconst (v := nI 1) hG dX12_person_115 (by decide) ?_
                refine pm_iaddN (c := kc2 + 1) hG dX12_person_116 (by omega) ?_
                refine pm_iastN hG dX12_person_117 rfl (by decide) (by omega) ?_
                refine mdn_now (fun n_572 en_572 => ?_)
                have hnn_572 := KI.w en_572 hn (okv_n (show kd 2 = (1, 21, true) by decide) (by omega))
                have hrn_572 := NRx.pers en_572 hr ekc0 (by omega) ekc2 (by omega)
                have ksn_572 := KSh.w (h := 14 * kc2 + 110) en_572 KSh.rf (by unfold tS; omega)
                have e573 : n_572 0 = nI kc0 := by rw [en_572, pk_un (by omega)]; exact ekc0
                have e574 : n_572 8 = nI kc8 := by rw [en_572, pk_un (by omega)]; exact ekc8
                have e575 : n_572 2 = nI (kc2 + 1) := by rw [en_572, pk_us]
                refine pm_iconst (v := nI 0) hG dX12_person_118 (by decide) ?_
                refine pm_istoreXi (loc' := [some (.ref (B + 54)), some (.int za), some (.int zb), some (.int zc), some (.int zd), some (.int (nI 1)), some (.int (nI kc2)), some (.int (nI 0))]) hG dX12_person_119 (by decide) (pm_c1b rfl) rfl ?_
                refine pm_iloadi hG dX12_person_121 rfl ?_
                refine pm_bipush (v := nI 14) hG dX12_person_123 (by decide) ?_
                refine pm_icmpN_ge (tgt := 143) hG dX12_person_125 rfl (by omega) (by omega) (fun q => absurd q (by omega)) (fun _ => ?_)
                refine pm_aloadn hG dX12_person_128 rfl ?_
                refine pm_iloadi hG dX12_person_129 rfl ?_
                refine pm_iloadi hG dX12_person_131 rfl ?_
                refine pm_iconst (v := nI 0) hG dX12_person_133 (by decide) ?_
                refine pm_callV (As := [.int (nI kc2), .int (nI 0), .int (nI 0)]) (rest := []) hG hR dX12_person_134 (lkX12_97 _ rfl) okV_X12_sets rfl rfl (m_sets (d := 2) (e := 14 * kc2 + 110) (by omega) (by omega) (by omega)) rfl rfl hdd (Nat.le_refl _) (Nat.le_refl _) (by decide) (pm_kv (fun σ' cnt' hq => ?_))
                obtain ⟨rfl, rfl⟩ := hq
                obtain ⟨n_576, en_576⟩ : ∃ f : Nat → Int32, f = upd n_572 (14 * kc2 + 110) (nI 0) := ⟨_, rfl⟩
                rw [← en_576]
                have hnn_576 := KI.w en_576 hnn_572 (okv_f (show kd (14 * kc2 + 110) = (0, 0, false) from (kd_P (k := kc2) (c := 0) (by omega) (by omega) (by decide))))
                have hrn_576 := NRx.w en_576 hrn_572 (by rw [(show kd (14 * kc2 + 110) = (0, 0, false) from (kd_P (k := kc2) (c := 0) (by omega) (by omega) (by decide)))])
                have ksn_576 := KSh.w (h := 14 * kc2 + 110) en_576 ksn_572 (by unfold tS; omega)
                have e577 : n_576 0 = nI kc0 := by rw [en_576, pk_un (by omega)]; exact e573
                have e578 : n_576 8 = nI kc8 := by rw [en_576, pk_un (by omega)]; exact e574
                have e579 : n_576 2 = nI (kc2 + 1) := by rw [en_576, pk_un (by omega)]; exact e575
                have e580 : n_576 (14 * kc2 + 110) = nI 0 := by rw [en_576, pk_us]
                refine pm_iincX (v := nI 1) (loc' := [some (.ref (B + 54)), some (.int za), some (.int zb), some (.int zc), some (.int zd), some (.int (nI 1)), some (.int (nI kc2)), some (.int (nI 1))]) hG dX12_person_137 rfl (nI_1 _) (by decide) (pm_c1b rfl) rfl ?_
                refine pm_goto (tgt := 121) hG dX12_person_140 rfl ?_
                refine pm_iloadi hG dX12_person_121 rfl ?_
                refine pm_bipush (v := nI 14) hG dX12_person_123 (by decide) ?_
                refine pm_icmpN_ge (tgt := 143) hG dX12_person_125 rfl (by omega) (by omega) (fun q => absurd q (by omega)) (fun _ => ?_)
                refine pm_aloadn hG dX12_person_128 rfl ?_
                refine pm_iloadi hG dX12_person_129 rfl ?_
                refine pm_iloadi hG dX12_person_131 rfl ?_
                refine pm_iconst (v := nI 0) hG dX12_person_133 (by decide) ?_
                refine pm_callV (As := [.int (nI kc2), .int (nI 1), .int (nI 0)]) (rest := []) hG hR dX12_person_134 (lkX12_97 _ rfl) okV_X12_sets rfl rfl (m_sets (d := 2) (e := 14 * kc2 + 111) (by omega) (by omega) (by omega)) rfl rfl hdd (Nat.le_refl _) (Nat.le_refl _) (by decide) (pm_kv (fun σ' cnt' hq => ?_))
                obtain ⟨rfl, rfl⟩ := hq
                obtain ⟨n_581, en_581⟩ : ∃ f : Nat → Int32, f = upd n_576 (14 * kc2 + 111) (nI 0) := ⟨_, rfl⟩
                rw [← en_581]
                have hnn_581 := KI.w en_581 hnn_576 (okv_f (show kd (14 * kc2 + 111) = (0, 0, false) from (kd_P (k := kc2) (c := 1) (by omega) (by omega) (by decide))))
                have hrn_581 := NRx.w en_581 hrn_576 (by rw [(show kd (14 * kc2 + 111) = (0, 0, false) from (kd_P (k := kc2) (c := 1) (by omega) (by omega) (by decide)))])
                have ksn_581 := KSh.w (h := 14 * kc2 + 110) en_581 ksn_576 (by unfold tS; omega)
                have e582 : n_581 0 = nI kc0 := by rw [en_581, pk_un (by omega)]; exact e577
                have e583 : n_581 8 = nI kc8 := by rw [en_581, pk_un (by omega)]; exact e578
                have e584 : n_581 2 = nI (kc2 + 1) := by rw [en_581, pk_un (by omega)]; exact e579
                have e585 : n_581 (14 * kc2 + 110) = nI 0 := by rw [en_581, pk_un (by omega)]; exact e580
                have e586 : n_581 (14 * kc2 + 111) = nI 0 := by rw [en_581, pk_us]
                refine pm_iincX (v := nI 2) (loc' := [some (.ref (B + 54)), some (.int za), some (.int zb), some (.int zc), some (.int zd), some (.int (nI 1)), some (.int (nI kc2)), some (.int (nI 2))]) hG dX12_person_137 rfl (nI_1 _) (by decide) (pm_c1b rfl) rfl ?_
                refine pm_goto (tgt := 121) hG dX12_person_140 rfl ?_
                refine pm_iloadi hG dX12_person_121 rfl ?_
                refine pm_bipush (v := nI 14) hG dX12_person_123 (by decide) ?_
                refine pm_icmpN_ge (tgt := 143) hG dX12_person_125 rfl (by omega) (by omega) (fun q => absurd q (by omega)) (fun _ => ?_)
                refine pm_aloadn hG dX12_person_128 rfl ?_
                refine pm_iloadi hG dX12_person_129 rfl ?_
                refine pm_iloadi hG dX12_person_131 rfl ?_
                refine pm_iconst (v := nI 0) hG dX12_person_133 (by decide) ?_
                refine pm_callV (As := [.int (nI kc2), .int (nI 2), .int (nI 0)]) (rest := []) hG hR dX12_person_134 (lkX12_97 _ rfl) okV_X12_sets rfl rfl (m_sets (d := 2) (e := 14 * kc2 + 112) (by omega) (by omega) (by omega)) rfl rfl hdd (Nat.le_refl _) (Nat.le_refl _) (by decide) (pm_kv (fun σ' cnt' hq => ?_))
                obtain ⟨rfl, rfl⟩ := hq
                obtain ⟨n_587, en_587⟩ : ∃ f : Nat → Int32, f = upd n_581 (14 * kc2 + 112) (nI 0) := ⟨_, rfl⟩
                rw [← en_587]
                have hnn_587 := KI.w en_587 hnn_581 (okv_o (show kd (14 * kc2 + 112) = (2, 20, false) from (kd_P (k := kc2) (c := 2) (by omega) (by omega) (by decide))) (by omega))
                have hrn_587 := NRx.w en_587 hrn_581 (by rw [(show kd (14 * kc2 + 112) = (2, 20, false) from (kd_P (k := kc2) (c := 2) (by omega) (by omega) (by decide)))])
                have ksn_587 := KSh.w (h := 14 * kc2 + 110) en_587 ksn_581 (by unfold tS; omega)
                have e588 : n_587 0 = nI kc0 := by rw [en_587, pk_un (by omega)]; exact e582
                have e589 : n_587 8 = nI kc8 := by rw [en_587, pk_un (by omega)]; exact e583
                have e590 : n_587 2 = nI (kc2 + 1) := by rw [en_587, pk_un (by omega)]; exact e584
                have e591 : n_587 (14 * kc2 + 110) = nI 0 := by rw [en_587, pk_un (by omega)]; exact e585
                have e592 : n_587 (14 * kc2 + 111) = nI 0 := by rw [en_587, pk_un (by omega)]; exact e586
                have e593 : n_587 (14 * kc2 + 112) = nI 0 := by rw [en_587, pk_us]
                refine pm_iincX (v := nI 3) (loc' := [some (.ref (B + 54)), some (.int za), some (.int zb), some (.int zc), some (.int zd), some (.int (nI 1)), some (.int (nI kc2)), some (.int (nI 3))]) hG dX12_person_137 rfl (nI_1 _) (by decide) (pm_c1b rfl) rfl ?_
                refine pm_goto (tgt := 121) hG dX12_person_140 rfl ?_
                refine pm_iloadi hG dX12_person_121 rfl ?_
                refine pm_bipush (v := nI 14) hG dX12_person_123 (by decide) ?_
                refine pm_icmpN_ge (tgt := 143) hG dX12_person_125 rfl (by omega) (by omega) (fun q => absurd q (by omega)) (fun _ => ?_)
                refine pm_aloadn hG dX12_person_128 rfl ?_
                refine pm_iloadi hG dX12_person_129 rfl ?_
                refine pm_iloadi hG dX12_person_131 rfl ?_
                refine pm_iconst (v := nI 0) hG dX12_person_133 (by decide) ?_
                refine pm_callV (As := [.int (nI kc2), .int (nI 3), .int (nI 0)]) (rest := []) hG hR dX12_person_134 (lkX12_97 _ rfl) okV_X12_sets rfl rfl (m_sets (d := 2) (e := 14 * kc2 + 113) (by omega) (by omega) (by omega)) rfl rfl hdd (Nat.le_refl _) (Nat.le_refl _) (by decide) (pm_kv (fun σ' cnt' hq => ?_))
                obtain ⟨rfl, rfl⟩ := hq
                obtain ⟨n_594, en_594⟩ : ∃ f : Nat → Int32, f = upd n_587 (14 * kc2 + 113) (nI 0) := ⟨_, rfl⟩
                rw [← en_594]
                have hnn_594 := KI.w en_594 hnn_587 (okv_o (show kd (14 * kc2 + 113) = (2, 20, false) from (kd_P (k := kc2) (c := 3) (by omega) (by omega) (by decide))) (by omega))
                have hrn_594 := NRx.w en_594 hrn_587 (by rw [(show kd (14 * kc2 + 113) = (2, 20, false) from (kd_P (k := kc2) (c := 3) (by omega) (by omega) (by decide)))])
                have ksn_594 := KSh.w (h := 14 * kc2 + 110) en_594 ksn_587 (by unfold tS; omega)
                have e595 : n_594 0 = nI kc0 := by rw [en_594, pk_un (by omega)]; exact e588
                have e596 : n_594 8 = nI kc8 := by rw [en_594, pk_un (by omega)]; exact e589
                have e597 : n_594 2 = nI (kc2 + 1) := by rw [en_594, pk_un (by omega)]; exact e590
                have e598 : n_594 (14 * kc2 + 110) = nI 0 := by rw [en_594, pk_un (by omega)]; exact e591
                have e599 : n_594 (14 * kc2 + 111) = nI 0 := by rw [en_594, pk_un (by omega)]; exact e592
                have e600 : n_594 (14 * kc2 + 113) = nI 0 := by rw [en_594, pk_us]
                refine pm_iincX (v := nI 4) (loc' := [some (.ref (B + 54)), some (.int za), some (.int zb), some (.int zc), some (.int zd), some (.int (nI 1)), some (.int (nI kc2)), some (.int (nI 4))]) hG dX12_person_137 rfl (nI_1 _) (by decide) (pm_c1b rfl) rfl ?_
                refine pm_goto (tgt := 121) hG dX12_person_140 rfl ?_
                refine pm_iloadi hG dX12_person_121 rfl ?_
                refine pm_bipush (v := nI 14) hG dX12_person_123 (by decide) ?_
                refine pm_icmpN_ge (tgt := 143) hG dX12_person_125 rfl (by omega) (by omega) (fun q => absurd q (by omega)) (fun _ => ?_)
                refine pm_aloadn hG dX12_person_128 rfl ?_
                refine pm_iloadi hG dX12_person_129 rfl ?_
                refine pm_iloadi hG dX12_person_131 rfl ?_
                refine pm_iconst (v := nI 0) hG dX12_person_133 (by decide) ?_
                refine pm_callV (As := [.int (nI kc2), .int (nI 4), .int (nI 0)]) (rest := []) hG hR dX12_person_134 (lkX12_97 _ rfl) okV_X12_sets rfl rfl (m_sets (d := 2) (e := 14 * kc2 + 114) (by omega) (by omega) (by omega)) rfl rfl hdd (Nat.le_refl _) (Nat.le_refl _) (by decide) (pm_kv (fun σ' cnt' hq => ?_))
                obtain ⟨rfl, rfl⟩ := hq
                obtain ⟨n_601, en_601⟩ : ∃ f : Nat → Int32, f = upd n_594 (14 * kc2 + 114) (nI 0) := ⟨_, rfl⟩
                rw [← en_601]
                have hnn_601 := KI.w en_601 hnn_594 (okv_o (show kd (14 * kc2 + 114) = (2, 10, false) from (kd_P (k := kc2) (c := 4) (by omega) (by omega) (by decide))) (by omega))
                have hrn_601 := NRx.w en_601 hrn_594 (by rw [(show kd (14 * kc2 + 114) = (2, 10, false) from (kd_P (k := kc2) (c := 4) (by omega) (by omega) (by decide)))])
                have ksn_601 := KSh.w (h := 14 * kc2 + 110) en_601 ksn_594 (by unfold tS; omega)
                have e602 : n_601 0 = nI kc0 := by rw [en_601, pk_un (by omega)]; exact e595
                have e603 : n_601 8 = nI kc8 := by rw [en_601, pk_un (by omega)]; exact e596
                have e604 : n_601 2 = nI (kc2 + 1) := by rw [en_601, pk_un (by omega)]; exact e597
                have e605 : n_601 (14 * kc2 + 110) = nI 0 := by rw [en_601, pk_un (by omega)]; exact e598
                have e606 : n_601 (14 * kc2 + 111) = nI 0 := by rw [en_601, pk_un (by omega)]; exact e599
                have e607 : n_601 (14 * kc2 + 114) = nI 0 := by rw [en_601, pk_us]
                refine pm_iincX (v := nI 5) (loc' := [some (.ref (B + 54)), some (.int za), some (.int zb), some (.int zc), some (.int zd), some (.int (nI 1)), some (.int (nI kc2)), some (.int (nI 5))]) hG dX12_person_137 rfl (nI_1 _) (by decide) (pm_c1b rfl) rfl ?_
                refine pm_goto (tgt := 121) hG dX12_person_140 rfl ?_
                refine pm_iloadi hG dX12_person_121 rfl ?_
                refine pm_bipush (v := nI 14) hG dX12_person_123 (by decide) ?_
                refine pm_icmpN_ge (tgt := 143) hG dX12_person_125 rfl (by omega) (by omega) (fun q => absurd q (by omega)) (fun _ => ?_)
                refine pm_aloadn hG dX12_person_128 rfl ?_
                refine pm_iloadi hG dX12_person_129 rfl ?_
                refine pm_iloadi hG dX12_person_131 rfl ?_
                refine pm_iconst (v := nI 0) hG dX12_person_133 (by decide) ?_
                refine pm_callV (As := [.int (nI kc2), .int (nI 5), .int (nI 0)]) (rest := []) hG hR dX12_person_134 (lkX12_97 _ rfl) okV_X12_sets rfl rfl (m_sets (d := 2) (e := 14 * kc2 + 115) (by omega) (by omega) (by omega)) rfl rfl hdd (Nat.le_refl _) (Nat.le_refl _) (by decide) (pm_kv (fun σ' cnt' hq => ?_))
                obtain ⟨rfl, rfl⟩ := hq
                obtain ⟨n_608, en_608⟩ : ∃ f : Nat → Int32, f = upd n_601 (14 * kc2 + 115) (nI 0) := ⟨_, rfl⟩
                rw [← en_608]
                have hnn_608 := KI.w en_608 hnn_601 (okv_n (show kd (14 * kc2 + 115) = (1, 10, false) from (kd_P (k := kc2) (c := 5) (by omega) (by omega) (by decide))) (by omega))
                have hrn_608 := NRx.w en_608 hrn_601 (by rw [(show kd (14 * kc2 + 115) = (1, 10, false) from (kd_P (k := kc2) (c := 5) (by omega) (by omega) (by decide)))])
                have ksn_608 := KSh.w (h := 14 * kc2 + 110) en_608 ksn_601 (by unfold tS; omega)
                have e609 : n_608 0 = nI kc0 := by rw [en_608, pk_un (by omega)]; exact e602
                have e610 : n_608 8 = nI kc8 := by rw [en_608, pk_un (by omega)]; exact e603
                have e611 : n_608 2 = nI (kc2 + 1) := by rw [en_608, pk_un (by omega)]; exact e604
                have e612 : n_608 (14 * kc2 + 110) = nI 0 := by rw [en_608, pk_un (by omega)]; exact e605
                have e613 : n_608 (14 * kc2 + 111) = nI 0 := by rw [en_608, pk_un (by omega)]; exact e606
                have e614 : n_608 (14 * kc2 + 115) = nI 0 := by rw [en_608, pk_us]
                refine pm_iincX (v := nI 6) (loc' := [some (.ref (B + 54)), some (.int za), some (.int zb), some (.int zc), some (.int zd), some (.int (nI 1)), some (.int (nI kc2)), some (.int (nI 6))]) hG dX12_person_137 rfl (nI_1 _) (by decide) (pm_c1b rfl) rfl ?_
                refine pm_goto (tgt := 121) hG dX12_person_140 rfl ?_
                refine pm_iloadi hG dX12_person_121 rfl ?_
                refine pm_bipush (v := nI 14) hG dX12_person_123 (by decide) ?_
                refine pm_icmpN_ge (tgt := 143) hG dX12_person_125 rfl (by omega) (by omega) (fun q => absurd q (by omega)) (fun _ => ?_)
                refine pm_aloadn hG dX12_person_128 rfl ?_
                refine pm_iloadi hG dX12_person_129 rfl ?_
                refine pm_iloadi hG dX12_person_131 rfl ?_
                refine pm_iconst (v := nI 0) hG dX12_person_133 (by decide) ?_
                refine pm_callV (As := [.int (nI kc2), .int (nI 6), .int (nI 0)]) (rest := []) hG hR dX12_person_134 (lkX12_97 _ rfl) okV_X12_sets rfl rfl (m_sets (d := 2) (e := 14 * kc2 + 116) (by omega) (by omega) (by omega)) rfl rfl hdd (Nat.le_refl _) (Nat.le_refl _) (by decide) (pm_kv (fun σ' cnt' hq => ?_))
                obtain ⟨rfl, rfl⟩ := hq
                obtain ⟨n_615, en_615⟩ : ∃ f : Nat → Int32, f = upd n_608 (14 * kc2 + 116) (nI 0) := ⟨_, rfl⟩
                rw [← en_615]
                have hnn_615 := KI.w en_615 hnn_608 (okv_f (show kd (14 * kc2 + 116) = (0, 0, false) from (kd_P (k := kc2) (c := 6) (by omega) (by omega) (by decide))))
                have hrn_615 := NRx.w en_615 hrn_608 (by rw [(show kd (14 * kc2 + 116) = (0, 0, false) from (kd_P (k := kc2) (c := 6) (by omega) (by omega) (by decide)))])
                have ksn_615 := KSh.w (h := 14 * kc2 + 110) en_615 ksn_608 (by unfold tS; omega)
                have e616 : n_615 0 = nI kc0 := by rw [en_615, pk_un (by omega)]; exact e609
                have e617 : n_615 8 = nI kc8 := by rw [en_615, pk_un (by omega)]; exact e610
                have e618 : n_615 2 = nI (kc2 + 1) := by rw [en_615, pk_un (by omega)]; exact e611
                have e619 : n_615 (14 * kc2 + 110) = nI 0 := by rw [en_615, pk_un (by omega)]; exact e612
                have e620 : n_615 (14 * kc2 + 111) = nI 0 := by rw [en_615, pk_un (by omega)]; exact e613
                have e621 : n_615 (14 * kc2 + 116) = nI 0 := by rw [en_615, pk_us]
                refine pm_iincX (v := nI 7) (loc' := [some (.ref (B + 54)), some (.int za), some (.int zb), some (.int zc), some (.int zd), some (.int (nI 1)), some (.int (nI kc2)), some (.int (nI 7))]) hG dX12_person_137 rfl (nI_1 _) (by decide) (pm_c1b rfl) rfl ?_
                refine pm_goto (tgt := 121) hG dX12_person_140 rfl ?_
                refine pm_iloadi hG dX12_person_121 rfl ?_
                refine pm_bipush (v := nI 14) hG dX12_person_123 (by decide) ?_
                refine pm_icmpN_ge (tgt := 143) hG dX12_person_125 rfl (by omega) (by omega) (fun q => absurd q (by omega)) (fun _ => ?_)
                refine pm_aloadn hG dX12_person_128 rfl ?_
                refine pm_iloadi hG dX12_person_129 rfl ?_
                refine pm_iloadi hG dX12_person_131 rfl ?_
                refine pm_iconst (v := nI 0) hG dX12_person_133 (by decide) ?_
                refine pm_callV (As := [.int (nI kc2), .int (nI 7), .int (nI 0)]) (rest := []) hG hR dX12_person_134 (lkX12_97 _ rfl) okV_X12_sets rfl rfl (m_sets (d := 2) (e := 14 * kc2 + 117) (by omega) (by omega) (by omega)) rfl rfl hdd (Nat.le_refl _) (Nat.le_refl _) (by decide) (pm_kv (fun σ' cnt' hq => ?_))
                obtain ⟨rfl, rfl⟩ := hq
                obtain ⟨n_622, en_622⟩ : ∃ f : Nat → Int32, f = upd n_615 (14 * kc2 + 117) (nI 0) := ⟨_, rfl⟩
                rw [← en_622]
                have hnn_622 := KI.w en_622 hnn_615 (okv_f (show kd (14 * kc2 + 117) = (0, 0, false) from (kd_P (k := kc2) (c := 7) (by omega) (by omega) (by decide))))
                have hrn_622 := NRx.w en_622 hrn_615 (by rw [(show kd (14 * kc2 + 117) = (0, 0, false) from (kd_P (k := kc2) (c := 7) (by omega) (by omega) (by decide)))])
                have ksn_622 := KSh.w (h := 14 * kc2 + 110) en_622 ksn_615 (by unfold tS; omega)
                have e623 : n_622 0 = nI kc0 := by rw [en_622, pk_un (by omega)]; exact e616
                have e624 : n_622 8 = nI kc8 := by rw [en_622, pk_un (by omega)]; exact e617
                have e625 : n_622 2 = nI (kc2 + 1) := by rw [en_622, pk_un (by omega)]; exact e618
                have e626 : n_622 (14 * kc2 + 110) = nI 0 := by rw [en_622, pk_un (by omega)]; exact e619
                have e627 : n_622 (14 * kc2 + 111) = nI 0 := by rw [en_622, pk_un (by omega)]; exact e620
                have e628 : n_622 (14 * kc2 + 117) = nI 0 := by rw [en_622, pk_us]
                refine pm_iincX (v := nI 8) (loc' := [some (.ref (B + 54)), some (.int za), some (.int zb), some (.int zc), some (.int zd), some (.int (nI 1)), some (.int (nI kc2)), some (.int (nI 8))]) hG dX12_person_137 rfl (nI_1 _) (by decide) (pm_c1b rfl) rfl ?_
                refine pm_goto (tgt := 121) hG dX12_person_140 rfl ?_
                refine pm_iloadi hG dX12_person_121 rfl ?_
                refine pm_bipush (v := nI 14) hG dX12_person_123 (by decide) ?_
                refine pm_icmpN_ge (tgt := 143) hG dX12_person_125 rfl (by omega) (by omega) (fun q => absurd q (by omega)) (fun _ => ?_)
                refine pm_aloadn hG dX12_person_128 rfl ?_
                refine pm_iloadi hG dX12_person_129 rfl ?_
                refine pm_iloadi hG dX12_person_131 rfl ?_
                refine pm_iconst (v := nI 0) hG dX12_person_133 (by decide) ?_
                refine pm_callV (As := [.int (nI kc2), .int (nI 8), .int (nI 0)]) (rest := []) hG hR dX12_person_134 (lkX12_97 _ rfl) okV_X12_sets rfl rfl (m_sets (d := 2) (e := 14 * kc2 + 118) (by omega) (by omega) (by omega)) rfl rfl hdd (Nat.le_refl _) (Nat.le_refl _) (by decide) (pm_kv (fun σ' cnt' hq => ?_))
                obtain ⟨rfl, rfl⟩ := hq
                obtain ⟨n_629, en_629⟩ : ∃ f : Nat → Int32, f = upd n_622 (14 * kc2 + 118) (nI 0) := ⟨_, rfl⟩
                rw [← en_629]
                have hnn_629 := KI.w en_629 hnn_622 (okv_f (show kd (14 * kc2 + 118) = (0, 0, false) from (kd_P (k := kc2) (c := 8) (by omega) (by omega) (by decide))))
                have hrn_629 := NRx.w en_629 hrn_622 (by rw [(show kd (14 * kc2 + 118) = (0, 0, false) from (kd_P (k := kc2) (c := 8) (by omega) (by omega) (by decide)))])
                have ksn_629 := KSh.w (h := 14 * kc2 + 110) en_629 ksn_622 (by unfold tS; omega)
                have e630 : n_629 0 = nI kc0 := by rw [en_629, pk_un (by omega)]; exact e623
                have e631 : n_629 8 = nI kc8 := by rw [en_629, pk_un (by omega)]; exact e624
                have e632 : n_629 2 = nI (kc2 + 1) := by rw [en_629, pk_un (by omega)]; exact e625
                have e633 : n_629 (14 * kc2 + 110) = nI 0 := by rw [en_629, pk_un (by omega)]; exact e626
                have e634 : n_629 (14 * kc2 + 111) = nI 0 := by rw [en_629, pk_un (by omega)]; exact e627
                have e635 : n_629 (14 * kc2 + 118) = nI 0 := by rw [en_629, pk_us]
                refine pm_iincX (v := nI 9) (loc' := [some (.ref (B + 54)), some (.int za), some (.int zb), some (.int zc), some (.int zd), some (.int (nI 1)), some (.int (nI kc2)), some (.int (nI 9))]) hG dX12_person_137 rfl (nI_1 _) (by decide) (pm_c1b rfl) rfl ?_
                refine pm_goto (tgt := 121) hG dX12_person_140 rfl ?_
                refine pm_iloadi hG dX12_person_121 rfl ?_
                refine pm_bipush (v := nI 14) hG dX12_person_123 (by decide) ?_
                refine pm_icmpN_ge (tgt := 143) hG dX12_person_125 rfl (by omega) (by omega) (fun q => absurd q (by omega)) (fun _ => ?_)
                refine pm_aloadn hG dX12_person_128 rfl ?_
                refine pm_iloadi hG dX12_person_129 rfl ?_
                refine pm_iloadi hG dX12_person_131 rfl ?_
                refine pm_iconst (v := nI 0) hG dX12_person_133 (by decide) ?_
                refine pm_callV (As := [.int (nI kc2), .int (nI 9), .int (nI 0)]) (rest := []) hG hR dX12_person_134 (lkX12_97 _ rfl) okV_X12_sets rfl rfl (m_sets (d := 2) (e := 14 * kc2 + 119) (by omega) (by omega) (by omega)) rfl rfl hdd (Nat.le_refl _) (Nat.le_refl _) (by decide) (pm_kv (fun σ' cnt' hq => ?_))
                obtain ⟨rfl, rfl⟩ := hq
                obtain ⟨n_636, en_636⟩ : ∃ f : Nat → Int32, f = upd n_629 (14 * kc2 + 119) (nI 0) := ⟨_, rfl⟩
                rw [← en_636]
                have hnn_636 := KI.w en_636 hnn_629 (okv_o (show kd (14 * kc2 + 119) = (2, 2001, false) from (kd_P (k := kc2) (c := 9) (by omega) (by omega) (by decide))) (by omega))
                have hrn_636 := NRx.w en_636 hrn_629 (by rw [(show kd (14 * kc2 + 119) = (2, 2001, false) from (kd_P (k := kc2) (c := 9) (by omega) (by omega) (by decide)))])
                have ksn_636 := KSh.w (h := 14 * kc2 + 110) en_636 ksn_629 (by unfold tS; omega)
                have e637 : n_636 0 = nI kc0 := by rw [en_636, pk_un (by omega)]; exact e630
                have e638 : n_636 8 = nI kc8 := by rw [en_636, pk_un (by omega)]; exact e631
                have e639 : n_636 2 = nI (kc2 + 1) := by rw [en_636, pk_un (by omega)]; exact e632
                have e640 : n_636 (14 * kc2 + 110) = nI 0 := by rw [en_636, pk_un (by omega)]; exact e633
                have e641 : n_636 (14 * kc2 + 111) = nI 0 := by rw [en_636, pk_un (by omega)]; exact e634
                have e642 : n_636 (14 * kc2 + 119) = nI 0 := by rw [en_636, pk_us]
                refine pm_iincX (v := nI 10) (loc' := [some (.ref (B + 54)), some (.int za), some (.int zb), some (.int zc), some (.int zd), some (.int (nI 1)), some (.int (nI kc2)), some (.int (nI 10))]) hG dX12_person_137 rfl (nI_1 _) (by decide) (pm_c1b rfl) rfl ?_
                refine pm_goto (tgt := 121) hG dX12_person_140 rfl ?_
                refine pm_iloadi hG dX12_person_121 rfl ?_
                refine pm_bipush (v := nI 14) hG dX12_person_123 (by decide) ?_
                refine pm_icmpN_ge (tgt := 143) hG dX12_person_125 rfl (by omega) (by omega) (fun q => absurd q (by omega)) (fun _ => ?_)
                refine pm_aloadn hG dX12_person_128 rfl ?_
                refine pm_iloadi hG dX12_person_129 rfl ?_
                refine pm_iloadi hG dX12_person_131 rfl ?_
                refine pm_iconst (v := nI 0) hG dX12_person_133 (by decide) ?_
                refine pm_callV (As := [.int (nI kc2), .int (nI 10), .int (nI 0)]) (rest := []) hG hR dX12_person_134 (lkX12_97 _ rfl) okV_X12_sets rfl rfl (m_sets (d := 2) (e := 14 * kc2 + 120) (by omega) (by omega) (by omega)) rfl rfl hdd (Nat.le_refl _) (Nat.le_refl _) (by decide) (pm_kv (fun σ' cnt' hq => ?_))
                obtain ⟨rfl, rfl⟩ := hq
                obtain ⟨n_643, en_643⟩ : ∃ f : Nat → Int32, f = upd n_636 (14 * kc2 + 120) (nI 0) := ⟨_, rfl⟩
                rw [← en_643]
                have hnn_643 := KI.w en_643 hnn_636 (okv_f (show kd (14 * kc2 + 120) = (0, 0, false) from (kd_P (k := kc2) (c := 10) (by omega) (by omega) (by decide))))
                have hrn_643 := NRx.w en_643 hrn_636 (by rw [(show kd (14 * kc2 + 120) = (0, 0, false) from (kd_P (k := kc2) (c := 10) (by omega) (by omega) (by decide)))])
                have ksn_643 := KSh.w (h := 14 * kc2 + 110) en_643 ksn_636 (by unfold tS; omega)
                have e644 : n_643 0 = nI kc0 := by rw [en_643, pk_un (by omega)]; exact e637
                have e645 : n_643 8 = nI kc8 := by rw [en_643, pk_un (by omega)]; exact e638
                have e646 : n_643 2 = nI (kc2 + 1) := by rw [en_643, pk_un (by omega)]; exact e639
                have e647 : n_643 (14 * kc2 + 110) = nI 0 := by rw [en_643, pk_un (by omega)]; exact e640
                have e648 : n_643 (14 * kc2 + 111) = nI 0 := by rw [en_643, pk_un (by omega)]; exact e641
                have e649 : n_643 (14 * kc2 + 119) = nI 0 := by rw [en_643, pk_un (by omega)]; exact e642
                have e650 : n_643 (14 * kc2 + 120) = nI 0 := by rw [en_643, pk_us]
                refine pm_iincX (v := nI 11) (loc' := [some (.ref (B + 54)), some (.int za), some (.int zb), some (.int zc), some (.int zd), some (.int (nI 1)), some (.int (nI kc2)), some (.int (nI 11))]) hG dX12_person_137 rfl (nI_1 _) (by decide) (pm_c1b rfl) rfl ?_
                refine pm_goto (tgt := 121) hG dX12_person_140 rfl ?_
                refine pm_iloadi hG dX12_person_121 rfl ?_
                refine pm_bipush (v := nI 14) hG dX12_person_123 (by decide) ?_
                refine pm_icmpN_ge (tgt := 143) hG dX12_person_125 rfl (by omega) (by omega) (fun q => absurd q (by omega)) (fun _ => ?_)
                refine pm_aloadn hG dX12_person_128 rfl ?_
                refine pm_iloadi hG dX12_person_129 rfl ?_
                refine pm_iloadi hG dX12_person_131 rfl ?_
                refine pm_iconst (v := nI 0) hG dX12_person_133 (by decide) ?_
                refine pm_callV (As := [.int (nI kc2), .int (nI 11), .int (nI 0)]) (rest := []) hG hR dX12_person_134 (lkX12_97 _ rfl) okV_X12_sets rfl rfl (m_sets (d := 2) (e := 14 * kc2 + 121) (by omega) (by omega) (by omega)) rfl rfl hdd (Nat.le_refl _) (Nat.le_refl _) (by decide) (pm_kv (fun σ' cnt' hq => ?_))
                obtain ⟨rfl, rfl⟩ := hq
                obtain ⟨n_651, en_651⟩ : ∃ f : Nat → Int32, f = upd n_643 (14 * kc2 + 121) (nI 0) := ⟨_, rfl⟩
                rw [← en_651]
                have hnn_651 := KI.w en_651 hnn_643 (okv_n (show kd (14 * kc2 + 121) = (1, 2, true) from (kd_P (k := kc2) (c := 11) (by omega) (by omega) (by decide))) (by omega))
                have hrn_651 := NRx.unseat (p := kc2) en_651 hrn_643 (by omega)
                have ksn_651 := KSh.w (h := 14 * kc2 + 110) en_651 ksn_643 (by unfold tS; omega)
                have e652 : n_651 0 = nI kc0 := by rw [en_651, pk_un (by omega)]; exact e644
                have e653 : n_651 8 = nI kc8 := by rw [en_651, pk_un (by omega)]; exact e645
                have e654 : n_651 2 = nI (kc2 + 1) := by rw [en_651, pk_un (by omega)]; exact e646
                have e655 : n_651 (14 * kc2 + 110) = nI 0 := by rw [en_651, pk_un (by omega)]; exact e647
                have e656 : n_651 (14 * kc2 + 111) = nI 0 := by rw [en_651, pk_un (by omega)]; exact e648
                have e657 : n_651 (14 * kc2 + 119) = nI 0 := by rw [en_651, pk_un (by omega)]; exact e649
                have e658 : n_651 (14 * kc2 + 121) = nI 0 := by rw [en_651, pk_us]
                refine pm_iincX (v := nI 12) (loc' := [some (.ref (B + 54)), some (.int za), some (.int zb), some (.int zc), some (.int zd), some (.int (nI 1)), some (.int (nI kc2)), some (.int (nI 12))]) hG dX12_person_137 rfl (nI_1 _) (by decide) (pm_c1b rfl) rfl ?_
                refine pm_goto (tgt := 121) hG dX12_person_140 rfl ?_
                refine pm_iloadi hG dX12_person_121 rfl ?_
                refine pm_bipush (v := nI 14) hG dX12_person_123 (by decide) ?_
                refine pm_icmpN_ge (tgt := 143) hG dX12_person_125 rfl (by omega) (by omega) (fun q => absurd q (by omega)) (fun _ => ?_)
                refine pm_aloadn hG dX12_person_128 rfl ?_
                refine pm_iloadi hG dX12_person_129 rfl ?_
                refine pm_iloadi hG dX12_person_131 rfl ?_
                refine pm_iconst (v := nI 0) hG dX12_person_133 (by decide) ?_
                refine pm_callV (As := [.int (nI kc2), .int (nI 12), .int (nI 0)]) (rest := []) hG hR dX12_person_134 (lkX12_97 _ rfl) okV_X12_sets rfl rfl (m_sets (d := 2) (e := 14 * kc2 + 122) (by omega) (by omega) (by omega)) rfl rfl hdd (Nat.le_refl _) (Nat.le_refl _) (by decide) (pm_kv (fun σ' cnt' hq => ?_))
                obtain ⟨rfl, rfl⟩ := hq
                obtain ⟨n_659, en_659⟩ : ∃ f : Nat → Int32, f = upd n_651 (14 * kc2 + 122) (nI 0) := ⟨_, rfl⟩
                rw [← en_659]
                have hnn_659 := KI.w en_659 hnn_651 (okv_f (show kd (14 * kc2 + 122) = (0, 0, false) from (kd_P (k := kc2) (c := 12) (by omega) (by omega) (by decide))))
                have hrn_659 := NRx.w en_659 hrn_651 (by rw [(show kd (14 * kc2 + 122) = (0, 0, false) from (kd_P (k := kc2) (c := 12) (by omega) (by omega) (by decide)))])
                have ksn_659 := KSh.w (h := 14 * kc2 + 110) en_659 ksn_651 (by unfold tS; omega)
                have e660 : n_659 0 = nI kc0 := by rw [en_659, pk_un (by omega)]; exact e652
                have e661 : n_659 8 = nI kc8 := by rw [en_659, pk_un (by omega)]; exact e653
                have e662 : n_659 2 = nI (kc2 + 1) := by rw [en_659, pk_un (by omega)]; exact e654
                have e663 : n_659 (14 * kc2 + 110) = nI 0 := by rw [en_659, pk_un (by omega)]; exact e655
                have e664 : n_659 (14 * kc2 + 111) = nI 0 := by rw [en_659, pk_un (by omega)]; exact e656
                have e665 : n_659 (14 * kc2 + 119) = nI 0 := by rw [en_659, pk_un (by omega)]; exact e657
                have e666 : n_659 (14 * kc2 + 121) = nI 0 := by rw [en_659, pk_un (by omega)]; exact e658
                have e667 : n_659 (14 * kc2 + 122) = nI 0 := by rw [en_659, pk_us]
                refine pm_iincX (v := nI 13) (loc' := [some (.ref (B + 54)), some (.int za), some (.int zb), some (.int zc), some (.int zd), some (.int (nI 1)), some (.int (nI kc2)), some (.int (nI 13))]) hG dX12_person_137 rfl (nI_1 _) (by decide) (pm_c1b rfl) rfl ?_
                refine pm_goto (tgt := 121) hG dX12_person_140 rfl ?_
                refine pm_iloadi hG dX12_person_121 rfl ?_
                refine pm_bipush (v := nI 14) hG dX12_person_123 (by decide) ?_
                refine pm_icmpN_ge (tgt := 143) hG dX12_person_125 rfl (by omega) (by omega) (fun q => absurd q (by omega)) (fun _ => ?_)
                refine pm_aloadn hG dX12_person_128 rfl ?_
                refine pm_iloadi hG dX12_person_129 rfl ?_
                refine pm_iloadi hG dX12_person_131 rfl ?_
                refine pm_iconst (v := nI 0) hG dX12_person_133 (by decide) ?_
                refine pm_callV (As := [.int (nI kc2), .int (nI 13), .int (nI 0)]) (rest := []) hG hR dX12_person_134 (lkX12_97 _ rfl) okV_X12_sets rfl rfl (m_sets (d := 2) (e := 14 * kc2 + 123) (by omega) (by omega) (by omega)) rfl rfl hdd (Nat.le_refl _) (Nat.le_refl _) (by decide) (pm_kv (fun σ' cnt' hq => ?_))
                obtain ⟨rfl, rfl⟩ := hq
                obtain ⟨n_668, en_668⟩ : ∃ f : Nat → Int32, f = upd n_659 (14 * kc2 + 123) (nI 0) := ⟨_, rfl⟩
                rw [← en_668]
                have hnn_668 := KI.w en_668 hnn_659 (okv_f (show kd (14 * kc2 + 123) = (0, 0, false) from (kd_P (k := kc2) (c := 13) (by omega) (by omega) (by decide))))
                have hrn_668 := NRx.w en_668 hrn_659 (by rw [(show kd (14 * kc2 + 123) = (0, 0, false) from (kd_P (k := kc2) (c := 13) (by omega) (by omega) (by decide)))])
                have ksn_668 := KSh.w (h := 14 * kc2 + 110) en_668 ksn_659 (by unfold tS; omega)
                have e669 : n_668 0 = nI kc0 := by rw [en_668, pk_un (by omega)]; exact e660
                have e670 : n_668 8 = nI kc8 := by rw [en_668, pk_un (by omega)]; exact e661
                have e671 : n_668 2 = nI (kc2 + 1) := by rw [en_668, pk_un (by omega)]; exact e662
                have e672 : n_668 (14 * kc2 + 110) = nI 0 := by rw [en_668, pk_un (by omega)]; exact e663
                have e673 : n_668 (14 * kc2 + 111) = nI 0 := by rw [en_668, pk_un (by omega)]; exact e664
                have e674 : n_668 (14 * kc2 + 119) = nI 0 := by rw [en_668, pk_un (by omega)]; exact e665
                have e675 : n_668 (14 * kc2 + 121) = nI 0 := by rw [en_668, pk_un (by omega)]; exact e666
                have e676 : n_668 (14 * kc2 + 123) = nI 0 := by rw [en_668, pk_us]
                refine pm_iincX (v := nI 14) (loc' := [some (.ref (B + 54)), some (.int za), some (.int zb), some (.int zc), some (.int zd), some (.int (nI 1)), some (.int (nI kc2)), some (.int (nI 14))]) hG dX12_person_137 rfl (nI_1 _) (by decide) (pm_c1b rfl) rfl ?_
                refine pm_goto (tgt := 121) hG dX12_person_140 rfl ?_
                refine pm_iloadi hG dX12_person_121 rfl ?_
                refine pm_bipush (v := nI 14) hG dX12_person_123 (by decide) ?_
                refine pm_icmpN_ge (tgt := 143) hG dX12_person_125 rfl (by omega) (by omega) (fun _ => ?_) (fun q => absurd q (by omega))
                refine pm_aloadn hG dX12_person_143 rfl ?_
                refine pm_iloadi hG dX12_person_144 rfl ?_
                refine pm_iconst (v := nI 0) hG dX12_person_146 (by decide) ?_
                refine pm_iloadn hG dX12_person_147 rfl ?_
                refine pm_top (v := nI k3) ek3 ?_
                refine pm_callV (As := [.int (nI kc2), .int (nI 0), .int (nI k3)]) (rest := []) hG hR dX12_person_148 (lkX12_97 _ rfl) okV_X12_sets rfl rfl (m_sets (d := 2) (e := 14 * kc2 + 110) (by omega) (by omega) (by omega)) rfl rfl hdd (Nat.le_refl _) (Nat.le_refl _) (by decide) (pm_kv (fun σ' cnt' hq => ?_))
                obtain ⟨rfl, rfl⟩ := hq
                obtain ⟨n_677, en_677⟩ : ∃ f : Nat → Int32, f = upd n_668 (14 * kc2 + 110) (nI k3) := ⟨_, rfl⟩
                rw [← en_677]
                have hnn_677 := KI.w en_677 hnn_668 (okv_f (show kd (14 * kc2 + 110) = (0, 0, false) from (kd_P (k := kc2) (c := 0) (by omega) (by omega) (by decide))))
                have hrn_677 := NRx.w en_677 hrn_668 (by rw [(show kd (14 * kc2 + 110) = (0, 0, false) from (kd_P (k := kc2) (c := 0) (by omega) (by omega) (by decide)))])
                have ksn_677 := KSh.w (h := 14 * kc2 + 110) en_677 ksn_668 (by unfold tS; omega)
                have e678 : n_677 0 = nI kc0 := by rw [en_677, pk_un (by omega)]; exact e669
                have e679 : n_677 8 = nI kc8 := by rw [en_677, pk_un (by omega)]; exact e670
                have e680 : n_677 2 = nI (kc2 + 1) := by rw [en_677, pk_un (by omega)]; exact e671
                have e681 : n_677 (14 * kc2 + 111) = nI 0 := by rw [en_677, pk_un (by omega)]; exact e673
                have e682 : n_677 (14 * kc2 + 119) = nI 0 := by rw [en_677, pk_un (by omega)]; exact e674
                have e683 : n_677 (14 * kc2 + 121) = nI 0 := by rw [en_677, pk_un (by omega)]; exact e675
                have e684 : n_677 (14 * kc2 + 110) = nI k3 := by rw [en_677, pk_us]
                refine pm_aloadn hG dX12_person_151 rfl ?_
                refine pm_iloadi hG dX12_person_152 rfl ?_
                refine pm_iconst (v := nI 1) hG dX12_person_154 (by decide) ?_
                refine pm_iloadn hG dX12_person_155 rfl ?_
                refine pm_callV (As := [.int (nI kc2), .int (nI 1), .int zb]) (rest := []) hG hR dX12_person_156 (lkX12_97 _ rfl) okV_X12_sets rfl rfl (m_sets (d := 2) (e := 14 * kc2 + 111) (by omega) (by omega) (by omega)) rfl rfl hdd (Nat.le_refl _) (Nat.le_refl _) (by decide) (pm_kv (fun σ' cnt' hq => ?_))
                obtain ⟨rfl, rfl⟩ := hq
                obtain ⟨n_685, en_685⟩ : ∃ f : Nat → Int32, f = upd n_677 (14 * kc2 + 111) zb := ⟨_, rfl⟩
                rw [← en_685]
                have hnn_685 := KI.w en_685 hnn_677 (okv_f (show kd (14 * kc2 + 111) = (0, 0, false) from (kd_P (k := kc2) (c := 1) (by omega) (by omega) (by decide))))
                have hrn_685 := NRx.w en_685 hrn_677 (by rw [(show kd (14 * kc2 + 111) = (0, 0, false) from (kd_P (k := kc2) (c := 1) (by omega) (by omega) (by decide)))])
                have ksn_685 := KSh.w (h := 14 * kc2 + 110) en_685 ksn_677 (by unfold tS; omega)
                have e686 : n_685 0 = nI kc0 := by rw [en_685, pk_un (by omega)]; exact e678
                have e687 : n_685 8 = nI kc8 := by rw [en_685, pk_un (by omega)]; exact e679
                have e688 : n_685 2 = nI (kc2 + 1) := by rw [en_685, pk_un (by omega)]; exact e680
                have e689 : n_685 (14 * kc2 + 119) = nI 0 := by rw [en_685, pk_un (by omega)]; exact e682
                have e690 : n_685 (14 * kc2 + 121) = nI 0 := by rw [en_685, pk_un (by omega)]; exact e683
                have e691 : n_685 (14 * kc2 + 110) = nI k3 := by rw [en_685, pk_un (by omega)]; exact e684
                have e692 : n_685 (14 * kc2 + 111) = zb := by rw [en_685, pk_us]
                refine pm_aloadn hG dX12_person_159 rfl ?_
                refine pm_iloadi hG dX12_person_160 rfl ?_
                refine pm_iconst (v := nI 2) hG dX12_person_162 (by decide) ?_
                refine pm_iloadn hG dX12_person_163 rfl ?_
                refine pm_top (v := nI k9) ek9 ?_
                refine pm_bipush (v := nI 100) hG dX12_person_164 (by decide) ?_
                refine pm_idivN hG dX12_person_166 (by omega) (by decide) (by decide) ?_
                refine pm_iconst (v := nI 1) hG dX12_person_167 (by decide) ?_
                refine pm_isub hG dX12_person_168 ?_
                refine pm_top (v := nI k11) ek11 ?_
                refine pm_callV (As := [.int (nI kc2), .int (nI 2), .int (nI k11)]) (rest := []) hG hR dX12_person_169 (lkX12_97 _ rfl) okV_X12_sets rfl rfl (m_sets (d := 2) (e := 14 * kc2 + 112) (by omega) (by omega) (by omega)) rfl rfl hdd (Nat.le_refl _) (Nat.le_refl _) (by decide) (pm_kv (fun σ' cnt' hq => ?_))
                obtain ⟨rfl, rfl⟩ := hq
                obtain ⟨n_693, en_693⟩ : ∃ f : Nat → Int32, f = upd n_685 (14 * kc2 + 112) (nI k11) := ⟨_, rfl⟩
                rw [← en_693]
                have hnn_693 := KI.w en_693 hnn_685 (okv_o (show kd (14 * kc2 + 112) = (2, 20, false) from (kd_P (k := kc2) (c := 2) (by omega) (by omega) (by decide))) (by omega))
                have hrn_693 := NRx.w en_693 hrn_685 (by rw [(show kd (14 * kc2 + 112) = (2, 20, false) from (kd_P (k := kc2) (c := 2) (by omega) (by omega) (by decide)))])
                have ksn_693 := KSh.w (h := 14 * kc2 + 110) en_693 ksn_685 (by unfold tS; omega)
                have e694 : n_693 0 = nI kc0 := by rw [en_693, pk_un (by omega)]; exact e686
                have e695 : n_693 8 = nI kc8 := by rw [en_693, pk_un (by omega)]; exact e687
                have e696 : n_693 2 = nI (kc2 + 1) := by rw [en_693, pk_un (by omega)]; exact e688
                have e697 : n_693 (14 * kc2 + 119) = nI 0 := by rw [en_693, pk_un (by omega)]; exact e689
                have e698 : n_693 (14 * kc2 + 121) = nI 0 := by rw [en_693, pk_un (by omega)]; exact e690
                have e699 : n_693 (14 * kc2 + 110) = nI k3 := by rw [en_693, pk_un (by omega)]; exact e691
                have e700 : n_693 (14 * kc2 + 111) = zb := by rw [en_693, pk_un (by omega)]; exact e692
                have e701 : n_693 (14 * kc2 + 112) = nI k11 := by rw [en_693, pk_us]
                refine pm_aloadn hG dX12_person_172 rfl ?_
                refine pm_iloadi hG dX12_person_173 rfl ?_
                refine pm_iconst (v := nI 3) hG dX12_person_175 (by decide) ?_
                refine pm_iloadn hG dX12_person_176 rfl ?_
                refine pm_top (v := nI k9) ek9 ?_
                refine pm_bipush (v := nI 100) hG dX12_person_177 (by decide) ?_
                refine pm_iremM hG dX12_person_179 (by omega) (by decide) (by decide) ?_
                refine pm_iconst (v := nI 1) hG dX12_person_180 (by decide) ?_
                refine pm_isub hG dX12_person_181 ?_
                refine pm_top (v := nI k383) ek383 ?_
                refine pm_callV (As := [.int (nI kc2), .int (nI 3), .int (nI k383)]) (rest := []) hG hR dX12_person_182 (lkX12_97 _ rfl) okV_X12_sets rfl rfl (m_sets (d := 2) (e := 14 * kc2 + 113) (by omega) (by omega) (by omega)) rfl rfl hdd (Nat.le_refl _) (Nat.le_refl _) (by decide) (pm_kv (fun σ' cnt' hq => ?_))
                obtain ⟨rfl, rfl⟩ := hq
                obtain ⟨n_702, en_702⟩ : ∃ f : Nat → Int32, f = upd n_693 (14 * kc2 + 113) (nI k383) := ⟨_, rfl⟩
                rw [← en_702]
                have hnn_702 := KI.w en_702 hnn_693 (okv_o (show kd (14 * kc2 + 113) = (2, 20, false) from (kd_P (k := kc2) (c := 3) (by omega) (by omega) (by decide))) (by omega))
                have hrn_702 := NRx.w en_702 hrn_693 (by rw [(show kd (14 * kc2 + 113) = (2, 20, false) from (kd_P (k := kc2) (c := 3) (by omega) (by omega) (by decide)))])
                have ksn_702 := KSh.w (h := 14 * kc2 + 110) en_702 ksn_693 (by unfold tS; omega)
                have e703 : n_702 0 = nI kc0 := by rw [en_702, pk_un (by omega)]; exact e694
                have e704 : n_702 8 = nI kc8 := by rw [en_702, pk_un (by omega)]; exact e695
                have e705 : n_702 2 = nI (kc2 + 1) := by rw [en_702, pk_un (by omega)]; exact e696
                have e706 : n_702 (14 * kc2 + 119) = nI 0 := by rw [en_702, pk_un (by omega)]; exact e697
                have e707 : n_702 (14 * kc2 + 121) = nI 0 := by rw [en_702, pk_un (by omega)]; exact e698
                have e708 : n_702 (14 * kc2 + 110) = nI k3 := by rw [en_702, pk_un (by omega)]; exact e699
                have e709 : n_702 (14 * kc2 + 111) = zb := by rw [en_702, pk_un (by omega)]; exact e700
                have e710 : n_702 (14 * kc2 + 113) = nI k383 := by rw [en_702, pk_us]
                refine pm_aloadn hG dX12_person_185 rfl ?_
                refine pm_iloadi hG dX12_person_186 rfl ?_
                refine pm_iconst (v := nI 4) hG dX12_person_188 (by decide) ?_
                refine pm_iloadi hG dX12_person_189 rfl ?_
                refine pm_top (v := nI k570) ek570 ?_
                refine pm_callV (As := [.int (nI kc2), .int (nI 4), .int (nI k570)]) (rest := []) hG hR dX12_person_191 (lkX12_97 _ rfl) okV_X12_sets rfl rfl (m_sets (d := 2) (e := 14 * kc2 + 114) (by omega) (by omega) (by omega)) rfl rfl hdd (Nat.le_refl _) (Nat.le_refl _) (by decide) (pm_kv (fun σ' cnt' hq => ?_))
                obtain ⟨rfl, rfl⟩ := hq
                obtain ⟨n_711, en_711⟩ : ∃ f : Nat → Int32, f = upd n_702 (14 * kc2 + 114) (nI k570) := ⟨_, rfl⟩
                rw [← en_711]
                have hnn_711 := KI.w en_711 hnn_702 (okv_o (show kd (14 * kc2 + 114) = (2, 10, false) from (kd_P (k := kc2) (c := 4) (by omega) (by omega) (by decide))) (by omega))
                have hrn_711 := NRx.w en_711 hrn_702 (by rw [(show kd (14 * kc2 + 114) = (2, 10, false) from (kd_P (k := kc2) (c := 4) (by omega) (by omega) (by decide)))])
                have ksn_711 := KSh.w (h := 14 * kc2 + 110) en_711 ksn_702 (by unfold tS; omega)
                have e712 : n_711 0 = nI kc0 := by rw [en_711, pk_un (by omega)]; exact e703
                have e713 : n_711 8 = nI kc8 := by rw [en_711, pk_un (by omega)]; exact e704
                have e714 : n_711 2 = nI (kc2 + 1) := by rw [en_711, pk_un (by omega)]; exact e705
                have e715 : n_711 (14 * kc2 + 119) = nI 0 := by rw [en_711, pk_un (by omega)]; exact e706
                have e716 : n_711 (14 * kc2 + 121) = nI 0 := by rw [en_711, pk_un (by omega)]; exact e707
                have e717 : n_711 (14 * kc2 + 110) = nI k3 := by rw [en_711, pk_un (by omega)]; exact e708
                have e718 : n_711 (14 * kc2 + 111) = zb := by rw [en_711, pk_un (by omega)]; exact e709
                have e719 : n_711 (14 * kc2 + 114) = nI k570 := by rw [en_711, pk_us]
                refine pm_aloadn hG dX12_person_194 rfl ?_
                refine pm_iloadi hG dX12_person_195 rfl ?_
                refine pm_bipush (v := nI 9) hG dX12_person_197 (by decide) ?_
                refine pm_iconst (v := (-1)) hG dX12_person_199 (by decide) ?_
                refine pm_callV (As := [.int (nI kc2), .int (nI 9), .int (-1)]) (rest := []) hG hR dX12_person_200 (lkX12_97 _ rfl) okV_X12_sets rfl rfl (m_sets (d := 2) (e := 14 * kc2 + 119) (by omega) (by omega) (by omega)) rfl rfl hdd (Nat.le_refl _) (Nat.le_refl _) (by decide) (pm_kv (fun σ' cnt' hq => ?_))
                obtain ⟨rfl, rfl⟩ := hq
                obtain ⟨n_720, en_720⟩ : ∃ f : Nat → Int32, f = upd n_711 (14 * kc2 + 119) (-1) := ⟨_, rfl⟩
                rw [← en_720]
                have hnn_720 := KI.w en_720 hnn_711 (okv_m (show kd (14 * kc2 + 119) = (2, 2001, false) from (kd_P (k := kc2) (c := 9) (by omega) (by omega) (by decide))))
                have hrn_720 := NRx.w en_720 hrn_711 (by rw [(show kd (14 * kc2 + 119) = (2, 2001, false) from (kd_P (k := kc2) (c := 9) (by omega) (by omega) (by decide)))])
                have ksn_720 := KSh.w (h := 14 * kc2 + 110) en_720 ksn_711 (by unfold tS; omega)
                have e721 : n_720 0 = nI kc0 := by rw [en_720, pk_un (by omega)]; exact e712
                have e722 : n_720 8 = nI kc8 := by rw [en_720, pk_un (by omega)]; exact e713
                have e723 : n_720 2 = nI (kc2 + 1) := by rw [en_720, pk_un (by omega)]; exact e714
                have e724 : n_720 (14 * kc2 + 121) = nI 0 := by rw [en_720, pk_un (by omega)]; exact e716
                have e725 : n_720 (14 * kc2 + 110) = nI k3 := by rw [en_720, pk_un (by omega)]; exact e717
                have e726 : n_720 (14 * kc2 + 111) = zb := by rw [en_720, pk_un (by omega)]; exact e718
                have e727 : n_720 (14 * kc2 + 119) = (-1) := by rw [en_720, pk_us]
                refine pm_aloadn hG dX12_person_203 rfl ?_
                refine pm_iloadi hG dX12_person_204 rfl ?_
                refine pm_bipush (v := nI 10) hG dX12_person_206 (by decide) ?_
                refine pm_iconst (v := (-1)) hG dX12_person_208 (by decide) ?_
                refine pm_callV (As := [.int (nI kc2), .int (nI 10), .int (-1)]) (rest := []) hG hR dX12_person_209 (lkX12_97 _ rfl) okV_X12_sets rfl rfl (m_sets (d := 2) (e := 14 * kc2 + 120) (by omega) (by omega) (by omega)) rfl rfl hdd (Nat.le_refl _) (Nat.le_refl _) (by decide) (pm_kv (fun σ' cnt' hq => ?_))
                obtain ⟨rfl, rfl⟩ := hq
                obtain ⟨n_728, en_728⟩ : ∃ f : Nat → Int32, f = upd n_720 (14 * kc2 + 120) (-1) := ⟨_, rfl⟩
                rw [← en_728]
                have hnn_728 := KI.w en_728 hnn_720 (okv_f (show kd (14 * kc2 + 120) = (0, 0, false) from (kd_P (k := kc2) (c := 10) (by omega) (by omega) (by decide))))
                have hrn_728 := NRx.w en_728 hrn_720 (by rw [(show kd (14 * kc2 + 120) = (0, 0, false) from (kd_P (k := kc2) (c := 10) (by omega) (by omega) (by decide)))])
                have ksn_728 := KSh.w (h := 14 * kc2 + 110) en_728 ksn_720 (by unfold tS; omega)
                have e729 : n_728 0 = nI kc0 := by rw [en_728, pk_un (by omega)]; exact e721
                have e730 : n_728 8 = nI kc8 := by rw [en_728, pk_un (by omega)]; exact e722
                have e731 : n_728 2 = nI (kc2 + 1) := by rw [en_728, pk_un (by omega)]; exact e723
                have e732 : n_728 (14 * kc2 + 121) = nI 0 := by rw [en_728, pk_un (by omega)]; exact e724
                have e733 : n_728 (14 * kc2 + 110) = nI k3 := by rw [en_728, pk_un (by omega)]; exact e725
                have e734 : n_728 (14 * kc2 + 111) = zb := by rw [en_728, pk_un (by omega)]; exact e726
                have e735 : n_728 (14 * kc2 + 119) = (-1) := by rw [en_728, pk_un (by omega)]; exact e727
                have e736 : n_728 (14 * kc2 + 120) = (-1) := by rw [en_728, pk_us]
                refine pm_aloadn hG dX12_person_212 rfl ?_
                refine pm_iloadi hG dX12_person_213 rfl ?_
                refine pm_bipush (v := nI 12) hG dX12_person_215 (by decide) ?_
                refine pm_iconst (v := nI 1) hG dX12_person_217 (by decide) ?_
                refine pm_callV (As := [.int (nI kc2), .int (nI 12), .int (nI 1)]) (rest := []) hG hR dX12_person_218 (lkX12_97 _ rfl) okV_X12_sets rfl rfl (m_sets (d := 2) (e := 14 * kc2 + 122) (by omega) (by omega) (by omega)) rfl rfl hdd (Nat.le_refl _) (Nat.le_refl _) (by decide) (pm_kv (fun σ' cnt' hq => ?_))
                obtain ⟨rfl, rfl⟩ := hq
                obtain ⟨n_737, en_737⟩ : ∃ f : Nat → Int32, f = upd n_728 (14 * kc2 + 122) (nI 1) := ⟨_, rfl⟩
                rw [← en_737]
                have hnn_737 := KI.w en_737 hnn_728 (okv_f (show kd (14 * kc2 + 122) = (0, 0, false) from (kd_P (k := kc2) (c := 12) (by omega) (by omega) (by decide))))
                have hrn_737 := NRx.w en_737 hrn_728 (by rw [(show kd (14 * kc2 + 122) = (0, 0, false) from (kd_P (k := kc2) (c := 12) (by omega) (by omega) (by decide)))])
                have ksn_737 := KSh.w (h := 14 * kc2 + 110) en_737 ksn_728 (by unfold tS; omega)
                have e738 : n_737 0 = nI kc0 := by rw [en_737, pk_un (by omega)]; exact e729
                have e739 : n_737 8 = nI kc8 := by rw [en_737, pk_un (by omega)]; exact e730
                have e740 : n_737 2 = nI (kc2 + 1) := by rw [en_737, pk_un (by omega)]; exact e731
                have e741 : n_737 (14 * kc2 + 121) = nI 0 := by rw [en_737, pk_un (by omega)]; exact e732
                have e742 : n_737 (14 * kc2 + 110) = nI k3 := by rw [en_737, pk_un (by omega)]; exact e733
                have e743 : n_737 (14 * kc2 + 111) = zb := by rw [en_737, pk_un (by omega)]; exact e734
                have e744 : n_737 (14 * kc2 + 119) = (-1) := by rw [en_737, pk_un (by omega)]; exact e735
                have e745 : n_737 (14 * kc2 + 122) = nI 1 := by rw [en_737, pk_us]
                refine pm_iloadi hG dX12_person_221 rfl ?_
                exact pm_iret hG hF dX12_person_223 rfl (Nat.le_refl _) (Nat.le_refl _) ⟨_, rfl, ⟨_, _, _, rfl, hnn_737, hrn_737, e738.trans ekc0.symm, e739.trans ekc8.symm, ⟨(vE_y (T := pN n) (d := n 8) (t := n 0) (p := n 2) (a := za) (b := zb) (c := zc) (e := zd) (not6 (rg_in (a := 0) (b := 1) (by omega) ek3 (by omega) (by omega)) (fun q => q.elim ac5 (by rw [ekc8]; exact bc5)) (by rw [ek9]; exact nI_pos (by omega)) (nt_in ekc0 (by omega) ek570 (by omega)) (fun q => q (by rw [dv1 ek9 (by omega)]; exact pk11)) (fun q => q (by rw [rm1 ek9 (by omega)]; exact pk383))) ekc2 (by omega)).1, e740.trans (vE_y (T := pN n) (d := n 8) (t := n 0) (p := n 2) (a := za) (b := zb) (c := zc) (e := zd) (not6 (rg_in (a := 0) (b := 1) (by omega) ek3 (by omega) (by omega)) (fun q => q.elim ac5 (by rw [ekc8]; exact bc5)) (by rw [ek9]; exact nI_pos (by omega)) (nt_in ekc0 (by omega) ek570 (by omega)) (fun q => q (by rw [dv1 ek9 (by omega)]; exact pk11)) (fun q => q (by rw [rm1 ek9 (by omega)]; exact pk383))) ekc2 (by omega)).2.1, fun j hj => by rw [e740, nI_clamp (by omega)] at hj; rw [(vE_y (T := pN n) (d := n 8) (t := n 0) (p := n 2) (a := za) (b := zb) (c := zc) (e := zd) (not6 (rg_in (a := 0) (b := 1) (by omega) ek3 (by omega) (by omega)) (fun q => q.elim ac5 (by rw [ekc8]; exact bc5)) (by rw [ek9]; exact nI_pos (by omega)) (nt_in ekc0 (by omega) ek570 (by omega)) (fun q => q (by rw [dv1 ek9 (by omega)]; exact pk11)) (fun q => q (by rw [rm1 ek9 (by omega)]; exact pk383))) ekc2 (by omega)).2.2]; exact tP_ok ksn_737 (e742.trans ek3.symm) e743 e744 e741 (by omega) j hj⟩⟩, rfl⟩
              · refine pm_aloadn hG dX12_person_102 rfl ?_
                refine pm_iconst (v := nI 4) hG dX12_person_103 (by decide) ?_
                refine pm_callV (As := [.int (nI 4)]) (rest := []) hG hR dX12_person_104 (lkX12_80 _ rfl) okV_X12_finds rfl rfl (m_finds (d := 2) (by decide) hn hz (by omega)) rfl rfl hdd (Nat.le_refl _) (Nat.le_refl _) (by decide) (pm_ki (fun v746 σ' cnt' hq => ?_))
                obtain ⟨⟨I747, A747, rfl⟩, rfl, fv746⟩ := hq
                exact pm_iret hG hF dX12_person_107 rfl (Nat.le_refl _) (Nat.le_refl _) ⟨_, rfl, ⟨_, _, _, rfl, hn, hr, ekc0.trans ekc0.symm, ekc8.trans ekc8.symm, ⟨fv746.trans ((by decide : (-1000000 : Int32) - nI 4 = -1000004).trans (vE_f (T := pN n) (d := n 8) (t := n 0) (p := n 2) (a := za) (b := zb) (c := zc) (e := zd) (not6 (rg_in (a := 0) (b := 1) (by omega) ek3 (by omega) (by omega)) (fun q => q.elim ac5 (by rw [ekc8]; exact bc5)) (by rw [ek9]; exact nI_pos (by omega)) (nt_in ekc0 (by omega) ek570 (by omega)) (fun q => q (by rw [dv1 ek9 (by omega)]; exact pk11)) (fun q => q (by rw [rm1 ek9 (by omega)]; exact pk383))) (ekc2.trans (congrArg nI (by omega)))).1), (vE_f (T := pN n) (d := n 8) (t := n 0) (p := n 2) (a := za) (b := zb) (c := zc) (e := zd) (not6 (rg_in (a := 0) (b := 1) (by omega) ek3 (by omega) (by omega)) (fun q => q.elim ac5 (by rw [ekc8]; exact bc5)) (by rw [ek9]; exact nI_pos (by omega)) (nt_in ekc0 (by omega) ek570 (by omega)) (fun q => q (by rw [dv1 ek9 (by omega)]; exact pk11)) (fun q => q (by rw [rm1 ek9 (by omega)]; exact pk383))) (ekc2.trans (congrArg nI (by omega)))).2.1, fun j _ => by rw [(vE_f (T := pN n) (d := n 8) (t := n 0) (p := n 2) (a := za) (b := zb) (c := zc) (e := zd) (not6 (rg_in (a := 0) (b := 1) (by omega) ek3 (by omega) (by omega)) (fun q => q.elim ac5 (by rw [ekc8]; exact bc5)) (by rw [ek9]; exact nI_pos (by omega)) (nt_in ekc0 (by omega) ek570 (by omega)) (fun q => q (by rw [dv1 ek9 (by omega)]; exact pk11)) (fun q => q (by rw [rm1 ek9 (by omega)]; exact pk383))) (ekc2.trans (congrArg nI (by omega)))).2.2]⟩⟩, rfl⟩
            · refine pm_ifN_eq (tgt := 73) hG dX12_person_66 rfl (by omega) (fun _ => ?_) (fun q => absurd q (by omega))
              refine pm_iconst (v := nI 0) hG dX12_person_73 (by decide) ?_
              refine pm_istoreXi (loc' := [some (.ref (B + 54)), some (.int za), some (.int zb), some (.int zc), some (.int zd), some (.int (nI 0)), none, none]) hG dX12_person_74 (by decide) (pm_c1b rfl) rfl ?_
              refine pm_iloadi hG dX12_person_76 rfl ?_
              refine pm_ifN_ne (tgt := 87) hG dX12_person_78 rfl (by omega) (fun q => absurd q (by omega)) (fun _ => ?_)
              refine pm_aloadn hG dX12_person_81 rfl ?_
              refine pm_iconst (v := nI 1) hG dX12_person_82 (by decide) ?_
              refine pm_callV (As := [.int (nI 1)]) (rest := []) hG hR dX12_person_83 (lkX12_80 _ rfl) okV_X12_finds rfl rfl (m_finds (d := 2) (by decide) hn hz (by omega)) rfl rfl hdd (Nat.le_refl _) (Nat.le_refl _) (by decide) (pm_ki (fun v748 σ' cnt' hq => ?_))
              obtain ⟨⟨I749, A749, rfl⟩, rfl, fv748⟩ := hq
              exact pm_iret hG hF dX12_person_86 rfl (Nat.le_refl _) (Nat.le_refl _) ⟨_, rfl, ⟨_, _, _, rfl, hn, hr, ekc0.trans ekc0.symm, ekc8.trans ekc8.symm, ⟨fv748.trans ((by decide : (-1000000 : Int32) - nI 1 = -1000001).trans (vE_n (T := pN n) (d := n 8) (t := n 0) (p := n 2) (a := za) (b := zb) (c := zc) (e := zd) (Or.inr (Or.inr (Or.inr (Or.inl (nt_out ekc0 (by omega) ntk570)))))).1), (vE_n (T := pN n) (d := n 8) (t := n 0) (p := n 2) (a := za) (b := zb) (c := zc) (e := zd) (Or.inr (Or.inr (Or.inr (Or.inl (nt_out ekc0 (by omega) ntk570)))))).2.1, fun j _ => by rw [(vE_n (T := pN n) (d := n 8) (t := n 0) (p := n 2) (a := za) (b := zb) (c := zc) (e := zd) (Or.inr (Or.inr (Or.inr (Or.inl (nt_out ekc0 (by omega) ntk570)))))).2.2]⟩⟩, rfl⟩
    · refine pm_ifN_eq (tgt := 73) hG dX12_person_23 rfl (by omega) (fun _ => ?_) (fun q => absurd q (by omega))
      refine pm_iconst (v := nI 0) hG dX12_person_73 (by decide) ?_
      refine pm_istoreXi (loc' := [some (.ref (B + 54)), some (.int za), some (.int zb), some (.int zc), some (.int zd), some (.int (nI 0)), none, none]) hG dX12_person_74 (by decide) (pm_c1b rfl) rfl ?_
      refine pm_iloadi hG dX12_person_76 rfl ?_
      refine pm_ifN_ne (tgt := 87) hG dX12_person_78 rfl (by omega) (fun q => absurd q (by omega)) (fun _ => ?_)
      refine pm_aloadn hG dX12_person_81 rfl ?_
      refine pm_iconst (v := nI 1) hG dX12_person_82 (by decide) ?_
      refine pm_callV (As := [.int (nI 1)]) (rest := []) hG hR dX12_person_83 (lkX12_80 _ rfl) okV_X12_finds rfl rfl (m_finds (d := 2) (by decide) hn hz (by omega)) rfl rfl hdd (Nat.le_refl _) (Nat.le_refl _) (by decide) (pm_ki (fun v750 σ' cnt' hq => ?_))
      obtain ⟨⟨I751, A751, rfl⟩, rfl, fv750⟩ := hq
      exact pm_iret hG hF dX12_person_86 rfl (Nat.le_refl _) (Nat.le_refl _) ⟨_, rfl, ⟨_, _, _, rfl, hn, hr, ekc0.trans ekc0.symm, ekc8.trans ekc8.symm, ⟨fv750.trans ((by decide : (-1000000 : Int32) - nI 1 = -1000001).trans (vE_n (T := pN n) (d := n 8) (t := n 0) (p := n 2) (a := za) (b := zb) (c := zc) (e := zd) (Or.inr (Or.inl (by rw [ekc8]; exact c5)))).1), (vE_n (T := pN n) (d := n 8) (t := n 0) (p := n 2) (a := za) (b := zb) (c := zc) (e := zd) (Or.inr (Or.inl (by rw [ekc8]; exact c5)))).2.1, fun j _ => by rw [(vE_n (T := pN n) (d := n 8) (t := n 0) (p := n 2) (a := za) (b := zb) (c := zc) (e := zd) (Or.inr (Or.inl (by rw [ekc8]; exact c5)))).2.2]⟩⟩, rfl⟩
  · refine pm_ifN_eq (tgt := 73) hG dX12_person_6 rfl (by omega) (fun _ => ?_) (fun q => absurd q (by omega))
    refine pm_iconst (v := nI 0) hG dX12_person_73 (by decide) ?_
    refine pm_istoreXi (loc' := [some (.ref (B + 54)), some (.int za), some (.int zb), some (.int zc), some (.int zd), some (.int (nI 0)), none, none]) hG dX12_person_74 (by decide) (pm_c1b rfl) rfl ?_
    refine pm_iloadi hG dX12_person_76 rfl ?_
    refine pm_ifN_ne (tgt := 87) hG dX12_person_78 rfl (by omega) (fun q => absurd q (by omega)) (fun _ => ?_)
    refine pm_aloadn hG dX12_person_81 rfl ?_
    refine pm_iconst (v := nI 1) hG dX12_person_82 (by decide) ?_
    refine pm_callV (As := [.int (nI 1)]) (rest := []) hG hR dX12_person_83 (lkX12_80 _ rfl) okV_X12_finds rfl rfl (m_finds (d := 2) (by decide) hn hz (by omega)) rfl rfl hdd (Nat.le_refl _) (Nat.le_refl _) (by decide) (pm_ki (fun v752 σ' cnt' hq => ?_))
    obtain ⟨⟨I753, A753, rfl⟩, rfl, fv752⟩ := hq
    exact pm_iret hG hF dX12_person_86 rfl (Nat.le_refl _) (Nat.le_refl _) ⟨_, rfl, ⟨_, _, _, rfl, hn, hr, ekc0.trans ekc0.symm, ekc8.trans ekc8.symm, ⟨fv752.trans ((by decide : (-1000000 : Int32) - nI 1 = -1000001).trans (vE_n (T := pN n) (d := n 8) (t := n 0) (p := n 2) (a := za) (b := zb) (c := zc) (e := zd) (Or.inl c2)).1), (vE_n (T := pN n) (d := n 8) (t := n 0) (p := n 2) (a := za) (b := zb) (c := zc) (e := zd) (Or.inl c2)).2.1, fun j _ => by rw [(vE_n (T := pN n) (d := n 8) (t := n 0) (p := n 2) (a := za) (b := zb) (c := zc) (e := zd) (Or.inl c2)).2.2]⟩⟩, rfl⟩
