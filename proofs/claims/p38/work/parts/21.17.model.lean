set_option maxRecDepth 100000 in
set_option maxHeartbeats 4000000 in
theorem m_own {d B cnt p0 t0 : Nat} {σ : pm_S} {I : Nat → Int32} {A : Nat → Nat → Int32} {n k z : Nat → Int32} {ac wt pl im : Int32} {za zb : Int32} (hdd : 2 ≤ d) (hn : KI n) (hr : NR n) (hz : SZ z)  : pm_met mX12_own d 0 0 B [.ref (B + 54), .int za, .int zb] cnt (pm_mid σ (md_L B I A n k z ac wt pl (nI p0) (nI t0) im)) (pm_Qi (fun v σ' cnt' => (∃ (I' : Nat → Int32) (A' : Nat → Nat → Int32) (n' : Nat → Int32), σ' = pm_mid σ (md_L B I' A' n' k z ac wt pl (nI p0) (nI t0) im) ∧ KI n' ∧ NR n' ∧ n' 0 = n 0 ∧ n' 2 = n 2 ∧ n' 8 = n 8 ∧ KS n' n) ∧ cnt = cnt')) := by
  obtain ⟨kc0, hkc0, ekc0⟩ := KI.nat hn (show kd 0 = (1, 11, true) by decide)
  obtain ⟨kc2, hkc2, ekc2⟩ := KI.nat hn (show kd 2 = (1, 21, true) by decide)
  obtain ⟨kc8, hkc8, ekc8⟩ := KI.nat hn (show kd 8 = (1, 2001, false) by decide)
  refine pm_enter 1 (by decide) (Nat.le_of_ble_eq_true rfl) rfl (fun G hG hR hF => ?_)
  refine pm_aloadn hG dX12_own_0 rfl ?_
  refine pm_iloadn hG dX12_own_1 rfl ?_
  refine pm_callV (As := [.int za]) (rest := []) hG hR dX12_own_2 (lkX12_84 _ rfl) okV_X12_isTown rfl rfl (m_isTown (d := 1) (by decide) ekc0 (by omega)) rfl rfl hdd (Nat.le_refl _) (Nat.le_refl _) (by decide) (pm_ki (fun v1 σ' cnt' hq => ?_))
  obtain ⟨hq, rfl, rfl⟩ := hq
  rcases hq with ⟨rfl, k3, hk3, ek3⟩ | ⟨rfl, ntk3⟩
  · refine pm_ifN_eq (tgt := 29) hG dX12_own_5 rfl (by omega) (fun q => absurd q (by omega)) (fun _ => ?_)
    refine pm_iloadn hG dX12_own_8 rfl ?_
    refine pm_iconst (v := (-1)) hG dX12_own_9 (by decide) ?_
    refine pm_icmp_eq (tgt := 35) hG dX12_own_10 rfl (fun c4 => ?_) (fun c4 => ?_)
    · refine pm_aloadn hG dX12_own_35 rfl ?_
      refine pm_getf hG dX12_own_36 (flX12_7 _ rfl) rfl rfl ?_
      refine pm_bipush (v := nI 20) hG dX12_own_39 (by decide) ?_
      refine pm_iconst (v := nI 3) hG dX12_own_41 (by decide) ?_
      refine pm_iloadn hG dX12_own_42 rfl ?_
      refine pm_top (v := nI k3) ek3 ?_
      refine pm_imulN (c := 3 * k3) hG dX12_own_43 (by omega) ?_
      refine pm_iaddN (c := 3 * k3 + 20) hG dX12_own_44 (by omega) ?_
      refine pm_iconst (v := nI 2) hG dX12_own_45 (by decide) ?_
      refine pm_iaddN (c := 3 * k3 + 22) hG dX12_own_46 (by omega) ?_
      refine pm_ialdN hG dX12_own_47 rfl (by decide) (by omega) ?_
      refine pm_gen (fun x5 ex5 => ?_)
      refine pm_iconst (v := nI 1) hG dX12_own_48 (by decide) ?_
      refine pm_icmp_ne (tgt := 58) hG dX12_own_49 rfl (fun c6 => ?_) (fun c6 => ?_)
      · refine pm_aloadn hG dX12_own_58 rfl ?_
        refine pm_getf hG dX12_own_59 (flX12_7 _ rfl) rfl rfl ?_
        refine pm_bipush (v := nI 20) hG dX12_own_62 (by decide) ?_
        refine pm_iconst (v := nI 3) hG dX12_own_64 (by decide) ?_
        refine pm_iloadn hG dX12_own_65 rfl ?_
        refine pm_top (v := nI k3) ek3 ?_
        refine pm_imulN (c := 3 * k3) hG dX12_own_66 (by omega) ?_
        refine pm_iaddN (c := 3 * k3 + 20) hG dX12_own_67 (by omega) ?_
        refine pm_iconst (v := nI 1) hG dX12_own_68 (by decide) ?_
        refine pm_iaddN (c := 3 * k3 + 21) hG dX12_own_69 (by omega) ?_
        refine pm_ialdN hG dX12_own_70 rfl (by decide) (by omega) ?_
        rcases KI.opt hn (show kd (3 * k3 + 21) = (2, 20, false) from (kd_T (k := k3) (c := 1) (by omega) (by omega) (by decide))) with ek7 | ⟨k7, hk7, ek7⟩
        · refine pm_top (v := (-1)) ek7 ?_
          refine pm_istoreXn (loc' := [some (.ref (B + 54)), some (.int za), some (.int zb), some (.int (-1))]) hG dX12_own_71 (by decide) (pm_c1b rfl) rfl ?_
          refine pm_aloadn hG dX12_own_72 rfl ?_
          refine pm_getf hG dX12_own_73 (flX12_7 _ rfl) rfl rfl ?_
          refine pm_bipush (v := nI 20) hG dX12_own_76 (by decide) ?_
          refine pm_iconst (v := nI 3) hG dX12_own_78 (by decide) ?_
          refine pm_iloadn hG dX12_own_79 rfl ?_
          refine pm_top (v := nI k3) ek3 ?_
          refine pm_imulN (c := 3 * k3) hG dX12_own_80 (by omega) ?_
          refine pm_iaddN (c := 3 * k3 + 20) hG dX12_own_81 (by omega) ?_
          refine pm_iconst (v := nI 1) hG dX12_own_82 (by decide) ?_
          refine pm_iaddN (c := 3 * k3 + 21) hG dX12_own_83 (by omega) ?_
          refine pm_iloadn hG dX12_own_84 rfl ?_
          refine pm_top (v := (-1)) c4 ?_
          refine pm_iastN hG dX12_own_85 rfl (by decide) (by omega) ?_
          refine mdn_now (fun n_8 en_8 => ?_)
          have hnn_8 := KI.w en_8 hn (okv_m (show kd (3 * k3 + 21) = (2, 20, false) from (kd_T (k := k3) (c := 1) (by omega) (by omega) (by decide))))
          have hrn_8 := NRx.w en_8 hr (by rw [(show kd (3 * k3 + 21) = (2, 20, false) from (kd_T (k := k3) (c := 1) (by omega) (by omega) (by decide)))])
          have ksn_8 := KS.w en_8 KS.rf (by unfold tS; omega)
          have e9 : n_8 0 = nI kc0 := by rw [en_8, pk_un (by omega)]; exact ekc0
          have e10 : n_8 2 = nI kc2 := by rw [en_8, pk_un (by omega)]; exact ekc2
          have e11 : n_8 8 = nI kc8 := by rw [en_8, pk_un (by omega)]; exact ekc8
          have e12 : n_8 (3 * k3 + 22) = x5 := by rw [en_8, pk_un (by omega)]; exact ex5
          have e13 : n_8 (3 * k3 + 21) = (-1) := by rw [en_8, pk_us]
          refine pm_iloadn hG dX12_own_86 rfl ?_
          exact pm_iret hG hF dX12_own_87 rfl (Nat.le_refl _) (Nat.le_refl _) ⟨_, rfl, ⟨_, _, _, rfl, hnn_8, hrn_8, e9.trans ekc0.symm, e10.trans ekc2.symm, e11.trans ekc8.symm, ksn_8⟩, rfl⟩
        · refine pm_top (v := nI k7) ek7 ?_
          refine pm_istoreXn (loc' := [some (.ref (B + 54)), some (.int za), some (.int zb), some (.int (nI k7))]) hG dX12_own_71 (by decide) (pm_c1b rfl) rfl ?_
          refine pm_aloadn hG dX12_own_72 rfl ?_
          refine pm_getf hG dX12_own_73 (flX12_7 _ rfl) rfl rfl ?_
          refine pm_bipush (v := nI 20) hG dX12_own_76 (by decide) ?_
          refine pm_iconst (v := nI 3) hG dX12_own_78 (by decide) ?_
          refine pm_iloadn hG dX12_own_79 rfl ?_
          refine pm_top (v := nI k3) ek3 ?_
          refine pm_imulN (c := 3 * k3) hG dX12_own_80 (by omega) ?_
          refine pm_iaddN (c := 3 * k3 + 20) hG dX12_own_81 (by omega) ?_
          refine pm_iconst (v := nI 1) hG dX12_own_82 (by decide) ?_
          refine pm_iaddN (c := 3 * k3 + 21) hG dX12_own_83 (by omega) ?_
          refine pm_iloadn hG dX12_own_84 rfl ?_
          refine pm_top (v := (-1)) c4 ?_
          refine pm_iastN hG dX12_own_85 rfl (by decide) (by omega) ?_
          refine mdn_now (fun n_14 en_14 => ?_)
          have hnn_14 := KI.w en_14 hn (okv_m (show kd (3 * k3 + 21) = (2, 20, false) from (kd_T (k := k3) (c := 1) (by omega) (by omega) (by decide))))
          have hrn_14 := NRx.w en_14 hr (by rw [(show kd (3 * k3 + 21) = (2, 20, false) from (kd_T (k := k3) (c := 1) (by omega) (by omega) (by decide)))])
          have ksn_14 := KS.w en_14 KS.rf (by unfold tS; omega)
          have e15 : n_14 0 = nI kc0 := by rw [en_14, pk_un (by omega)]; exact ekc0
          have e16 : n_14 2 = nI kc2 := by rw [en_14, pk_un (by omega)]; exact ekc2
          have e17 : n_14 8 = nI kc8 := by rw [en_14, pk_un (by omega)]; exact ekc8
          have e18 : n_14 (3 * k3 + 22) = x5 := by rw [en_14, pk_un (by omega)]; exact ex5
          have e19 : n_14 (3 * k3 + 21) = (-1) := by rw [en_14, pk_us]
          refine pm_iloadn hG dX12_own_86 rfl ?_
          exact pm_iret hG hF dX12_own_87 rfl (Nat.le_refl _) (Nat.le_refl _) ⟨_, rfl, ⟨_, _, _, rfl, hnn_14, hrn_14, e15.trans ekc0.symm, e16.trans ekc2.symm, e17.trans ekc8.symm, ksn_14⟩, rfl⟩
      · refine pm_aloadn hG dX12_own_52 rfl ?_
        refine pm_iconst (v := nI 3) hG dX12_own_53 (by decide) ?_
        refine pm_callV (As := [.int (nI 3)]) (rest := []) hG hR dX12_own_54 (lkX12_80 _ rfl) okV_X12_finds rfl rfl (m_finds (d := 1) (by decide) hn hz (by omega)) rfl rfl hdd (Nat.le_refl _) (Nat.le_refl _) (by decide) (pm_ki (fun v20 σ' cnt' hq => ?_))
        obtain ⟨⟨I21, A21, rfl⟩, rfl, fv20⟩ := hq
        exact pm_iret hG hF dX12_own_57 rfl (Nat.le_refl _) (Nat.le_refl _) ⟨_, rfl, ⟨_, _, _, rfl, hn, hr, ekc0.trans ekc0.symm, ekc2.trans ekc2.symm, ekc8.trans ekc8.symm, KS.rf⟩, rfl⟩
    · refine pm_aloadn hG dX12_own_13 rfl ?_
      refine pm_iloadn hG dX12_own_14 rfl ?_
      refine pm_callV (As := [.int zb]) (rest := []) hG hR dX12_own_15 (lkX12_91 _ rfl) okV_X12_isPerson rfl rfl (m_isPerson (d := 1) (by decide) ekc2 (by omega)) rfl rfl hdd (Nat.le_refl _) (Nat.le_refl _) (by decide) (pm_ki (fun v22 σ' cnt' hq => ?_))
      obtain ⟨hq, rfl, rfl⟩ := hq
      rcases hq with ⟨rfl, k24, hk24, ek24⟩ | ⟨rfl, ntk24⟩
      · refine pm_ifN_eq (tgt := 29) hG dX12_own_18 rfl (by omega) (fun q => absurd q (by omega)) (fun _ => ?_)
        refine pm_aloadn hG dX12_own_21 rfl ?_
        refine pm_iloadn hG dX12_own_22 rfl ?_
        refine pm_top (v := nI k24) ek24 ?_
        rcases KI.opt hn (show kd (14 * k24 + 119) = (2, 2001, false) from (kd_P (k := k24) (c := 9) (by omega) (by omega) (by decide))) with ek25 | ⟨k25, hk25, ek25⟩
        · refine pm_callV (As := [.int (nI k24)]) (rest := []) hG hR dX12_own_23 (lkX12_101 _ rfl) okV_X12_lives rfl rfl (m_lives1 (d := 1) (by decide) (by omega) (by omega : 14 * k24 + 119 = 14 * k24 + 119) ek25) rfl rfl hdd (Nat.le_refl _) (Nat.le_refl _) (by decide) (pm_ki (fun v26 σ' cnt' hq => ?_))
          obtain ⟨rfl, rfl, rfl⟩ := hq
          refine pm_ifN_ne (tgt := 35) hG dX12_own_26 rfl (by omega) (fun _ => ?_) (fun q => absurd q (by omega))
          refine pm_aloadn hG dX12_own_35 rfl ?_
          refine pm_getf hG dX12_own_36 (flX12_7 _ rfl) rfl rfl ?_
          refine pm_bipush (v := nI 20) hG dX12_own_39 (by decide) ?_
          refine pm_iconst (v := nI 3) hG dX12_own_41 (by decide) ?_
          refine pm_iloadn hG dX12_own_42 rfl ?_
          refine pm_top (v := nI k3) ek3 ?_
          refine pm_imulN (c := 3 * k3) hG dX12_own_43 (by omega) ?_
          refine pm_iaddN (c := 3 * k3 + 20) hG dX12_own_44 (by omega) ?_
          refine pm_iconst (v := nI 2) hG dX12_own_45 (by decide) ?_
          refine pm_iaddN (c := 3 * k3 + 22) hG dX12_own_46 (by omega) ?_
          refine pm_ialdN hG dX12_own_47 rfl (by decide) (by omega) ?_
          refine pm_gen (fun x27 ex27 => ?_)
          refine pm_iconst (v := nI 1) hG dX12_own_48 (by decide) ?_
          refine pm_icmp_ne (tgt := 58) hG dX12_own_49 rfl (fun c28 => ?_) (fun c28 => ?_)
          · refine pm_aloadn hG dX12_own_58 rfl ?_
            refine pm_getf hG dX12_own_59 (flX12_7 _ rfl) rfl rfl ?_
            refine pm_bipush (v := nI 20) hG dX12_own_62 (by decide) ?_
            refine pm_iconst (v := nI 3) hG dX12_own_64 (by decide) ?_
            refine pm_iloadn hG dX12_own_65 rfl ?_
            refine pm_top (v := nI k3) ek3 ?_
            refine pm_imulN (c := 3 * k3) hG dX12_own_66 (by omega) ?_
            refine pm_iaddN (c := 3 * k3 + 20) hG dX12_own_67 (by omega) ?_
            refine pm_iconst (v := nI 1) hG dX12_own_68 (by decide) ?_
            refine pm_iaddN (c := 3 * k3 + 21) hG dX12_own_69 (by omega) ?_
            refine pm_ialdN hG dX12_own_70 rfl (by decide) (by omega) ?_
            rcases KI.opt hn (show kd (3 * k3 + 21) = (2, 20, false) from (kd_T (k := k3) (c := 1) (by omega) (by omega) (by decide))) with ek29 | ⟨k29, hk29, ek29⟩
            · refine pm_top (v := (-1)) ek29 ?_
              refine pm_istoreXn (loc' := [some (.ref (B + 54)), some (.int za), some (.int zb), some (.int (-1))]) hG dX12_own_71 (by decide) (pm_c1b rfl) rfl ?_
              refine pm_aloadn hG dX12_own_72 rfl ?_
              refine pm_getf hG dX12_own_73 (flX12_7 _ rfl) rfl rfl ?_
              refine pm_bipush (v := nI 20) hG dX12_own_76 (by decide) ?_
              refine pm_iconst (v := nI 3) hG dX12_own_78 (by decide) ?_
              refine pm_iloadn hG dX12_own_79 rfl ?_
              refine pm_top (v := nI k3) ek3 ?_
              refine pm_imulN (c := 3 * k3) hG dX12_own_80 (by omega) ?_
              refine pm_iaddN (c := 3 * k3 + 20) hG dX12_own_81 (by omega) ?_
              refine pm_iconst (v := nI 1) hG dX12_own_82 (by decide) ?_
              refine pm_iaddN (c := 3 * k3 + 21) hG dX12_own_83 (by omega) ?_
              refine pm_iloadn hG dX12_own_84 rfl ?_
              refine pm_top (v := nI k24) ek24 ?_
              refine pm_iastN hG dX12_own_85 rfl (by decide) (by omega) ?_
              refine mdn_now (fun n_30 en_30 => ?_)
              have hnn_30 := KI.w en_30 hn (okv_o (show kd (3 * k3 + 21) = (2, 20, false) from (kd_T (k := k3) (c := 1) (by omega) (by omega) (by decide))) (by omega))
              have hrn_30 := NRx.w en_30 hr (by rw [(show kd (3 * k3 + 21) = (2, 20, false) from (kd_T (k := k3) (c := 1) (by omega) (by omega) (by decide)))])
              have ksn_30 := KS.w en_30 KS.rf (by unfold tS; omega)
              have e31 : n_30 0 = nI kc0 := by rw [en_30, pk_un (by omega)]; exact ekc0
              have e32 : n_30 2 = nI kc2 := by rw [en_30, pk_un (by omega)]; exact ekc2
              have e33 : n_30 8 = nI kc8 := by rw [en_30, pk_un (by omega)]; exact ekc8
              have e34 : n_30 (14 * k24 + 119) = (-1) := by rw [en_30, pk_un (by omega)]; exact ek25
              have e35 : n_30 (3 * k3 + 22) = x27 := by rw [en_30, pk_un (by omega)]; exact ex27
              have e36 : n_30 (3 * k3 + 21) = nI k24 := by rw [en_30, pk_us]
              refine pm_iloadn hG dX12_own_86 rfl ?_
              exact pm_iret hG hF dX12_own_87 rfl (Nat.le_refl _) (Nat.le_refl _) ⟨_, rfl, ⟨_, _, _, rfl, hnn_30, hrn_30, e31.trans ekc0.symm, e32.trans ekc2.symm, e33.trans ekc8.symm, ksn_30⟩, rfl⟩
            · refine pm_top (v := nI k29) ek29 ?_
              refine pm_istoreXn (loc' := [some (.ref (B + 54)), some (.int za), some (.int zb), some (.int (nI k29))]) hG dX12_own_71 (by decide) (pm_c1b rfl) rfl ?_
              refine pm_aloadn hG dX12_own_72 rfl ?_
              refine pm_getf hG dX12_own_73 (flX12_7 _ rfl) rfl rfl ?_
              refine pm_bipush (v := nI 20) hG dX12_own_76 (by decide) ?_
              refine pm_iconst (v := nI 3) hG dX12_own_78 (by decide) ?_
              refine pm_iloadn hG dX12_own_79 rfl ?_
              refine pm_top (v := nI k3) ek3 ?_
              refine pm_imulN (c := 3 * k3) hG dX12_own_80 (by omega) ?_
              refine pm_iaddN (c := 3 * k3 + 20) hG dX12_own_81 (by omega) ?_
              refine pm_iconst (v := nI 1) hG dX12_own_82 (by decide) ?_
              refine pm_iaddN (c := 3 * k3 + 21) hG dX12_own_83 (by omega) ?_
              refine pm_iloadn hG dX12_own_84 rfl ?_
              refine pm_top (v := nI k24) ek24 ?_
              refine pm_iastN hG dX12_own_85 rfl (by decide) (by omega) ?_
              refine mdn_now (fun n_37 en_37 => ?_)
              have hnn_37 := KI.w en_37 hn (okv_o (show kd (3 * k3 + 21) = (2, 20, false) from (kd_T (k := k3) (c := 1) (by omega) (by omega) (by decide))) (by omega))
              have hrn_37 := NRx.w en_37 hr (by rw [(show kd (3 * k3 + 21) = (2, 20, false) from (kd_T (k := k3) (c := 1) (by omega) (by omega) (by decide)))])
              have ksn_37 := KS.w en_37 KS.rf (by unfold tS; omega)
              have e38 : n_37 0 = nI kc0 := by rw [en_37, pk_un (by omega)]; exact ekc0
              have e39 : n_37 2 = nI kc2 := by rw [en_37, pk_un (by omega)]; exact ekc2
              have e40 : n_37 8 = nI kc8 := by rw [en_37, pk_un (by omega)]; exact ekc8
              have e41 : n_37 (14 * k24 + 119) = (-1) := by rw [en_37, pk_un (by omega)]; exact ek25
              have e42 : n_37 (3 * k3 + 22) = x27 := by rw [en_37, pk_un (by omega)]; exact ex27
              have e43 : n_37 (3 * k3 + 21) = nI k24 := by rw [en_37, pk_us]
              refine pm_iloadn hG dX12_own_86 rfl ?_
              exact pm_iret hG hF dX12_own_87 rfl (Nat.le_refl _) (Nat.le_refl _) ⟨_, rfl, ⟨_, _, _, rfl, hnn_37, hrn_37, e38.trans ekc0.symm, e39.trans ekc2.symm, e40.trans ekc8.symm, ksn_37⟩, rfl⟩
          · refine pm_aloadn hG dX12_own_52 rfl ?_
            refine pm_iconst (v := nI 3) hG dX12_own_53 (by decide) ?_
            refine pm_callV (As := [.int (nI 3)]) (rest := []) hG hR dX12_own_54 (lkX12_80 _ rfl) okV_X12_finds rfl rfl (m_finds (d := 1) (by decide) hn hz (by omega)) rfl rfl hdd (Nat.le_refl _) (Nat.le_refl _) (by decide) (pm_ki (fun v44 σ' cnt' hq => ?_))
            obtain ⟨⟨I45, A45, rfl⟩, rfl, fv44⟩ := hq
            exact pm_iret hG hF dX12_own_57 rfl (Nat.le_refl _) (Nat.le_refl _) ⟨_, rfl, ⟨_, _, _, rfl, hn, hr, ekc0.trans ekc0.symm, ekc2.trans ekc2.symm, ekc8.trans ekc8.symm, KS.rf⟩, rfl⟩
        · refine pm_callV (As := [.int (nI k24)]) (rest := []) hG hR dX12_own_23 (lkX12_101 _ rfl) okV_X12_lives rfl rfl (m_lives0 (d := 1) (by decide) (by omega) (by omega : 14 * k24 + 119 = 14 * k24 + 119) ek25 (by omega)) rfl rfl hdd (Nat.le_refl _) (Nat.le_refl _) (by decide) (pm_ki (fun v46 σ' cnt' hq => ?_))
          obtain ⟨rfl, rfl, rfl⟩ := hq
          refine pm_ifN_ne (tgt := 35) hG dX12_own_26 rfl (by omega) (fun q => absurd q (by omega)) (fun _ => ?_)
          refine pm_aloadn hG dX12_own_29 rfl ?_
          refine pm_iconst (v := nI 1) hG dX12_own_30 (by decide) ?_
          refine pm_callV (As := [.int (nI 1)]) (rest := []) hG hR dX12_own_31 (lkX12_80 _ rfl) okV_X12_finds rfl rfl (m_finds (d := 1) (by decide) hn hz (by omega)) rfl rfl hdd (Nat.le_refl _) (Nat.le_refl _) (by decide) (pm_ki (fun v47 σ' cnt' hq => ?_))
          obtain ⟨⟨I48, A48, rfl⟩, rfl, fv47⟩ := hq
          exact pm_iret hG hF dX12_own_34 rfl (Nat.le_refl _) (Nat.le_refl _) ⟨_, rfl, ⟨_, _, _, rfl, hn, hr, ekc0.trans ekc0.symm, ekc2.trans ekc2.symm, ekc8.trans ekc8.symm, KS.rf⟩, rfl⟩
      · refine pm_ifN_eq (tgt := 29) hG dX12_own_18 rfl (by omega) (fun _ => ?_) (fun q => absurd q (by omega))
        refine pm_aloadn hG dX12_own_29 rfl ?_
        refine pm_iconst (v := nI 1) hG dX12_own_30 (by decide) ?_
        refine pm_callV (As := [.int (nI 1)]) (rest := []) hG hR dX12_own_31 (lkX12_80 _ rfl) okV_X12_finds rfl rfl (m_finds (d := 1) (by decide) hn hz (by omega)) rfl rfl hdd (Nat.le_refl _) (Nat.le_refl _) (by decide) (pm_ki (fun v49 σ' cnt' hq => ?_))
        obtain ⟨⟨I50, A50, rfl⟩, rfl, fv49⟩ := hq
        exact pm_iret hG hF dX12_own_34 rfl (Nat.le_refl _) (Nat.le_refl _) ⟨_, rfl, ⟨_, _, _, rfl, hn, hr, ekc0.trans ekc0.symm, ekc2.trans ekc2.symm, ekc8.trans ekc8.symm, KS.rf⟩, rfl⟩
  · refine pm_ifN_eq (tgt := 29) hG dX12_own_5 rfl (by omega) (fun _ => ?_) (fun q => absurd q (by omega))
    refine pm_aloadn hG dX12_own_29 rfl ?_
    refine pm_iconst (v := nI 1) hG dX12_own_30 (by decide) ?_
    refine pm_callV (As := [.int (nI 1)]) (rest := []) hG hR dX12_own_31 (lkX12_80 _ rfl) okV_X12_finds rfl rfl (m_finds (d := 1) (by decide) hn hz (by omega)) rfl rfl hdd (Nat.le_refl _) (Nat.le_refl _) (by decide) (pm_ki (fun v51 σ' cnt' hq => ?_))
    obtain ⟨⟨I52, A52, rfl⟩, rfl, fv51⟩ := hq
    exact pm_iret hG hF dX12_own_34 rfl (Nat.le_refl _) (Nat.le_refl _) ⟨_, rfl, ⟨_, _, _, rfl, hn, hr, ekc0.trans ekc0.symm, ekc2.trans ekc2.symm, ekc8.trans ekc8.symm, KS.rf⟩, rfl⟩

set_option maxRecDepth 100000 in
set_option maxHeartbeats 4000000 in
theorem m_pay {d B cnt p0 t0 : Nat} {σ : pm_S} {I : Nat → Int32} {A : Nat → Nat → Int32} {n k z : Nat → Int32} {ac wt pl im : Int32} {za zb : Int32} (hdd : 2 ≤ d) (hn : KI n) (hr : NR n) (hz : SZ z)  : pm_met mX12_pay d 0 0 B [.ref (B + 54), .int za, .int zb] cnt (pm_mid σ (md_L B I A n k z ac wt pl (nI p0) (nI t0) im)) (pm_Qi (fun v σ' cnt' => (∃ (I' : Nat → Int32) (A' : Nat → Nat → Int32) (n' : Nat → Int32), σ' = pm_mid σ (md_L B I' A' n' k z ac wt pl (nI p0) (nI t0) im) ∧ KI n' ∧ NR n' ∧ n' 0 = n 0 ∧ n' 2 = n 2 ∧ n' 8 = n 8 ∧ KS n' n) ∧ cnt = cnt')) := by
  obtain ⟨kc0, hkc0, ekc0⟩ := KI.nat hn (show kd 0 = (1, 11, true) by decide)
  obtain ⟨kc2, hkc2, ekc2⟩ := KI.nat hn (show kd 2 = (1, 21, true) by decide)
  obtain ⟨kc8, hkc8, ekc8⟩ := KI.nat hn (show kd 8 = (1, 2001, false) by decide)
  refine pm_enter 0 (by decide) (Nat.le_of_ble_eq_true rfl) rfl (fun G hG hR hF => ?_)
  refine pm_aloadn hG dX12_pay_0 rfl ?_
  refine pm_iloadn hG dX12_pay_1 rfl ?_
  refine pm_callV (As := [.int za]) (rest := []) hG hR dX12_pay_2 (lkX12_91 _ rfl) okV_X12_isPerson rfl rfl (m_isPerson (d := 1) (by decide) ekc2 (by omega)) rfl rfl hdd (Nat.le_refl _) (Nat.le_refl _) (by decide) (pm_ki (fun v1 σ' cnt' hq => ?_))
  obtain ⟨hq, rfl, rfl⟩ := hq
  rcases hq with ⟨rfl, k3, hk3, ek3⟩ | ⟨rfl, ntk3⟩
  · refine pm_ifN_eq (tgt := 19) hG dX12_pay_5 rfl (by omega) (fun q => absurd q (by omega)) (fun _ => ?_)
    refine pm_iloadn hG dX12_pay_8 rfl ?_
    refine pm_iconst (v := nI 1) hG dX12_pay_9 (by decide) ?_
    refine pm_sipush (v := nI 9999) hG dX12_pay_10 (by decide) ?_
    refine pm_callS (As := [.int zb, .int (nI 1), .int (nI 9999)]) (rest := []) hG hR dX12_pay_13 (lkX12_68 _ rfl) okS_X12_in (m_in (d := 1)) rfl rfl hdd (Nat.le_refl _) (Nat.le_refl _) (by decide) (pm_ki (fun v4 σ' cnt' hq => ?_))
    obtain ⟨hq, rfl, rfl⟩ := hq
    rcases hq with ⟨rfl, ac5, bc5⟩ | ⟨rfl, c5⟩
    · obtain ⟨k6, hk6, ek6⟩ := in_nat (by omega) (by omega) ac5 bc5
      refine pm_ifN_ne (tgt := 25) hG dX12_pay_16 rfl (by omega) (fun _ => ?_) (fun q => absurd q (by omega))
      refine pm_aloadn hG dX12_pay_25 rfl ?_
      refine pm_iloadn hG dX12_pay_26 rfl ?_
      refine pm_top (v := nI k3) ek3 ?_
      rcases KI.opt hn (show kd (14 * k3 + 119) = (2, 2001, false) from (kd_P (k := k3) (c := 9) (by omega) (by omega) (by decide))) with ek7 | ⟨k7, hk7, ek7⟩
      · refine pm_callV (As := [.int (nI k3)]) (rest := []) hG hR dX12_pay_27 (lkX12_101 _ rfl) okV_X12_lives rfl rfl (m_lives1 (d := 1) (by decide) (by omega) (by omega : 14 * k3 + 119 = 14 * k3 + 119) ek7) rfl rfl hdd (Nat.le_refl _) (Nat.le_refl _) (by decide) (pm_ki (fun v8 σ' cnt' hq => ?_))
        obtain ⟨rfl, rfl, rfl⟩ := hq
        refine pm_ifN_ne (tgt := 39) hG dX12_pay_30 rfl (by omega) (fun _ => ?_) (fun q => absurd q (by omega))
        refine pm_aloadn hG dX12_pay_39 rfl ?_
        refine pm_getf hG dX12_pay_40 (flX12_7 _ rfl) rfl rfl ?_
        refine pm_bipush (v := nI 9) hG dX12_pay_43 (by decide) ?_
        refine pm_ialdN hG dX12_pay_45 rfl (by decide) (by omega) ?_
        refine pm_gen (fun x9 ex9 => ?_)
        refine pm_iloadn hG dX12_pay_46 rfl ?_
        refine pm_top (v := nI k6) ek6 ?_
        refine pm_icmp_ge (tgt := 56) hG dX12_pay_47 rfl (fun c10 => ?_) (fun c10 => ?_)
        · refine pm_aloadn hG dX12_pay_56 rfl ?_
          refine pm_getf hG dX12_pay_57 (flX12_7 _ rfl) rfl rfl ?_
          refine pm_bipush (v := nI 9) hG dX12_pay_60 (by decide) ?_
          refine pm_dup2 hG dX12_pay_62 rfl rfl ?_
          refine pm_ialdN hG dX12_pay_63 rfl (by decide) (by omega) ?_
          refine pm_top (v := x9) ex9 ?_
          refine pm_iloadn hG dX12_pay_64 rfl ?_
          refine pm_top (v := nI k6) ek6 ?_
          refine pm_isub hG dX12_pay_65 ?_
          refine pm_iastN hG dX12_pay_66 rfl (by decide) (by omega) ?_
          refine mdn_now (fun n_11 en_11 => ?_)
          have hnn_11 := KI.w en_11 hn (okv_f (show kd 9 = (0, 0, false) by decide))
          have hrn_11 := NRx.w en_11 hr (by rw [(show kd 9 = (0, 0, false) by decide)])
          have ksn_11 := KS.w en_11 KS.rf (by unfold tS; omega)
          have e12 : n_11 0 = nI kc0 := by rw [en_11, pk_un (by omega)]; exact ekc0
          have e13 : n_11 2 = nI kc2 := by rw [en_11, pk_un (by omega)]; exact ekc2
          have e14 : n_11 8 = nI kc8 := by rw [en_11, pk_un (by omega)]; exact ekc8
          have e15 : n_11 (14 * k3 + 119) = (-1) := by rw [en_11, pk_un (by omega)]; exact ek7
          have e16 : n_11 9 = x9 - (nI k6) := by rw [en_11, pk_us]
          refine pm_aloadn hG dX12_pay_67 rfl ?_
          refine pm_iloadn hG dX12_pay_68 rfl ?_
          refine pm_top (v := nI k3) ek3 ?_
          refine pm_bipush (v := nI 7) hG dX12_pay_69 (by decide) ?_
          refine pm_aloadn hG dX12_pay_71 rfl ?_
          refine pm_iloadn hG dX12_pay_72 rfl ?_
          refine pm_top (v := nI k3) ek3 ?_
          refine pm_bipush (v := nI 7) hG dX12_pay_73 (by decide) ?_
          refine pm_callV (As := [.int (nI k3), .int (nI 7)]) (rest := [.int (nI 7), .int (nI k3), .ref (B + 54)]) hG hR dX12_pay_75 (lkX12_72 _ rfl) okV_X12_man rfl rfl (m_man (d := 1) (e := 14 * k3 + 117) (by omega) (by omega) (by omega)) rfl rfl hdd (Nat.le_refl _) (Nat.le_refl _) (Nat.le_of_ble_eq_true rfl) (pm_ki (fun v17 σ' cnt' hq => ?_))
          obtain ⟨rfl, rfl, rfl⟩ := hq
          refine pm_gen (fun x18 ex18 => ?_)
          refine pm_iloadn hG dX12_pay_78 rfl ?_
          refine pm_top (v := nI k6) ek6 ?_
          refine pm_iadd hG dX12_pay_79 ?_
          refine pm_callV (As := [.int (nI k3), .int (nI 7), .int (x18 + (nI k6))]) (rest := []) hG hR dX12_pay_80 (lkX12_97 _ rfl) okV_X12_sets rfl rfl (m_sets (d := 1) (e := 14 * k3 + 117) (by omega) (by omega) (by omega)) rfl rfl hdd (Nat.le_refl _) (Nat.le_refl _) (by decide) (pm_kv (fun σ' cnt' hq => ?_))
          obtain ⟨rfl, rfl⟩ := hq
          obtain ⟨n_19, en_19⟩ : ∃ f : Nat → Int32, f = upd n_11 (14 * k3 + 117) (x18 + (nI k6)) := ⟨_, rfl⟩
          rw [← en_19]
          have hnn_19 := KI.w en_19 hnn_11 (okv_f (show kd (14 * k3 + 117) = (0, 0, false) from (kd_P (k := k3) (c := 7) (by omega) (by omega) (by decide))))
          have hrn_19 := NRx.w en_19 hrn_11 (by rw [(show kd (14 * k3 + 117) = (0, 0, false) from (kd_P (k := k3) (c := 7) (by omega) (by omega) (by decide)))])
          have ksn_19 := KS.w en_19 ksn_11 (by unfold tS; omega)
          have e20 : n_19 0 = nI kc0 := by rw [en_19, pk_un (by omega)]; exact e12
          have e21 : n_19 2 = nI kc2 := by rw [en_19, pk_un (by omega)]; exact e13
          have e22 : n_19 8 = nI kc8 := by rw [en_19, pk_un (by omega)]; exact e14
          have e23 : n_19 (14 * k3 + 119) = (-1) := by rw [en_19, pk_un (by omega)]; exact e15
          have e24 : n_19 9 = x9 - (nI k6) := by rw [en_19, pk_un (by omega)]; exact e16
          have e25 : n_19 (14 * k3 + 117) = x18 + (nI k6) := by rw [en_19, pk_us]
          refine pm_aloadn hG dX12_pay_83 rfl ?_
          refine pm_getf hG dX12_pay_84 (flX12_7 _ rfl) rfl rfl ?_
          refine pm_bipush (v := nI 9) hG dX12_pay_87 (by decide) ?_
          refine pm_ialdN hG dX12_pay_89 rfl (by decide) (by omega) ?_
          refine pm_top (v := x9 - (nI k6)) e24 ?_
          exact pm_iret hG hF dX12_pay_90 rfl (Nat.le_refl _) (Nat.le_refl _) ⟨_, rfl, ⟨_, _, _, rfl, hnn_19, hrn_19, e20.trans ekc0.symm, e21.trans ekc2.symm, e22.trans ekc8.symm, ksn_19⟩, rfl⟩
        · refine pm_aloadn hG dX12_pay_50 rfl ?_
          refine pm_iconst (v := nI 2) hG dX12_pay_51 (by decide) ?_
          refine pm_callV (As := [.int (nI 2)]) (rest := []) hG hR dX12_pay_52 (lkX12_80 _ rfl) okV_X12_finds rfl rfl (m_finds (d := 1) (by decide) hn hz (by omega)) rfl rfl hdd (Nat.le_refl _) (Nat.le_refl _) (by decide) (pm_ki (fun v26 σ' cnt' hq => ?_))
          obtain ⟨⟨I27, A27, rfl⟩, rfl, fv26⟩ := hq
          exact pm_iret hG hF dX12_pay_55 rfl (Nat.le_refl _) (Nat.le_refl _) ⟨_, rfl, ⟨_, _, _, rfl, hn, hr, ekc0.trans ekc0.symm, ekc2.trans ekc2.symm, ekc8.trans ekc8.symm, KS.rf⟩, rfl⟩
      · refine pm_callV (As := [.int (nI k3)]) (rest := []) hG hR dX12_pay_27 (lkX12_101 _ rfl) okV_X12_lives rfl rfl (m_lives0 (d := 1) (by decide) (by omega) (by omega : 14 * k3 + 119 = 14 * k3 + 119) ek7 (by omega)) rfl rfl hdd (Nat.le_refl _) (Nat.le_refl _) (by decide) (pm_ki (fun v28 σ' cnt' hq => ?_))
        obtain ⟨rfl, rfl, rfl⟩ := hq
        refine pm_ifN_ne (tgt := 39) hG dX12_pay_30 rfl (by omega) (fun q => absurd q (by omega)) (fun _ => ?_)
        refine pm_aloadn hG dX12_pay_33 rfl ?_
        refine pm_iconst (v := nI 3) hG dX12_pay_34 (by decide) ?_
        refine pm_callV (As := [.int (nI 3)]) (rest := []) hG hR dX12_pay_35 (lkX12_80 _ rfl) okV_X12_finds rfl rfl (m_finds (d := 1) (by decide) hn hz (by omega)) rfl rfl hdd (Nat.le_refl _) (Nat.le_refl _) (by decide) (pm_ki (fun v29 σ' cnt' hq => ?_))
        obtain ⟨⟨I30, A30, rfl⟩, rfl, fv29⟩ := hq
        exact pm_iret hG hF dX12_pay_38 rfl (Nat.le_refl _) (Nat.le_refl _) ⟨_, rfl, ⟨_, _, _, rfl, hn, hr, ekc0.trans ekc0.symm, ekc2.trans ekc2.symm, ekc8.trans ekc8.symm, KS.rf⟩, rfl⟩
    · refine pm_ifN_ne (tgt := 25) hG dX12_pay_16 rfl (by omega) (fun q => absurd q (by omega)) (fun _ => ?_)
      refine pm_aloadn hG dX12_pay_19 rfl ?_
      refine pm_iconst (v := nI 1) hG dX12_pay_20 (by decide) ?_
      refine pm_callV (As := [.int (nI 1)]) (rest := []) hG hR dX12_pay_21 (lkX12_80 _ rfl) okV_X12_finds rfl rfl (m_finds (d := 1) (by decide) hn hz (by omega)) rfl rfl hdd (Nat.le_refl _) (Nat.le_refl _) (by decide) (pm_ki (fun v31 σ' cnt' hq => ?_))
      obtain ⟨⟨I32, A32, rfl⟩, rfl, fv31⟩ := hq
      exact pm_iret hG hF dX12_pay_24 rfl (Nat.le_refl _) (Nat.le_refl _) ⟨_, rfl, ⟨_, _, _, rfl, hn, hr, ekc0.trans ekc0.symm, ekc2.trans ekc2.symm, ekc8.trans ekc8.symm, KS.rf⟩, rfl⟩
  · refine pm_ifN_eq (tgt := 19) hG dX12_pay_5 rfl (by omega) (fun _ => ?_) (fun q => absurd q (by omega))
    refine pm_aloadn hG dX12_pay_19 rfl ?_
    refine pm_iconst (v := nI 1) hG dX12_pay_20 (by decide) ?_
    refine pm_callV (As := [.int (nI 1)]) (rest := []) hG hR dX12_pay_21 (lkX12_80 _ rfl) okV_X12_finds rfl rfl (m_finds (d := 1) (by decide) hn hz (by omega)) rfl rfl hdd (Nat.le_refl _) (Nat.le_refl _) (by decide) (pm_ki (fun v33 σ' cnt' hq => ?_))
    obtain ⟨⟨I34, A34, rfl⟩, rfl, fv33⟩ := hq
    exact pm_iret hG hF dX12_pay_24 rfl (Nat.le_refl _) (Nat.le_refl _) ⟨_, rfl, ⟨_, _, _, rfl, hn, hr, ekc0.trans ekc0.symm, ekc2.trans ekc2.symm, ekc8.trans ekc8.symm, KS.rf⟩, rfl⟩

set_option maxRecDepth 100000 in
set_option maxHeartbeats 4000000 in
theorem m_person {d B cnt p0 t0 : Nat} {σ : pm_S} {I : Nat → Int32} {A : Nat → Nat → Int32} {n k z : Nat → Int32} {ac wt pl im : Int32} {za zb zc zd : Int32} (hdd : 3 ≤ d) (hn : KI n) (hr : NR n) (hz : SZ z)  : pm_met mX12_person d 0 0 B [.ref (B + 54), .int za, .int zb, .int zc, .int zd] cnt (pm_mid σ (md_L B I A n k z ac wt pl (nI p0) (nI t0) im)) (pm_Qi (fun v σ' cnt' => (∃ (I' : Nat → Int32) (A' : Nat → Nat → Int32) (n' : Nat → Int32), σ' = pm_mid σ (md_L B I' A' n' k z ac wt pl (nI p0) (nI t0) im) ∧ KI n' ∧ NR n' ∧ n' 0 = n 0 ∧ n' 8 = n 8 ∧ v = vE (pN n) (n 8) (n 0) (n 2) za zb zc zd ∧ n' 2 = pE (pN n) (n 8) (n 0) (n 2) za zb zc zd ∧ ∀ j : Nat, t7 j = true → n' (110 + j) = TE (pN n) (n 8) (n 0) (n 2) za zb zc zd j) ∧ cnt = cnt')) := by
  obtain ⟨kc0, hkc0, ekc0⟩ := KI.nat hn (show kd 0 = (1, 11, true) by decide)
  obtain ⟨kc2, hkc2, ekc2⟩ := KI.nat hn (show kd 2 = (1, 21, true) by decide)
  obtain ⟨kc8, hkc8, ekc8⟩ := KI.nat hn (show kd 8 = (1, 2001, false) by decide)
  refine pm_enter 3 (by decide) (Nat.le_of_ble_eq_true rfl) rfl (fun G hG hR hF => ?_)
  refine pm_iloadn hG dX12_person_0 rfl ?_
  refine pm_iconst (v := nI 0) hG dX12_person_1 (by decide) ?_
  refine pm_iconst (v := nI 1) hG dX12_person_2 (by decide) ?_
  refine pm_callS (As := [.int za, .int (nI 0), .int (nI 1)]) (rest := []) hG hR dX12_person_3 (lkX12_68 _ rfl) okS_X12_in (m_in (d := 2)) rfl rfl hdd (Nat.le_refl _) (Nat.le_refl _) (by decide) (pm_ki (fun v1 σ' cnt' hq => ?_))
  obtain ⟨hq, rfl, rfl⟩ := hq
  rcases hq with ⟨rfl, ac2, bc2⟩ | ⟨rfl, c2⟩
  · obtain ⟨k3, hk3, ek3⟩ := in_nat (by omega) (by omega) ac2 bc2
    refine pm_ifN_eq (tgt := 73) hG dX12_person_6 rfl (by omega) (fun q => absurd q (by omega)) (fun _ => ?_)
    refine pm_iloadn hG dX12_person_9 rfl ?_
    refine pm_sipush (v := (-20000)) hG dX12_person_10 (by decide) ?_
    refine pm_aloadn hG dX12_person_13 rfl ?_
    refine pm_getf hG dX12_person_14 (flX12_7 _ rfl) rfl rfl ?_
    refine pm_bipush (v := nI 8) hG dX12_person_17 (by decide) ?_
    refine pm_ialdN hG dX12_person_19 rfl (by decide) (by omega) ?_
    refine pm_top (v := nI kc8) ekc8 ?_
    refine pm_callS (As := [.int zb, .int (-20000), .int (nI kc8)]) (rest := []) hG hR dX12_person_20 (lkX12_68 _ rfl) okS_X12_in (m_in (d := 2)) rfl rfl hdd (Nat.le_refl _) (Nat.le_refl _) (by decide) (pm_ki (fun v4 σ' cnt' hq => ?_))
    obtain ⟨hq, rfl, rfl⟩ := hq
    rcases hq with ⟨rfl, ac5, bc5⟩ | ⟨rfl, c5⟩
    · refine pm_ifN_eq (tgt := 73) hG dX12_person_23 rfl (by omega) (fun q => absurd q (by omega)) (fun _ => ?_)
      refine pm_iloadn hG dX12_person_26 rfl ?_
      refine pm_if_lt (tgt := 73) hG dX12_person_27 rfl (fun c6 => ?_) (fun c6 => ?_)
      · refine pm_iconst (v := nI 0) hG dX12_person_73 (by decide) ?_
        refine pm_istoreXi (loc' := [some (.ref (B + 54)), some (.int za), some (.int zb), some (.int zc), some (.int zd), some (.int (nI 0)), none, none]) hG dX12_person_74 (by decide) (pm_c1b rfl) rfl ?_
        refine pm_iloadi hG dX12_person_76 rfl ?_
        refine pm_ifN_ne (tgt := 87) hG dX12_person_78 rfl (by omega) (fun q => absurd q (by omega)) (fun _ => ?_)
        refine pm_aloadn hG dX12_person_81 rfl ?_
        refine pm_iconst (v := nI 1) hG dX12_person_82 (by decide) ?_
        refine pm_callV (As := [.int (nI 1)]) (rest := []) hG hR dX12_person_83 (lkX12_80 _ rfl) okV_X12_finds rfl rfl (m_finds (d := 2) (by decide) hn hz (by omega)) rfl rfl hdd (Nat.le_refl _) (Nat.le_refl _) (by decide) (pm_ki (fun v7 σ' cnt' hq => ?_))
        obtain ⟨⟨I8, A8, rfl⟩, rfl, fv7⟩ := hq
        exact pm_iret hG hF dX12_person_86 rfl (Nat.le_refl _) (Nat.le_refl _) ⟨_, rfl, ⟨_, _, _, rfl, hn, hr, ekc0.trans ekc0.symm, ekc8.trans ekc8.symm, ⟨fv7.trans ((by decide : (-1000000 : Int32) - nI 1 = -1000001).trans (vE_n (T := pN n) (d := n 8) (t := n 0) (p := n 2) (a := za) (b := zb) (c := zc) (e := zd) (Or.inr (Or.inr (Or.inl c6)))).1), (vE_n (T := pN n) (d := n 8) (t := n 0) (p := n 2) (a := za) (b := zb) (c := zc) (e := zd) (Or.inr (Or.inr (Or.inl c6)))).2.1, fun j _ => by rw [(vE_n (T := pN n) (d := n 8) (t := n 0) (p := n 2) (a := za) (b := zb) (c := zc) (e := zd) (Or.inr (Or.inr (Or.inl c6)))).2.2]⟩⟩, rfl⟩
      · obtain ⟨k9, hk9, ek9⟩ := nI_of c6
        refine pm_aloadn hG dX12_person_30 rfl ?_
        refine pm_iloadn hG dX12_person_31 rfl ?_
        refine pm_top (v := nI k9) ek9 ?_
        refine pm_bipush (v := nI 100) hG dX12_person_32 (by decide) ?_
        refine pm_idivN hG dX12_person_34 (by omega) (by decide) (by decide) ?_
        refine pm_iconst (v := nI 1) hG dX12_person_35 (by decide) ?_
        refine pm_isub hG dX12_person_36 ?_
        refine pm_iconst (v := nI 1) hG dX12_person_37 (by decide) ?_
        refine pm_iloadn hG dX12_person_38 rfl ?_
        refine pm_callV (As := [.int ((nI ((k9 / 100))) - (nI 1)), .int (nI 1), .int zb]) (rest := []) hG hR dX12_person_39 (lkX12_94 _ rfl) okV_X12_isParent rfl rfl (m_isParent (d := 2) (by decide) hn hz) rfl rfl hdd (Nat.le_refl _) (Nat.le_refl _) (by decide) (pm_ki (fun v10 σ' cnt' hq => ?_))
        obtain ⟨rfl, rfl, hq⟩ := hq
        rcases hq with ⟨rfl, pk11⟩ | ⟨rfl, pk11, ek11 | ⟨k11, hk11, ek11⟩⟩
        · refine pm_ifN_eq (tgt := 73) hG dX12_person_42 rfl (by omega) (fun _ => ?_) (fun q => absurd q (by omega))
          refine pm_iconst (v := nI 0) hG dX12_person_73 (by decide) ?_
          refine pm_istoreXi (loc' := [some (.ref (B + 54)), some (.int za), some (.int zb), some (.int zc), some (.int zd), some (.int (nI 0)), none, none]) hG dX12_person_74 (by decide) (pm_c1b rfl) rfl ?_
          refine pm_iloadi hG dX12_person_76 rfl ?_
          refine pm_ifN_ne (tgt := 87) hG dX12_person_78 rfl (by omega) (fun q => absurd q (by omega)) (fun _ => ?_)
          refine pm_aloadn hG dX12_person_81 rfl ?_
          refine pm_iconst (v := nI 1) hG dX12_person_82 (by decide) ?_
          refine pm_callV (As := [.int (nI 1)]) (rest := []) hG hR dX12_person_83 (lkX12_80 _ rfl) okV_X12_finds rfl rfl (m_finds (d := 2) (by decide) hn hz (by omega)) rfl rfl hdd (Nat.le_refl _) (Nat.le_refl _) (by decide) (pm_ki (fun v12 σ' cnt' hq => ?_))
          obtain ⟨⟨I13, A13, rfl⟩, rfl, fv12⟩ := hq
          exact pm_iret hG hF dX12_person_86 rfl (Nat.le_refl _) (Nat.le_refl _) ⟨_, rfl, ⟨_, _, _, rfl, hn, hr, ekc0.trans ekc0.symm, ekc8.trans ekc8.symm, ⟨fv12.trans ((by decide : (-1000000 : Int32) - nI 1 = -1000001).trans (vE_n (T := pN n) (d := n 8) (t := n 0) (p := n 2) (a := za) (b := zb) (c := zc) (e := zd) (Or.inr (Or.inr (Or.inr (Or.inr (Or.inl (by rw [dv1 ek9 (by omega)]; exact pk11))))))).1), (vE_n (T := pN n) (d := n 8) (t := n 0) (p := n 2) (a := za) (b := zb) (c := zc) (e := zd) (Or.inr (Or.inr (Or.inr (Or.inr (Or.inl (by rw [dv1 ek9 (by omega)]; exact pk11))))))).2.1, fun j _ => by rw [(vE_n (T := pN n) (d := n 8) (t := n 0) (p := n 2) (a := za) (b := zb) (c := zc) (e := zd) (Or.inr (Or.inr (Or.inr (Or.inr (Or.inl (by rw [dv1 ek9 (by omega)]; exact pk11))))))).2.2]⟩⟩, rfl⟩
        · refine pm_ifN_eq (tgt := 73) hG dX12_person_42 rfl (by omega) (fun q => absurd q (by omega)) (fun _ => ?_)
          refine pm_aloadn hG dX12_person_45 rfl ?_
          refine pm_iloadn hG dX12_person_46 rfl ?_
          refine pm_top (v := nI k9) ek9 ?_
          refine pm_bipush (v := nI 100) hG dX12_person_47 (by decide) ?_
          refine pm_iremM hG dX12_person_49 (by omega) (by decide) (by decide) ?_
          refine pm_iconst (v := nI 1) hG dX12_person_50 (by decide) ?_
          refine pm_isub hG dX12_person_51 ?_
          refine pm_iconst (v := nI 0) hG dX12_person_52 (by decide) ?_
          refine pm_iloadn hG dX12_person_53 rfl ?_
          refine pm_callV (As := [.int ((nI ((k9 % 100))) - (nI 1)), .int (nI 0), .int zb]) (rest := []) hG hR dX12_person_54 (lkX12_94 _ rfl) okV_X12_isParent rfl rfl (m_isParent (d := 2) (by decide) hn hz) rfl rfl hdd (Nat.le_refl _) (Nat.le_refl _) (by decide) (pm_ki (fun v14 σ' cnt' hq => ?_))
          obtain ⟨rfl, rfl, hq⟩ := hq
          rcases hq with ⟨rfl, pk15⟩ | ⟨rfl, pk15, ek15 | ⟨k15, hk15, ek15⟩⟩
          · refine pm_ifN_eq (tgt := 73) hG dX12_person_57 rfl (by omega) (fun _ => ?_) (fun q => absurd q (by omega))
            refine pm_iconst (v := nI 0) hG dX12_person_73 (by decide) ?_
            refine pm_istoreXi (loc' := [some (.ref (B + 54)), some (.int za), some (.int zb), some (.int zc), some (.int zd), some (.int (nI 0)), none, none]) hG dX12_person_74 (by decide) (pm_c1b rfl) rfl ?_
            refine pm_iloadi hG dX12_person_76 rfl ?_
            refine pm_ifN_ne (tgt := 87) hG dX12_person_78 rfl (by omega) (fun q => absurd q (by omega)) (fun _ => ?_)
            refine pm_aloadn hG dX12_person_81 rfl ?_
            refine pm_iconst (v := nI 1) hG dX12_person_82 (by decide) ?_
            refine pm_callV (As := [.int (nI 1)]) (rest := []) hG hR dX12_person_83 (lkX12_80 _ rfl) okV_X12_finds rfl rfl (m_finds (d := 2) (by decide) hn hz (by omega)) rfl rfl hdd (Nat.le_refl _) (Nat.le_refl _) (by decide) (pm_ki (fun v16 σ' cnt' hq => ?_))
            obtain ⟨⟨I17, A17, rfl⟩, rfl, fv16⟩ := hq
            exact pm_iret hG hF dX12_person_86 rfl (Nat.le_refl _) (Nat.le_refl _) ⟨_, rfl, ⟨_, _, _, rfl, hn, hr, ekc0.trans ekc0.symm, ekc8.trans ekc8.symm, ⟨fv16.trans ((by decide : (-1000000 : Int32) - nI 1 = -1000001).trans (vE_n (T := pN n) (d := n 8) (t := n 0) (p := n 2) (a := za) (b := zb) (c := zc) (e := zd) (Or.inr (Or.inr (Or.inr (Or.inr (Or.inr (by rw [rm1 ek9 (by omega)]; exact pk15))))))).1), (vE_n (T := pN n) (d := n 8) (t := n 0) (p := n 2) (a := za) (b := zb) (c := zc) (e := zd) (Or.inr (Or.inr (Or.inr (Or.inr (Or.inr (by rw [rm1 ek9 (by omega)]; exact pk15))))))).2.1, fun j _ => by rw [(vE_n (T := pN n) (d := n 8) (t := n 0) (p := n 2) (a := za) (b := zb) (c := zc) (e := zd) (Or.inr (Or.inr (Or.inr (Or.inr (Or.inr (by rw [rm1 ek9 (by omega)]; exact pk15))))))).2.2]⟩⟩, rfl⟩
          · refine pm_ifN_eq (tgt := 73) hG dX12_person_57 rfl (by omega) (fun q => absurd q (by omega)) (fun _ => ?_)
            refine pm_aloadn hG dX12_person_60 rfl ?_
            refine pm_iloadi hG dX12_person_61 rfl ?_
            refine pm_callV (As := [.int zd]) (rest := []) hG hR dX12_person_63 (lkX12_84 _ rfl) okV_X12_isTown rfl rfl (m_isTown (d := 2) (by decide) ekc0 (by omega)) rfl rfl hdd (Nat.le_refl _) (Nat.le_refl _) (by decide) (pm_ki (fun v18 σ' cnt' hq => ?_))
            obtain ⟨hq, rfl, rfl⟩ := hq
            rcases hq with ⟨rfl, k20, hk20, ek20⟩ | ⟨rfl, ntk20⟩
            · refine pm_ifN_eq (tgt := 73) hG dX12_person_66 rfl (by omega) (fun q => absurd q (by omega)) (fun _ => ?_)
              refine pm_iconst (v := nI 1) hG dX12_person_69 (by decide) ?_
              refine pm_goto (tgt := 74) hG dX12_person_70 rfl ?_
              refine pm_istoreXi (loc' := [some (.ref (B + 54)), some (.int za), some (.int zb), some (.int zc), some (.int zd), some (.int (nI 1)), none, none]) hG dX12_person_74 (by decide) (pm_c1b rfl) rfl ?_
              refine pm_iloadi hG dX12_person_76 rfl ?_
              refine pm_ifN_ne (tgt := 87) hG dX12_person_78 rfl (by omega) (fun _ => ?_) (fun q => absurd q (by omega))
              refine pm_aloadn hG dX12_person_87 rfl ?_
              refine pm_getf hG dX12_person_88 (flX12_7 _ rfl) rfl rfl ?_
              refine pm_iconst (v := nI 2) hG dX12_person_91 (by decide) ?_
              refine pm_ialdN hG dX12_person_92 rfl (by decide) (by omega) ?_
              refine pm_top (v := nI kc2) ekc2 ?_
              refine pm_istoreXi (loc' := [some (.ref (B + 54)), some (.int za), some (.int zb), some (.int zc), some (.int zd), some (.int (nI 1)), some (.int (nI kc2)), none]) hG dX12_person_93 (by decide) (pm_c1b rfl) rfl ?_
              refine pm_iloadi hG dX12_person_95 rfl ?_
              refine pm_bipush (v := nI 20) hG dX12_person_97 (by decide) ?_
              refine pm_icmpN_ne (tgt := 108) hG dX12_person_99 rfl (by omega) (by omega) (fun c21 => ?_) (fun c21 => ?_)
              · refine pm_aloadn hG dX12_person_108 rfl ?_
                refine pm_getf hG dX12_person_109 (flX12_7 _ rfl) rfl rfl ?_
                refine pm_iconst (v := nI 2) hG dX12_person_112 (by decide) ?_
                refine pm_dup2 hG dX12_person_113 rfl rfl ?_
                refine pm_ialdN hG dX12_person_114 rfl (by decide) (by omega) ?_
                refine pm_top (v := nI kc2) ekc2 ?_
                refine pm_iconst (v := nI 1) hG dX12_person_115 (by decide) ?_
                refine pm_iaddN (c := kc2 + 1) hG dX12_person_116 (by omega) ?_
                refine pm_iastN hG dX12_person_117 rfl (by decide) (by omega) ?_
                refine mdn_now (fun n_22 en_22 => ?_)
                have hnn_22 := KI.w en_22 hn (okv_n (show kd 2 = (1, 21, true) by decide) (by omega))
                have hrn_22 := NRx.pers en_22 hr ekc0 (by omega) ekc2 (by omega)
                have ksn_22 := KSh.w (h := 14 * kc2 + 110) en_22 KSh.rf (by unfold tS; omega)
                have e23 : n_22 0 = nI kc0 := by rw [en_22, pk_un (by omega)]; exact ekc0
                have e24 : n_22 8 = nI kc8 := by rw [en_22, pk_un (by omega)]; exact ekc8
                have e25 : n_22 2 = nI (kc2 + 1) := by rw [en_22, pk_us]
                refine pm_iconst (v := nI 0) hG dX12_person_118 (by decide) ?_
                refine pm_istoreXi (loc' := [some (.ref (B + 54)), some (.int za), some (.int zb), some (.int zc), some (.int zd), some (.int (nI 1)), some (.int (nI kc2)), some (.int (nI 0))]) hG dX12_person_119 (by decide) (pm_c1b rfl) rfl ?_
                refine pm_iloadi hG dX12_person_121 rfl ?_
                refine pm_bipush (v := nI 14) hG dX12_person_123 (by decide) ?_
                refine pm_icmpN_ge (tgt := 143) hG dX12_person_125 rfl (by omega) (by omega) (fun q => absurd q (by omega)) (fun _ => ?_)
                refine pm_aloadn hG dX12_person_128 rfl ?_
                refine pm_iloadi hG dX12_person_129 rfl ?_
                refine pm_iloadi hG dX12_person_131 rfl ?_
                refine pm_iconst (v := nI 0) hG dX12_person_133 (by decide) ?_
                refine pm_callV (As := [.int (nI kc2), .int (nI 0), .int (nI 0)]) (rest := []) hG hR dX12_person_134 (lkX12_97 _ rfl) okV_X12_sets rfl rfl (m_sets (d := 2) (e := 14 * kc2 + 110) (by omega) (by omega) (by omega)) rfl rfl hdd (Nat.le_refl _) (Nat.le_refl _) (by decide) (pm_kv (fun σ' cnt' hq => ?_))
                obtain ⟨rfl, rfl⟩ := hq
                obtain ⟨n_26, en_26⟩ : ∃ f : Nat → Int32, f = upd n_22 (14 * kc2 + 110) (nI 0) := ⟨_, rfl⟩
                rw [← en_26]
                have hnn_26 := KI.w en_26 hnn_22 (okv_f (show kd (14 * kc2 + 110) = (0, 0, false) from (kd_P (k := kc2) (c := 0) (by omega) (by omega) (by decide))))
                have hrn_26 := NRx.w en_26 hrn_22 (by rw [(show kd (14 * kc2 + 110) = (0, 0, false) from (kd_P (k := kc2) (c := 0) (by omega) (by omega) (by decide)))])
                have ksn_26 := KSh.w (h := 14 * kc2 + 110) en_26 ksn_22 (by unfold tS; omega)
                have e27 : n_26 0 = nI kc0 := by rw [en_26, pk_un (by omega)]; exact e23
                have e28 : n_26 8 = nI kc8 := by rw [en_26, pk_un (by omega)]; exact e24
                have e29 : n_26 2 = nI (kc2 + 1) := by rw [en_26, pk_un (by omega)]; exact e25
                have e30 : n_26 (14 * kc2 + 110) = nI 0 := by rw [en_26, pk_us]
                refine pm_iincX (v := nI 1) (loc' := [some (.ref (B + 54)), some (.int za), some (.int zb), some (.int zc), some (.int zd), some (.int (nI 1)), some (.int (nI kc2)), some (.int (nI 1))]) hG dX12_person_137 rfl (nI_1 _) (by decide) (pm_c1b rfl) rfl ?_
                refine pm_goto (tgt := 121) hG dX12_person_140 rfl ?_
                refine pm_iloadi hG dX12_person_121 rfl ?_
                refine pm_bipush (v := nI 14) hG dX12_person_123 (by decide) ?_
                refine pm_icmpN_ge (tgt := 143) hG dX12_person_125 rfl (by omega) (by omega) (fun q => absurd q (by omega)) (fun _ => ?_)
                refine pm_aloadn hG dX12_person_128 rfl ?_
                refine pm_iloadi hG dX12_person_129 rfl ?_
                refine pm_iloadi hG dX12_person_131 rfl ?_
                refine pm_iconst (v := nI 0) hG dX12_person_133 (by decide) ?_
                refine pm_callV (As := [.int (nI kc2), .int (nI 1), .int (nI 0)]) (rest := []) hG hR dX12_person_134 (lkX12_97 _ rfl) okV_X12_sets rfl rfl (m_sets (d := 2) (e := 14 * kc2 + 111) (by omega) (by omega) (by omega)) rfl rfl hdd (Nat.le_refl _) (Nat.le_refl _) (by decide) (pm_kv (fun σ' cnt' hq => ?_))
                obtain ⟨rfl, rfl⟩ := hq
                obtain ⟨n_31, en_31⟩ : ∃ f : Nat → Int32, f = upd n_26 (14 * kc2 + 111) (nI 0) := ⟨_, rfl⟩
                rw [← en_31]
                have hnn_31 := KI.w en_31 hnn_26 (okv_f (show kd (14 * kc2 + 111) = (0, 0, false) from (kd_P (k := kc2) (c := 1) (by omega) (by omega) (by decide))))
                have hrn_31 := NRx.w en_31 hrn_26 (by rw [(show kd (14 * kc2 + 111) = (0, 0, false) from (kd_P (k := kc2) (c := 1) (by omega) (by omega) (by decide)))])
                have ksn_31 := KSh.w (h := 14 * kc2 + 110) en_31 ksn_26 (by unfold tS; omega)
                have e32 : n_31 0 = nI kc0 := by rw [en_31, pk_un (by omega)]; exact e27
                have e33 : n_31 8 = nI kc8 := by rw [en_31, pk_un (by omega)]; exact e28
                have e34 : n_31 2 = nI (kc2 + 1) := by rw [en_31, pk_un (by omega)]; exact e29
                have e35 : n_31 (14 * kc2 + 110) = nI 0 := by rw [en_31, pk_un (by omega)]; exact e30
                have e36 : n_31 (14 * kc2 + 111) = nI 0 := by rw [en_31, pk_us]
                refine pm_iincX (v := nI 2) (loc' := [some (.ref (B + 54)), some (.int za), some (.int zb), some (.int zc), some (.int zd), some (.int (nI 1)), some (.int (nI kc2)), some (.int (nI 2))]) hG dX12_person_137 rfl (nI_1 _) (by decide) (pm_c1b rfl) rfl ?_
                refine pm_goto (tgt := 121) hG dX12_person_140 rfl ?_
                refine pm_iloadi hG dX12_person_121 rfl ?_
                refine pm_bipush (v := nI 14) hG dX12_person_123 (by decide) ?_
                refine pm_icmpN_ge (tgt := 143) hG dX12_person_125 rfl (by omega) (by omega) (fun q => absurd q (by omega)) (fun _ => ?_)
                refine pm_aloadn hG dX12_person_128 rfl ?_
                refine pm_iloadi hG dX12_person_129 rfl ?_
                refine pm_iloadi hG dX12_person_131 rfl ?_
                refine pm_iconst (v := nI 0) hG dX12_person_133 (by decide) ?_
                refine pm_callV (As := [.int (nI kc2), .int (nI 2), .int (nI 0)]) (rest := []) hG hR dX12_person_134 (lkX12_97 _ rfl) okV_X12_sets rfl rfl (m_sets (d := 2) (e := 14 * kc2 + 112) (by omega) (by omega) (by omega)) rfl rfl hdd (Nat.le_refl _) (Nat.le_refl _) (by decide) (pm_kv (fun σ' cnt' hq => ?_))
                obtain ⟨rfl, rfl⟩ := hq
                obtain ⟨n_37, en_37⟩ : ∃ f : Nat → Int32, f = upd n_31 (14 * kc2 + 112) (nI 0) := ⟨_, rfl⟩
                rw [← en_37]
                have hnn_37 := KI.w en_37 hnn_31 (okv_o (show kd (14 * kc2 + 112) = (2, 20, false) from (kd_P (k := kc2) (c := 2) (by omega) (by omega) (by decide))) (by omega))
                have hrn_37 := NRx.w en_37 hrn_31 (by rw [(show kd (14 * kc2 + 112) = (2, 20, false) from (kd_P (k := kc2) (c := 2) (by omega) (by omega) (by decide)))])
                have ksn_37 := KSh.w (h := 14 * kc2 + 110) en_37 ksn_31 (by unfold tS; omega)
                have e38 : n_37 0 = nI kc0 := by rw [en_37, pk_un (by omega)]; exact e32
                have e39 : n_37 8 = nI kc8 := by rw [en_37, pk_un (by omega)]; exact e33
                have e40 : n_37 2 = nI (kc2 + 1) := by rw [en_37, pk_un (by omega)]; exact e34
                have e41 : n_37 (14 * kc2 + 110) = nI 0 := by rw [en_37, pk_un (by omega)]; exact e35
                have e42 : n_37 (14 * kc2 + 111) = nI 0 := by rw [en_37, pk_un (by omega)]; exact e36
                have e43 : n_37 (14 * kc2 + 112) = nI 0 := by rw [en_37, pk_us]
                refine pm_iincX (v := nI 3) (loc' := [some (.ref (B + 54)), some (.int za), some (.int zb), some (.int zc), some (.int zd), some (.int (nI 1)), some (.int (nI kc2)), some (.int (nI 3))]) hG dX12_person_137 rfl (nI_1 _) (by decide) (pm_c1b rfl) rfl ?_
                refine pm_goto (tgt := 121) hG dX12_person_140 rfl ?_
                refine pm_iloadi hG dX12_person_121 rfl ?_
                refine pm_bipush (v := nI 14) hG dX12_person_123 (by decide) ?_
                refine pm_icmpN_ge (tgt := 143) hG dX12_person_125 rfl (by omega) (by omega) (fun q => absurd q (by omega)) (fun _ => ?_)
                refine pm_aloadn hG dX12_person_128 rfl ?_
                refine pm_iloadi hG dX12_person_129 rfl ?_
                refine pm_iloadi hG dX12_person_131 rfl ?_
                refine pm_iconst (v := nI 0) hG dX12_person_133 (by decide) ?_
                refine pm_callV (As := [.int (nI kc2), .int (nI 3), .int (nI 0)]) (rest := []) hG hR dX12_person_134 (lkX12_97 _ rfl) okV_X12_sets rfl rfl (m_sets (d := 2) (e := 14 * kc2 + 113) (by omega) (by omega) (by omega)) rfl rfl hdd (Nat.le_refl _) (Nat.le_refl _) (by decide) (pm_kv (fun σ' cnt' hq => ?_))
                obtain ⟨rfl, rfl⟩ := hq
                obtain ⟨n_44, en_44⟩ : ∃ f : Nat → Int32, f = upd n_37 (14 * kc2 + 113) (nI 0) := ⟨_, rfl⟩
                rw [← en_44]
                have hnn_44 := KI.w en_44 hnn_37 (okv_o (show kd (14 * kc2 + 113) = (2, 20, false) from (kd_P (k := kc2) (c := 3) (by omega) (by omega) (by decide))) (by omega))
                have hrn_44 := NRx.w en_44 hrn_37 (by rw [(show kd (14 * kc2 + 113) = (2, 20, false) from (kd_P (k := kc2) (c := 3) (by omega) (by omega) (by decide)))])
                have ksn_44 := KSh.w (h := 14 * kc2 + 110) en_44 ksn_37 (by unfold tS; omega)
                have e45 : n_44 0 = nI kc0 := by rw [en_44, pk_un (by omega)]; exact e38
                have e46 : n_44 8 = nI kc8 := by rw [en_44, pk_un (by omega)]; exact e39
                have e47 : n_44 2 = nI (kc2 + 1) := by rw [en_44, pk_un (by omega)]; exact e40
                have e48 : n_44 (14 * kc2 + 110) = nI 0 := by rw [en_44, pk_un (by omega)]; exact e41
                have e49 : n_44 (14 * kc2 + 111) = nI 0 := by rw [en_44, pk_un (by omega)]; exact e42
                have e50 : n_44 (14 * kc2 + 113) = nI 0 := by rw [en_44, pk_us]
                refine pm_iincX (v := nI 4) (loc' := [some (.ref (B + 54)), some (.int za), some (.int zb), some (.int zc), some (.int zd), some (.int (nI 1)), some (.int (nI kc2)), some (.int (nI 4))]) hG dX12_person_137 rfl (nI_1 _) (by decide) (pm_c1b rfl) rfl ?_
                refine pm_goto (tgt := 121) hG dX12_person_140 rfl ?_
                refine pm_iloadi hG dX12_person_121 rfl ?_
                refine pm_bipush (v := nI 14) hG dX12_person_123 (by decide) ?_
                refine pm_icmpN_ge (tgt := 143) hG dX12_person_125 rfl (by omega) (by omega) (fun q => absurd q (by omega)) (fun _ => ?_)
                refine pm_aloadn hG dX12_person_128 rfl ?_
                refine pm_iloadi hG dX12_person_129 rfl ?_
                refine pm_iloadi hG dX12_person_131 rfl ?_
                refine pm_iconst (v := nI 0) hG dX12_person_133 (by decide) ?_
                refine pm_callV (As := [.int (nI kc2), .int (nI 4), .int (nI 0)]) (rest := []) hG hR dX12_person_134 (lkX12_97 _ rfl) okV_X12_sets rfl rfl (m_sets (d := 2) (e := 14 * kc2 + 114) (by omega) (by omega) (by omega)) rfl rfl hdd (Nat.le_refl _) (Nat.le_refl _) (by decide) (pm_kv (fun σ' cnt' hq => ?_))
                obtain ⟨rfl, rfl⟩ := hq
                obtain ⟨n_51, en_51⟩ : ∃ f : Nat → Int32, f = upd n_44 (14 * kc2 + 114) (nI 0) := ⟨_, rfl⟩
                rw [← en_51]
                have hnn_51 := KI.w en_51 hnn_44 (okv_o (show kd (14 * kc2 + 114) = (2, 10, false) from (kd_P (k := kc2) (c := 4) (by omega) (by omega) (by decide))) (by omega))
                have hrn_51 := NRx.w en_51 hrn_44 (by rw [(show kd (14 * kc2 + 114) = (2, 10, false) from (kd_P (k := kc2) (c := 4) (by omega) (by omega) (by decide)))])
                have ksn_51 := KSh.w (h := 14 * kc2 + 110) en_51 ksn_44 (by unfold tS; omega)
                have e52 : n_51 0 = nI kc0 := by rw [en_51, pk_un (by omega)]; exact e45
                have e53 : n_51 8 = nI kc8 := by rw [en_51, pk_un (by omega)]; exact e46
                have e54 : n_51 2 = nI (kc2 + 1) := by rw [en_51, pk_un (by omega)]; exact e47
                have e55 : n_51 (14 * kc2 + 110) = nI 0 := by rw [en_51, pk_un (by omega)]; exact e48
                have e56 : n_51 (14 * kc2 + 111) = nI 0 := by rw [en_51, pk_un (by omega)]; exact e49
                have e57 : n_51 (14 * kc2 + 114) = nI 0 := by rw [en_51, pk_us]
                refine pm_iincX (v := nI 5) (loc' := [some (.ref (B + 54)), some (.int za), some (.int zb), some (.int zc), some (.int zd), some (.int (nI 1)), some (.int (nI kc2)), some (.int (nI 5))]) hG dX12_person_137 rfl (nI_1 _) (by decide) (pm_c1b rfl) rfl ?_
                refine pm_goto (tgt := 121) hG dX12_person_140 rfl ?_
                refine pm_iloadi hG dX12_person_121 rfl ?_
                refine pm_bipush (v := nI 14) hG dX12_person_123 (by decide) ?_
                refine pm_icmpN_ge (tgt := 143) hG dX12_person_125 rfl (by omega) (by omega) (fun q => absurd q (by omega)) (fun _ => ?_)
                refine pm_aloadn hG dX12_person_128 rfl ?_
                refine pm_iloadi hG dX12_person_129 rfl ?_
                refine pm_iloadi hG dX12_person_131 rfl ?_
                refine pm_iconst (v := nI 0) hG dX12_person_133 (by decide) ?_
                refine pm_callV (As := [.int (nI kc2), .int (nI 5), .int (nI 0)]) (rest := []) hG hR dX12_person_134 (lkX12_97 _ rfl) okV_X12_sets rfl rfl (m_sets (d := 2) (e := 14 * kc2 + 115) (by omega) (by omega) (by omega)) rfl rfl hdd (Nat.le_refl _) (Nat.le_refl _) (by decide) (pm_kv (fun σ' cnt' hq => ?_))
                obtain ⟨rfl, rfl⟩ := hq
                obtain ⟨n_58, en_58⟩ : ∃ f : Nat → Int32, f = upd n_51 (14 * kc2 + 115) (nI 0) := ⟨_, rfl⟩
                rw [← en_58]
                have hnn_58 := KI.w en_58 hnn_51 (okv_n (show kd (14 * kc2 + 115) = (1, 10, false) from (kd_P (k := kc2) (c := 5) (by omega) (by omega) (by decide))) (by omega))
                have hrn_58 := NRx.w en_58 hrn_51 (by rw [(show kd (14 * kc2 + 115) = (1, 10, false) from (kd_P (k := kc2) (c := 5) (by omega) (by omega) (by decide)))])
                have ksn_58 := KSh.w (h := 14 * kc2 + 110) en_58 ksn_51 (by unfold tS; omega)
                have e59 : n_58 0 = nI kc0 := by rw [en_58, pk_un (by omega)]; exact e52
                have e60 : n_58 8 = nI kc8 := by rw [en_58, pk_un (by omega)]; exact e53
                have e61 : n_58 2 = nI (kc2 + 1) := by rw [en_58, pk_un (by omega)]; exact e54
                have e62 : n_58 (14 * kc2 + 110) = nI 0 := by rw [en_58, pk_un (by omega)]; exact e55
                have e63 : n_58 (14 * kc2 + 111) = nI 0 := by rw [en_58, pk_un (by omega)]; exact e56
                have e64 : n_58 (14 * kc2 + 115) = nI 0 := by rw [en_58, pk_us]
                refine pm_iincX (v := nI 6) (loc' := [some (.ref (B + 54)), some (.int za), some (.int zb), some (.int zc), some (.int zd), some (.int (nI 1)), some (.int (nI kc2)), some (.int (nI 6))]) hG dX12_person_137 rfl (nI_1 _) (by decide) (pm_c1b rfl) rfl ?_
                refine pm_goto (tgt := 121) hG dX12_person_140 rfl ?_
                refine pm_iloadi hG dX12_person_121 rfl ?_
                refine pm_bipush (v := nI 14) hG dX12_person_123 (by decide) ?_
                refine pm_icmpN_ge (tgt := 143) hG dX12_person_125 rfl (by omega) (by omega) (fun q => absurd q (by omega)) (fun _ => ?_)
                refine pm_aloadn hG dX12_person_128 rfl ?_
                refine pm_iloadi hG dX12_person_129 rfl ?_
                refine pm_iloadi hG dX12_person_131 rfl ?_
                refine pm_iconst (v := nI 0) hG dX12_person_133 (by decide) ?_
                refine pm_callV (As := [.int (nI kc2), .int (nI 6), .int (nI 0)]) (rest := []) hG hR dX12_person_134 (lkX12_97 _ rfl) okV_X12_sets rfl rfl (m_sets (d := 2) (e := 14 * kc2 + 116) (by omega) (by omega) (by omega)) rfl rfl hdd (Nat.le_refl _) (Nat.le_refl _) (by decide) (pm_kv (fun σ' cnt' hq => ?_))
                obtain ⟨rfl, rfl⟩ := hq
                obtain ⟨n_65, en_65⟩ : ∃ f : Nat → Int32, f = upd n_58 (14 * kc2 + 116) (nI 0) := ⟨_, rfl⟩
                rw [← en_65]
                have hnn_65 := KI.w en_65 hnn_58 (okv_f (show kd (14 * kc2 + 116) = (0, 0, false) from (kd_P (k := kc2) (c := 6) (by omega) (by omega) (by decide))))
                have hrn_65 := NRx.w en_65 hrn_58 (by rw [(show kd (14 * kc2 + 116) = (0, 0, false) from (kd_P (k := kc2) (c := 6) (by omega) (by omega) (by decide)))])
                have ksn_65 := KSh.w (h := 14 * kc2 + 110) en_65 ksn_58 (by unfold tS; omega)
                have e66 : n_65 0 = nI kc0 := by rw [en_65, pk_un (by omega)]; exact e59
                have e67 : n_65 8 = nI kc8 := by rw [en_65, pk_un (by omega)]; exact e60
                have e68 : n_65 2 = nI (kc2 + 1) := by rw [en_65, pk_un (by omega)]; exact e61
                have e69 : n_65 (14 * kc2 + 110) = nI 0 := by rw [en_65, pk_un (by omega)]; exact e62
                have e70 : n_65 (14 * kc2 + 111) = nI 0 := by rw [en_65, pk_un (by omega)]; exact e63
                have e71 : n_65 (14 * kc2 + 116) = nI 0 := by rw [en_65, pk_us]
                refine pm_iincX (v := nI 7) (loc' := [some (.ref (B + 54)), some (.int za), some (.int zb), some (.int zc), some (.int zd), some (.int (nI 1)), some (.int (nI kc2)), some (.int (nI 7))]) hG dX12_person_137 rfl (nI_1 _) (by decide) (pm_c1b rfl) rfl ?_
                refine pm_goto (tgt := 121) hG dX12_person_140 rfl ?_
                refine pm_iloadi hG dX12_person_121 rfl ?_
                refine pm_bipush (v := nI 14) hG dX12_person_123 (by decide) ?_
                refine pm_icmpN_ge (tgt := 143) hG dX12_person_125 rfl (by omega) (by omega) (fun q => absurd q (by omega)) (fun _ => ?_)
                refine pm_aloadn hG dX12_person_128 rfl ?_
                refine pm_iloadi hG dX12_person_129 rfl ?_
                refine pm_iloadi hG dX12_person_131 rfl ?_
                refine pm_iconst (v := nI 0) hG dX12_person_133 (by decide) ?_
                refine pm_callV (As := [.int (nI kc2), .int (nI 7), .int (nI 0)]) (rest := []) hG hR dX12_person_134 (lkX12_97 _ rfl) okV_X12_sets rfl rfl (m_sets (d := 2) (e := 14 * kc2 + 117) (by omega) (by omega) (by omega)) rfl rfl hdd (Nat.le_refl _) (Nat.le_refl _) (by decide) (pm_kv (fun σ' cnt' hq => ?_))
                obtain ⟨rfl, rfl⟩ := hq
                obtain ⟨n_72, en_72⟩ : ∃ f : Nat → Int32, f = upd n_65 (14 * kc2 + 117) (nI 0) := ⟨_, rfl⟩
                rw [← en_72]
                have hnn_72 := KI.w en_72 hnn_65 (okv_f (show kd (14 * kc2 + 117) = (0, 0, false) from (kd_P (k := kc2) (c := 7) (by omega) (by omega) (by decide))))
                have hrn_72 := NRx.w en_72 hrn_65 (by rw [(show kd (14 * kc2 + 117) = (0, 0, false) from (kd_P (k := kc2) (c := 7) (by omega) (by omega) (by decide)))])
                have ksn_72 := KSh.w (h := 14 * kc2 + 110) en_72 ksn_65 (by unfold tS; omega)
                have e73 : n_72 0 = nI kc0 := by rw [en_72, pk_un (by omega)]; exact e66
                have e74 : n_72 8 = nI kc8 := by rw [en_72, pk_un (by omega)]; exact e67
                have e75 : n_72 2 = nI (kc2 + 1) := by rw [en_72, pk_un (by omega)]; exact e68
                have e76 : n_72 (14 * kc2 + 110) = nI 0 := by rw [en_72, pk_un (by omega)]; exact e69
                have e77 : n_72 (14 * kc2 + 111) = nI 0 := by rw [en_72, pk_un (by omega)]; exact e70
                have e78 : n_72 (14 * kc2 + 117) = nI 0 := by rw [en_72, pk_us]
                refine pm_iincX (v := nI 8) (loc' := [some (.ref (B + 54)), some (.int za), some (.int zb), some (.int zc), some (.int zd), some (.int (nI 1)), some (.int (nI kc2)), some (.int (nI 8))]) hG dX12_person_137 rfl (nI_1 _) (by decide) (pm_c1b rfl) rfl ?_
                refine pm_goto (tgt := 121) hG dX12_person_140 rfl ?_
                refine pm_iloadi hG dX12_person_121 rfl ?_
                refine pm_bipush (v := nI 14) hG dX12_person_123 (by decide) ?_
                refine pm_icmpN_ge (tgt := 143) hG dX12_person_125 rfl (by omega) (by omega) (fun q => absurd q (by omega)) (fun _ => ?_)
                refine pm_aloadn hG dX12_person_128 rfl ?_
                refine pm_iloadi hG dX12_person_129 rfl ?_
                refine pm_iloadi hG dX12_person_131 rfl ?_
                refine pm_iconst (v := nI 0) hG dX12_person_133 (by decide) ?_
                refine pm_callV (As := [.int (nI kc2), .int (nI 8), .int (nI 0)]) (rest := []) hG hR dX12_person_134 (lkX12_97 _ rfl) okV_X12_sets rfl rfl (m_sets (d := 2) (e := 14 * kc2 + 118) (by omega) (by omega) (by omega)) rfl rfl hdd (Nat.le_refl _) (Nat.le_refl _) (by decide) (pm_kv (fun σ' cnt' hq => ?_))
                obtain ⟨rfl, rfl⟩ := hq
                obtain ⟨n_79, en_79⟩ : ∃ f : Nat → Int32, f = upd n_72 (14 * kc2 + 118) (nI 0) := ⟨_, rfl⟩
                rw [← en_79]
                have hnn_79 := KI.w en_79 hnn_72 (okv_f (show kd (14 * kc2 + 118) = (0, 0, false) from (kd_P (k := kc2) (c := 8) (by omega) (by omega) (by decide))))
                have hrn_79 := NRx.w en_79 hrn_72 (by rw [(show kd (14 * kc2 + 118) = (0, 0, false) from (kd_P (k := kc2) (c := 8) (by omega) (by omega) (by decide)))])
                have ksn_79 := KSh.w (h := 14 * kc2 + 110) en_79 ksn_72 (by unfold tS; omega)
                have e80 : n_79 0 = nI kc0 := by rw [en_79, pk_un (by omega)]; exact e73
                have e81 : n_79 8 = nI kc8 := by rw [en_79, pk_un (by omega)]; exact e74
                have e82 : n_79 2 = nI (kc2 + 1) := by rw [en_79, pk_un (by omega)]; exact e75
                have e83 : n_79 (14 * kc2 + 110) = nI 0 := by rw [en_79, pk_un (by omega)]; exact e76
                have e84 : n_79 (14 * kc2 + 111) = nI 0 := by rw [en_79, pk_un (by omega)]; exact e77
                have e85 : n_79 (14 * kc2 + 118) = nI 0 := by rw [en_79, pk_us]
                refine pm_iincX (v := nI 9) (loc' := [some (.ref (B + 54)), some (.int za), some (.int zb), some (.int zc), some (.int zd), some (.int (nI 1)), some (.int (nI kc2)), some (.int (nI 9))]) hG dX12_person_137 rfl (nI_1 _) (by decide) (pm_c1b rfl) rfl ?_
                refine pm_goto (tgt := 121) hG dX12_person_140 rfl ?_
                refine pm_iloadi hG dX12_person_121 rfl ?_
                refine pm_bipush (v := nI 14) hG dX12_person_123 (by decide) ?_
                refine pm_icmpN_ge (tgt := 143) hG dX12_person_125 rfl (by omega) (by omega) (fun q => absurd q (by omega)) (fun _ => ?_)
                refine pm_aloadn hG dX12_person_128 rfl ?_
                refine pm_iloadi hG dX12_person_129 rfl ?_
                refine pm_iloadi hG dX12_person_131 rfl ?_
                refine pm_iconst (v := nI 0) hG dX12_person_133 (by decide) ?_
                refine pm_callV (As := [.int (nI kc2), .int (nI 9), .int (nI 0)]) (rest := []) hG hR dX12_person_134 (lkX12_97 _ rfl) okV_X12_sets rfl rfl (m_sets (d := 2) (e := 14 * kc2 + 119) (by omega) (by omega) (by omega)) rfl rfl hdd (Nat.le_refl _) (Nat.le_refl _) (by decide) (pm_kv (fun σ' cnt' hq => ?_))
                obtain ⟨rfl, rfl⟩ := hq
                obtain ⟨n_86, en_86⟩ : ∃ f : Nat → Int32, f = upd n_79 (14 * kc2 + 119) (nI 0) := ⟨_, rfl⟩
                rw [← en_86]
                have hnn_86 := KI.w en_86 hnn_79 (okv_o (show kd (14 * kc2 + 119) = (2, 2001, false) from (kd_P (k := kc2) (c := 9) (by omega) (by omega) (by decide))) (by omega))
                have hrn_86 := NRx.w en_86 hrn_79 (by rw [(show kd (14 * kc2 + 119) = (2, 2001, false) from (kd_P (k := kc2) (c := 9) (by omega) (by omega) (by decide)))])
                have ksn_86 := KSh.w (h := 14 * kc2 + 110) en_86 ksn_79 (by unfold tS; omega)
                have e87 : n_86 0 = nI kc0 := by rw [en_86, pk_un (by omega)]; exact e80
                have e88 : n_86 8 = nI kc8 := by rw [en_86, pk_un (by omega)]; exact e81
                have e89 : n_86 2 = nI (kc2 + 1) := by rw [en_86, pk_un (by omega)]; exact e82
                have e90 : n_86 (14 * kc2 + 110) = nI 0 := by rw [en_86, pk_un (by omega)]; exact e83
                have e91 : n_86 (14 * kc2 + 111) = nI 0 := by rw [en_86, pk_un (by omega)]; exact e84
                have e92 : n_86 (14 * kc2 + 119) = nI 0 := by rw [en_86, pk_us]
                refine pm_iincX (v := nI 10) (loc' := [some (.ref (B + 54)), some (.int za), some (.int zb), some (.int zc), some (.int zd), some (.int (nI 1)), some (.int (nI kc2)), some (.int (nI 10))]) hG dX12_person_137 rfl (nI_1 _) (by decide) (pm_c1b rfl) rfl ?_
                refine pm_goto (tgt := 121) hG dX12_person_140 rfl ?_
                refine pm_iloadi hG dX12_person_121 rfl ?_
                refine pm_bipush (v := nI 14) hG dX12_person_123 (by decide) ?_
                refine pm_icmpN_ge (tgt := 143) hG dX12_person_125 rfl (by omega) (by omega) (fun q => absurd q (by omega)) (fun _ => ?_)
                refine pm_aloadn hG dX12_person_128 rfl ?_
                refine pm_iloadi hG dX12_person_129 rfl ?_
                refine pm_iloadi hG dX12_person_131 rfl ?_
                refine pm_iconst (v := nI 0) hG dX12_person_133 (by decide) ?_
                refine pm_callV (As := [.int (nI kc2), .int (nI 10), .int (nI 0)]) (rest := []) hG hR dX12_person_134 (lkX12_97 _ rfl) okV_X12_sets rfl rfl (m_sets (d := 2) (e := 14 * kc2 + 120) (by omega) (by omega) (by omega)) rfl rfl hdd (Nat.le_refl _) (Nat.le_refl _) (by decide) (pm_kv (fun σ' cnt' hq => ?_))
                obtain ⟨rfl, rfl⟩ := hq
                obtain ⟨n_93, en_93⟩ : ∃ f : Nat → Int32, f = upd n_86 (14 * kc2 + 120) (nI 0) := ⟨_, rfl⟩
                rw [← en_93]
                have hnn_93 := KI.w en_93 hnn_86 (okv_f (show kd (14 * kc2 + 120) = (0, 0, false) from (kd_P (k := kc2) (c := 10) (by omega) (by omega) (by decide))))
                have hrn_93 := NRx.w en_93 hrn_86 (by rw [(show kd (14 * kc2 + 120) = (0, 0, false) from (kd_P (k := kc2) (c := 10) (by omega) (by omega) (by decide)))])
                have ksn_93 := KSh.w (h := 14 * kc2 + 110) en_93 ksn_86 (by unfold tS; omega)
                have e94 : n_93 0 = nI kc0 := by rw [en_93, pk_un (by omega)]; exact e87
                have e95 : n_93 8 = nI kc8 := by rw [en_93, pk_un (by omega)]; exact e88
                have e96 : n_93 2 = nI (kc2 + 1) := by rw [en_93, pk_un (by omega)]; exact e89
                have e97 : n_93 (14 * kc2 + 110) = nI 0 := by rw [en_93, pk_un (by omega)]; exact e90
                have e98 : n_93 (14 * kc2 + 111) = nI 0 := by rw [en_93, pk_un (by omega)]; exact e91
                have e99 : n_93 (14 * kc2 + 120) = nI 0 := by rw [en_93, pk_us]
                refine pm_iincX (v := nI 11) (loc' := [some (.ref (B + 54)), some (.int za), some (.int zb), some (.int zc), some (.int zd), some (.int (nI 1)), some (.int (nI kc2)), some (.int (nI 11))]) hG dX12_person_137 rfl (nI_1 _) (by decide) (pm_c1b rfl) rfl ?_
                refine pm_goto (tgt := 121) hG dX12_person_140 rfl ?_
                refine pm_iloadi hG dX12_person_121 rfl ?_
                refine pm_bipush (v := nI 14) hG dX12_person_123 (by decide) ?_
                refine pm_icmpN_ge (tgt := 143) hG dX12_person_125 rfl (by omega) (by omega) (fun q => absurd q (by omega)) (fun _ => ?_)
                refine pm_aloadn hG dX12_person_128 rfl ?_
                refine pm_iloadi hG dX12_person_129 rfl ?_
                refine pm_iloadi hG dX12_person_131 rfl ?_
                refine pm_iconst (v := nI 0) hG dX12_person_133 (by decide) ?_
                refine pm_callV (As := [.int (nI kc2), .int (nI 11), .int (nI 0)]) (rest := []) hG hR dX12_person_134 (lkX12_97 _ rfl) okV_X12_sets rfl rfl (m_sets (d := 2) (e := 14 * kc2 + 121) (by omega) (by omega) (by omega)) rfl rfl hdd (Nat.le_refl _) (Nat.le_refl _) (by decide) (pm_kv (fun σ' cnt' hq => ?_))
                obtain ⟨rfl, rfl⟩ := hq
                obtain ⟨n_100, en_100⟩ : ∃ f : Nat → Int32, f = upd n_93 (14 * kc2 + 121) (nI 0) := ⟨_, rfl⟩
                rw [← en_100]
                have hnn_100 := KI.w en_100 hnn_93 (okv_n (show kd (14 * kc2 + 121) = (1, 2, true) from (kd_P (k := kc2) (c := 11) (by omega) (by omega) (by decide))) (by omega))
                have hrn_100 := NRx.unseat (p := kc2) en_100 hrn_93 (by omega)
                have ksn_100 := KSh.w (h := 14 * kc2 + 110) en_100 ksn_93 (by unfold tS; omega)
                have e101 : n_100 0 = nI kc0 := by rw [en_100, pk_un (by omega)]; exact e94
                have e102 : n_100 8 = nI kc8 := by rw [en_100, pk_un (by omega)]; exact e95
                have e103 : n_100 2 = nI (kc2 + 1) := by rw [en_100, pk_un (by omega)]; exact e96
                have e104 : n_100 (14 * kc2 + 110) = nI 0 := by rw [en_100, pk_un (by omega)]; exact e97
                have e105 : n_100 (14 * kc2 + 111) = nI 0 := by rw [en_100, pk_un (by omega)]; exact e98
                have e106 : n_100 (14 * kc2 + 121) = nI 0 := by rw [en_100, pk_us]
                refine pm_iincX (v := nI 12) (loc' := [some (.ref (B + 54)), some (.int za), some (.int zb), some (.int zc), some (.int zd), some (.int (nI 1)), some (.int (nI kc2)), some (.int (nI 12))]) hG dX12_person_137 rfl (nI_1 _) (by decide) (pm_c1b rfl) rfl ?_
                refine pm_goto (tgt := 121) hG dX12_person_140 rfl ?_
                refine pm_iloadi hG dX12_person_121 rfl ?_
                refine pm_bipush (v := nI 14) hG dX12_person_123 (by decide) ?_
                refine pm_icmpN_ge (tgt := 143) hG dX12_person_125 rfl (by omega) (by omega) (fun q => absurd q (by omega)) (fun _ => ?_)
                refine pm_aloadn hG dX12_person_128 rfl ?_
                refine pm_iloadi hG dX12_person_129 rfl ?_
                refine pm_iloadi hG dX12_person_131 rfl ?_
                refine pm_iconst (v := nI 0) hG dX12_person_133 (by decide) ?_
                refine pm_callV (As := [.int (nI kc2), .int (nI 12), .int (nI 0)]) (rest := []) hG hR dX12_person_134 (lkX12_97 _ rfl) okV_X12_sets rfl rfl (m_sets (d := 2) (e := 14 * kc2 + 122) (by omega) (by omega) (by omega)) rfl rfl hdd (Nat.le_refl _) (Nat.le_refl _) (by decide) (pm_kv (fun σ' cnt' hq => ?_))
                obtain ⟨rfl, rfl⟩ := hq
                obtain ⟨n_107, en_107⟩ : ∃ f : Nat → Int32, f = upd n_100 (14 * kc2 + 122) (nI 0) := ⟨_, rfl⟩
                rw [← en_107]
                have hnn_107 := KI.w en_107 hnn_100 (okv_f (show kd (14 * kc2 + 122) = (0, 0, false) from (kd_P (k := kc2) (c := 12) (by omega) (by omega) (by decide))))
                have hrn_107 := NRx.w en_107 hrn_100 (by rw [(show kd (14 * kc2 + 122) = (0, 0, false) from (kd_P (k := kc2) (c := 12) (by omega) (by omega) (by decide)))])
                have ksn_107 := KSh.w (h := 14 * kc2 + 110) en_107 ksn_100 (by unfold tS; omega)
                have e108 : n_107 0 = nI kc0 := by rw [en_107, pk_un (by omega)]; exact e101
                have e109 : n_107 8 = nI kc8 := by rw [en_107, pk_un (by omega)]; exact e102
                have e110 : n_107 2 = nI (kc2 + 1) := by rw [en_107, pk_un (by omega)]; exact e103
                have e111 : n_107 (14 * kc2 + 110) = nI 0 := by rw [en_107, pk_un (by omega)]; exact e104
                have e112 : n_107 (14 * kc2 + 111) = nI 0 := by rw [en_107, pk_un (by omega)]; exact e105
                have e113 : n_107 (14 * kc2 + 122) = nI 0 := by rw [en_107, pk_us]
                refine pm_iincX (v := nI 13) (loc' := [some (.ref (B + 54)), some (.int za), some (.int zb), some (.int zc), some (.int zd), some (.int (nI 1)), some (.int (nI kc2)), some (.int (nI 13))]) hG dX12_person_137 rfl (nI_1 _) (by decide) (pm_c1b rfl) rfl ?_
                refine pm_goto (tgt := 121) hG dX12_person_140 rfl ?_
                refine pm_iloadi hG dX12_person_121 rfl ?_
                refine pm_bipush (v := nI 14) hG dX12_person_123 (by decide) ?_
                refine pm_icmpN_ge (tgt := 143) hG dX12_person_125 rfl (by omega) (by omega) (fun q => absurd q (by omega)) (fun _ => ?_)
                refine pm_aloadn hG dX12_person_128 rfl ?_
                refine pm_iloadi hG dX12_person_129 rfl ?_
                refine pm_iloadi hG dX12_person_131 rfl ?_
                refine pm_iconst (v := nI 0) hG dX12_person_133 (by decide) ?_
                refine pm_callV (As := [.int (nI kc2), .int (nI 13), .int (nI 0)]) (rest := []) hG hR dX12_person_134 (lkX12_97 _ rfl) okV_X12_sets rfl rfl (m_sets (d := 2) (e := 14 * kc2 + 123) (by omega) (by omega) (by omega)) rfl rfl hdd (Nat.le_refl _) (Nat.le_refl _) (by decide) (pm_kv (fun σ' cnt' hq => ?_))
                obtain ⟨rfl, rfl⟩ := hq
                obtain ⟨n_114, en_114⟩ : ∃ f : Nat → Int32, f = upd n_107 (14 * kc2 + 123) (nI 0) := ⟨_, rfl⟩
                rw [← en_114]
                have hnn_114 := KI.w en_114 hnn_107 (okv_f (show kd (14 * kc2 + 123) = (0, 0, false) from (kd_P (k := kc2) (c := 13) (by omega) (by omega) (by decide))))
                have hrn_114 := NRx.w en_114 hrn_107 (by rw [(show kd (14 * kc2 + 123) = (0, 0, false) from (kd_P (k := kc2) (c := 13) (by omega) (by omega) (by decide)))])
                have ksn_114 := KSh.w (h := 14 * kc2 + 110) en_114 ksn_107 (by unfold tS; omega)
                have e115 : n_114 0 = nI kc0 := by rw [en_114, pk_un (by omega)]; exact e108
                have e116 : n_114 8 = nI kc8 := by rw [en_114, pk_un (by omega)]; exact e109
                have e117 : n_114 2 = nI (kc2 + 1) := by rw [en_114, pk_un (by omega)]; exact e110
                have e118 : n_114 (14 * kc2 + 110) = nI 0 := by rw [en_114, pk_un (by omega)]; exact e111
                have e119 : n_114 (14 * kc2 + 111) = nI 0 := by rw [en_114, pk_un (by omega)]; exact e112
                have e120 : n_114 (14 * kc2 + 122) = nI 0 := by rw [en_114, pk_un (by omega)]; exact e113
                have e121 : n_114 (14 * kc2 + 123) = nI 0 := by rw [en_114, pk_us]
                refine pm_iincX (v := nI 14) (loc' := [some (.ref (B + 54)), some (.int za), some (.int zb), some (.int zc), some (.int zd), some (.int (nI 1)), some (.int (nI kc2)), some (.int (nI 14))]) hG dX12_person_137 rfl (nI_1 _) (by decide) (pm_c1b rfl) rfl ?_
                refine pm_goto (tgt := 121) hG dX12_person_140 rfl ?_
                refine pm_iloadi hG dX12_person_121 rfl ?_
                refine pm_bipush (v := nI 14) hG dX12_person_123 (by decide) ?_
                refine pm_icmpN_ge (tgt := 143) hG dX12_person_125 rfl (by omega) (by omega) (fun _ => ?_) (fun q => absurd q (by omega))
                refine pm_aloadn hG dX12_person_143 rfl ?_
                refine pm_iloadi hG dX12_person_144 rfl ?_
                refine pm_iconst (v := nI 0) hG dX12_person_146 (by decide) ?_
                refine pm_iloadn hG dX12_person_147 rfl ?_
                refine pm_top (v := nI k3) ek3 ?_
                refine pm_callV (As := [.int (nI kc2), .int (nI 0), .int (nI k3)]) (rest := []) hG hR dX12_person_148 (lkX12_97 _ rfl) okV_X12_sets rfl rfl (m_sets (d := 2) (e := 14 * kc2 + 110) (by omega) (by omega) (by omega)) rfl rfl hdd (Nat.le_refl _) (Nat.le_refl _) (by decide) (pm_kv (fun σ' cnt' hq => ?_))
                obtain ⟨rfl, rfl⟩ := hq
                obtain ⟨n_122, en_122⟩ : ∃ f : Nat → Int32, f = upd n_114 (14 * kc2 + 110) (nI k3) := ⟨_, rfl⟩
                rw [← en_122]
                have hnn_122 := KI.w en_122 hnn_114 (okv_f (show kd (14 * kc2 + 110) = (0, 0, false) from (kd_P (k := kc2) (c := 0) (by omega) (by omega) (by decide))))
                have hrn_122 := NRx.w en_122 hrn_114 (by rw [(show kd (14 * kc2 + 110) = (0, 0, false) from (kd_P (k := kc2) (c := 0) (by omega) (by omega) (by decide)))])
                have ksn_122 := KSh.w (h := 14 * kc2 + 110) en_122 ksn_114 (by unfold tS; omega)
                have e123 : n_122 0 = nI kc0 := by rw [en_122, pk_un (by omega)]; exact e115
                have e124 : n_122 8 = nI kc8 := by rw [en_122, pk_un (by omega)]; exact e116
                have e125 : n_122 2 = nI (kc2 + 1) := by rw [en_122, pk_un (by omega)]; exact e117
                have e126 : n_122 (14 * kc2 + 111) = nI 0 := by rw [en_122, pk_un (by omega)]; exact e119
                have e127 : n_122 (14 * kc2 + 122) = nI 0 := by rw [en_122, pk_un (by omega)]; exact e120
                have e128 : n_122 (14 * kc2 + 110) = nI k3 := by rw [en_122, pk_us]
                refine pm_aloadn hG dX12_person_151 rfl ?_
                refine pm_iloadi hG dX12_person_152 rfl ?_
                refine pm_iconst (v := nI 1) hG dX12_person_154 (by decide) ?_
                refine pm_iloadn hG dX12_person_155 rfl ?_
                refine pm_callV (As := [.int (nI kc2), .int (nI 1), .int zb]) (rest := []) hG hR dX12_person_156 (lkX12_97 _ rfl) okV_X12_sets rfl rfl (m_sets (d := 2) (e := 14 * kc2 + 111) (by omega) (by omega) (by omega)) rfl rfl hdd (Nat.le_refl _) (Nat.le_refl _) (by decide) (pm_kv (fun σ' cnt' hq => ?_))
                obtain ⟨rfl, rfl⟩ := hq
                obtain ⟨n_129, en_129⟩ : ∃ f : Nat → Int32, f = upd n_122 (14 * kc2 + 111) zb := ⟨_, rfl⟩
                rw [← en_129]
                have hnn_129 := KI.w en_129 hnn_122 (okv_f (show kd (14 * kc2 + 111) = (0, 0, false) from (kd_P (k := kc2) (c := 1) (by omega) (by omega) (by decide))))
                have hrn_129 := NRx.w en_129 hrn_122 (by rw [(show kd (14 * kc2 + 111) = (0, 0, false) from (kd_P (k := kc2) (c := 1) (by omega) (by omega) (by decide)))])
                have ksn_129 := KSh.w (h := 14 * kc2 + 110) en_129 ksn_122 (by unfold tS; omega)
                have e130 : n_129 0 = nI kc0 := by rw [en_129, pk_un (by omega)]; exact e123
                have e131 : n_129 8 = nI kc8 := by rw [en_129, pk_un (by omega)]; exact e124
                have e132 : n_129 2 = nI (kc2 + 1) := by rw [en_129, pk_un (by omega)]; exact e125
                have e133 : n_129 (14 * kc2 + 122) = nI 0 := by rw [en_129, pk_un (by omega)]; exact e127
                have e134 : n_129 (14 * kc2 + 110) = nI k3 := by rw [en_129, pk_un (by omega)]; exact e128
                have e135 : n_129 (14 * kc2 + 111) = zb := by rw [en_129, pk_us]
                refine pm_aloadn hG dX12_person_159 rfl ?_
                refine pm_iloadi hG dX12_person_160 rfl ?_
                refine pm_iconst (v := nI 2) hG dX12_person_162 (by decide) ?_
                refine pm_iloadn hG dX12_person_163 rfl ?_
                refine pm_top (v := nI k9) ek9 ?_
                refine pm_bipush (v := nI 100) hG dX12_person_164 (by decide) ?_
                refine pm_idivN hG dX12_person_166 (by omega) (by decide) (by decide) ?_
                refine pm_iconst (v := nI 1) hG dX12_person_167 (by decide) ?_
                refine pm_isub hG dX12_person_168 ?_
                refine pm_top (v := (-1)) ek11 ?_
                refine pm_callV (As := [.int (nI kc2), .int (nI 2), .int (-1)]) (rest := []) hG hR dX12_person_169 (lkX12_97 _ rfl) okV_X12_sets rfl rfl (m_sets (d := 2) (e := 14 * kc2 + 112) (by omega) (by omega) (by omega)) rfl rfl hdd (Nat.le_refl _) (Nat.le_refl _) (by decide) (pm_kv (fun σ' cnt' hq => ?_))
                obtain ⟨rfl, rfl⟩ := hq
                obtain ⟨n_136, en_136⟩ : ∃ f : Nat → Int32, f = upd n_129 (14 * kc2 + 112) (-1) := ⟨_, rfl⟩
                rw [← en_136]
                have hnn_136 := KI.w en_136 hnn_129 (okv_m (show kd (14 * kc2 + 112) = (2, 20, false) from (kd_P (k := kc2) (c := 2) (by omega) (by omega) (by decide))))
                have hrn_136 := NRx.w en_136 hrn_129 (by rw [(show kd (14 * kc2 + 112) = (2, 20, false) from (kd_P (k := kc2) (c := 2) (by omega) (by omega) (by decide)))])
                have ksn_136 := KSh.w (h := 14 * kc2 + 110) en_136 ksn_129 (by unfold tS; omega)
                have e137 : n_136 0 = nI kc0 := by rw [en_136, pk_un (by omega)]; exact e130
                have e138 : n_136 8 = nI kc8 := by rw [en_136, pk_un (by omega)]; exact e131
                have e139 : n_136 2 = nI (kc2 + 1) := by rw [en_136, pk_un (by omega)]; exact e132
                have e140 : n_136 (14 * kc2 + 122) = nI 0 := by rw [en_136, pk_un (by omega)]; exact e133
                have e141 : n_136 (14 * kc2 + 110) = nI k3 := by rw [en_136, pk_un (by omega)]; exact e134
                have e142 : n_136 (14 * kc2 + 111) = zb := by rw [en_136, pk_un (by omega)]; exact e135
                have e143 : n_136 (14 * kc2 + 112) = (-1) := by rw [en_136, pk_us]
                refine pm_aloadn hG dX12_person_172 rfl ?_
                refine pm_iloadi hG dX12_person_173 rfl ?_
                refine pm_iconst (v := nI 3) hG dX12_person_175 (by decide) ?_
                refine pm_iloadn hG dX12_person_176 rfl ?_
                refine pm_top (v := nI k9) ek9 ?_
                refine pm_bipush (v := nI 100) hG dX12_person_177 (by decide) ?_
                refine pm_iremM hG dX12_person_179 (by omega) (by decide) (by decide) ?_
                refine pm_iconst (v := nI 1) hG dX12_person_180 (by decide) ?_
                refine pm_isub hG dX12_person_181 ?_
                refine pm_top (v := (-1)) ek15 ?_
                refine pm_callV (As := [.int (nI kc2), .int (nI 3), .int (-1)]) (rest := []) hG hR dX12_person_182 (lkX12_97 _ rfl) okV_X12_sets rfl rfl (m_sets (d := 2) (e := 14 * kc2 + 113) (by omega) (by omega) (by omega)) rfl rfl hdd (Nat.le_refl _) (Nat.le_refl _) (by decide) (pm_kv (fun σ' cnt' hq => ?_))
                obtain ⟨rfl, rfl⟩ := hq
                obtain ⟨n_144, en_144⟩ : ∃ f : Nat → Int32, f = upd n_136 (14 * kc2 + 113) (-1) := ⟨_, rfl⟩
                rw [← en_144]
                have hnn_144 := KI.w en_144 hnn_136 (okv_m (show kd (14 * kc2 + 113) = (2, 20, false) from (kd_P (k := kc2) (c := 3) (by omega) (by omega) (by decide))))
                have hrn_144 := NRx.w en_144 hrn_136 (by rw [(show kd (14 * kc2 + 113) = (2, 20, false) from (kd_P (k := kc2) (c := 3) (by omega) (by omega) (by decide)))])
                have ksn_144 := KSh.w (h := 14 * kc2 + 110) en_144 ksn_136 (by unfold tS; omega)
                have e145 : n_144 0 = nI kc0 := by rw [en_144, pk_un (by omega)]; exact e137
                have e146 : n_144 8 = nI kc8 := by rw [en_144, pk_un (by omega)]; exact e138
                have e147 : n_144 2 = nI (kc2 + 1) := by rw [en_144, pk_un (by omega)]; exact e139
                have e148 : n_144 (14 * kc2 + 122) = nI 0 := by rw [en_144, pk_un (by omega)]; exact e140
                have e149 : n_144 (14 * kc2 + 110) = nI k3 := by rw [en_144, pk_un (by omega)]; exact e141
                have e150 : n_144 (14 * kc2 + 111) = zb := by rw [en_144, pk_un (by omega)]; exact e142
                have e151 : n_144 (14 * kc2 + 113) = (-1) := by rw [en_144, pk_us]
                refine pm_aloadn hG dX12_person_185 rfl ?_
                refine pm_iloadi hG dX12_person_186 rfl ?_
                refine pm_iconst (v := nI 4) hG dX12_person_188 (by decide) ?_
                refine pm_iloadi hG dX12_person_189 rfl ?_
                refine pm_top (v := nI k20) ek20 ?_
                refine pm_callV (As := [.int (nI kc2), .int (nI 4), .int (nI k20)]) (rest := []) hG hR dX12_person_191 (lkX12_97 _ rfl) okV_X12_sets rfl rfl (m_sets (d := 2) (e := 14 * kc2 + 114) (by omega) (by omega) (by omega)) rfl rfl hdd (Nat.le_refl _) (Nat.le_refl _) (by decide) (pm_kv (fun σ' cnt' hq => ?_))
                obtain ⟨rfl, rfl⟩ := hq
                obtain ⟨n_152, en_152⟩ : ∃ f : Nat → Int32, f = upd n_144 (14 * kc2 + 114) (nI k20) := ⟨_, rfl⟩
                rw [← en_152]
                have hnn_152 := KI.w en_152 hnn_144 (okv_o (show kd (14 * kc2 + 114) = (2, 10, false) from (kd_P (k := kc2) (c := 4) (by omega) (by omega) (by decide))) (by omega))
                have hrn_152 := NRx.w en_152 hrn_144 (by rw [(show kd (14 * kc2 + 114) = (2, 10, false) from (kd_P (k := kc2) (c := 4) (by omega) (by omega) (by decide)))])
                have ksn_152 := KSh.w (h := 14 * kc2 + 110) en_152 ksn_144 (by unfold tS; omega)
                have e153 : n_152 0 = nI kc0 := by rw [en_152, pk_un (by omega)]; exact e145
                have e154 : n_152 8 = nI kc8 := by rw [en_152, pk_un (by omega)]; exact e146
                have e155 : n_152 2 = nI (kc2 + 1) := by rw [en_152, pk_un (by omega)]; exact e147
                have e156 : n_152 (14 * kc2 + 122) = nI 0 := by rw [en_152, pk_un (by omega)]; exact e148
                have e157 : n_152 (14 * kc2 + 110) = nI k3 := by rw [en_152, pk_un (by omega)]; exact e149
                have e158 : n_152 (14 * kc2 + 111) = zb := by rw [en_152, pk_un (by omega)]; exact e150
                have e159 : n_152 (14 * kc2 + 114) = nI k20 := by rw [en_152, pk_us]
                refine pm_aloadn hG dX12_person_194 rfl ?_
                refine pm_iloadi hG dX12_person_195 rfl ?_
                refine pm_bipush (v := nI 9) hG dX12_person_197 (by decide) ?_
                refine pm_iconst (v := (-1)) hG dX12_person_199 (by decide) ?_
                refine pm_callV (As := [.int (nI kc2), .int (nI 9), .int (-1)]) (rest := []) hG hR dX12_person_200 (lkX12_97 _ rfl) okV_X12_sets rfl rfl (m_sets (d := 2) (e := 14 * kc2 + 119) (by omega) (by omega) (by omega)) rfl rfl hdd (Nat.le_refl _) (Nat.le_refl _) (by decide) (pm_kv (fun σ' cnt' hq => ?_))
                obtain ⟨rfl, rfl⟩ := hq
                obtain ⟨n_160, en_160⟩ : ∃ f : Nat → Int32, f = upd n_152 (14 * kc2 + 119) (-1) := ⟨_, rfl⟩
                rw [← en_160]
                have hnn_160 := KI.w en_160 hnn_152 (okv_m (show kd (14 * kc2 + 119) = (2, 2001, false) from (kd_P (k := kc2) (c := 9) (by omega) (by omega) (by decide))))
                have hrn_160 := NRx.w en_160 hrn_152 (by rw [(show kd (14 * kc2 + 119) = (2, 2001, false) from (kd_P (k := kc2) (c := 9) (by omega) (by omega) (by decide)))])
                have ksn_160 := KSh.w (h := 14 * kc2 + 110) en_160 ksn_152 (by unfold tS; omega)
                have e161 : n_160 0 = nI kc0 := by rw [en_160, pk_un (by omega)]; exact e153
                have e162 : n_160 8 = nI kc8 := by rw [en_160, pk_un (by omega)]; exact e154
                have e163 : n_160 2 = nI (kc2 + 1) := by rw [en_160, pk_un (by omega)]; exact e155
                have e164 : n_160 (14 * kc2 + 122) = nI 0 := by rw [en_160, pk_un (by omega)]; exact e156
                have e165 : n_160 (14 * kc2 + 110) = nI k3 := by rw [en_160, pk_un (by omega)]; exact e157
                have e166 : n_160 (14 * kc2 + 111) = zb := by rw [en_160, pk_un (by omega)]; exact e158
                have e167 : n_160 (14 * kc2 + 119) = (-1) := by rw [en_160, pk_us]
                refine pm_aloadn hG dX12_person_203 rfl ?_
                refine pm_iloadi hG dX12_person_204 rfl ?_
                refine pm_bipush (v := nI 10) hG dX12_person_206 (by decide) ?_
                refine pm_iconst (v := (-1)) hG dX12_person_208 (by decide) ?_
                refine pm_callV (As := [.int (nI kc2), .int (nI 10), .int (-1)]) (rest := []) hG hR dX12_person_209 (lkX12_97 _ rfl) okV_X12_sets rfl rfl (m_sets (d := 2) (e := 14 * kc2 + 120) (by omega) (by omega) (by omega)) rfl rfl hdd (Nat.le_refl _) (Nat.le_refl _) (by decide) (pm_kv (fun σ' cnt' hq => ?_))
                obtain ⟨rfl, rfl⟩ := hq
                obtain ⟨n_168, en_168⟩ : ∃ f : Nat → Int32, f = upd n_160 (14 * kc2 + 120) (-1) := ⟨_, rfl⟩
                rw [← en_168]
                have hnn_168 := KI.w en_168 hnn_160 (okv_f (show kd (14 * kc2 + 120) = (0, 0, false) from (kd_P (k := kc2) (c := 10) (by omega) (by omega) (by decide))))
                have hrn_168 := NRx.w en_168 hrn_160 (by rw [(show kd (14 * kc2 + 120) = (0, 0, false) from (kd_P (k := kc2) (c := 10) (by omega) (by omega) (by decide)))])
                have ksn_168 := KSh.w (h := 14 * kc2 + 110) en_168 ksn_160 (by unfold tS; omega)
                have e169 : n_168 0 = nI kc0 := by rw [en_168, pk_un (by omega)]; exact e161
                have e170 : n_168 8 = nI kc8 := by rw [en_168, pk_un (by omega)]; exact e162
                have e171 : n_168 2 = nI (kc2 + 1) := by rw [en_168, pk_un (by omega)]; exact e163
                have e172 : n_168 (14 * kc2 + 122) = nI 0 := by rw [en_168, pk_un (by omega)]; exact e164
                have e173 : n_168 (14 * kc2 + 110) = nI k3 := by rw [en_168, pk_un (by omega)]; exact e165
                have e174 : n_168 (14 * kc2 + 111) = zb := by rw [en_168, pk_un (by omega)]; exact e166
                have e175 : n_168 (14 * kc2 + 120) = (-1) := by rw [en_168, pk_us]
                refine pm_aloadn hG dX12_person_212 rfl ?_
                refine pm_iloadi hG dX12_person_213 rfl ?_
                refine pm_bipush (v := nI 12) hG dX12_person_215 (by decide) ?_
                refine pm_iconst (v := nI 1) hG dX12_person_217 (by decide) ?_
                refine pm_callV (As := [.int (nI kc2), .int (nI 12), .int (nI 1)]) (rest := []) hG hR dX12_person_218 (lkX12_97 _ rfl) okV_X12_sets rfl rfl (m_sets (d := 2) (e := 14 * kc2 + 122) (by omega) (by omega) (by omega)) rfl rfl hdd (Nat.le_refl _) (Nat.le_refl _) (by decide) (pm_kv (fun σ' cnt' hq => ?_))
                obtain ⟨rfl, rfl⟩ := hq
                obtain ⟨n_176, en_176⟩ : ∃ f : Nat → Int32, f = upd n_168 (14 * kc2 + 122) (nI 1) := ⟨_, rfl⟩
                rw [← en_176]
                have hnn_176 := KI.w en_176 hnn_168 (okv_f (show kd (14 * kc2 + 122) = (0, 0, false) from (kd_P (k := kc2) (c := 12) (by omega) (by omega) (by decide))))
                have hrn_176 := NRx.w en_176 hrn_168 (by rw [(show kd (14 * kc2 + 122) = (0, 0, false) from (kd_P (k := kc2) (c := 12) (by omega) (by omega) (by decide)))])
                have ksn_176 := KSh.w (h := 14 * kc2 + 110) en_176 ksn_168 (by unfold tS; omega)
                have e177 : n_176 0 = nI kc0 := by rw [en_176, pk_un (by omega)]; exact e169
                have e178 : n_176 8 = nI kc8 := by rw [en_176, pk_un (by omega)]; exact e170
                have e179 : n_176 2 = nI (kc2 + 1) := by rw [en_176, pk_un (by omega)]; exact e171
                have e180 : n_176 (14 * kc2 + 110) = nI k3 := by rw [en_176, pk_un (by omega)]; exact e173
                have e181 : n_176 (14 * kc2 + 111) = zb := by rw [en_176, pk_un (by omega)]; exact e174
                have e182 : n_176 (14 * kc2 + 122) = nI 1 := by rw [en_176, pk_us]
                refine pm_iloadi hG dX12_person_221 rfl ?_
                exact pm_iret hG hF dX12_person_223 rfl (Nat.le_refl _) (Nat.le_refl _) ⟨_, rfl, ⟨_, _, _, rfl, hnn_176, hrn_176, e177.trans ekc0.symm, e178.trans ekc8.symm, ⟨(vE_y (T := pN n) (d := n 8) (t := n 0) (p := n 2) (a := za) (b := zb) (c := zc) (e := zd) (not6 (rg_in (a := 0) (b := 1) (by omega) ek3 (by omega) (by omega)) (fun q => q.elim ac5 (by rw [ekc8]; exact bc5)) (by rw [ek9]; exact nI_pos (by omega)) (nt_in ekc0 (by omega) ek20 (by omega)) (fun q => q (by rw [dv1 ek9 (by omega)]; exact pk11)) (fun q => q (by rw [rm1 ek9 (by omega)]; exact pk15))) ekc2 (by omega)).1, e179.trans (vE_y (T := pN n) (d := n 8) (t := n 0) (p := n 2) (a := za) (b := zb) (c := zc) (e := zd) (not6 (rg_in (a := 0) (b := 1) (by omega) ek3 (by omega) (by omega)) (fun q => q.elim ac5 (by rw [ekc8]; exact bc5)) (by rw [ek9]; exact nI_pos (by omega)) (nt_in ekc0 (by omega) ek20 (by omega)) (fun q => q (by rw [dv1 ek9 (by omega)]; exact pk11)) (fun q => q (by rw [rm1 ek9 (by omega)]; exact pk15))) ekc2 (by omega)).2.1, fun j hj => by rw [(vE_y (T := pN n) (d := n 8) (t := n 0) (p := n 2) (a := za) (b := zb) (c := zc) (e := zd) (not6 (rg_in (a := 0) (b := 1) (by omega) ek3 (by omega) (by omega)) (fun q => q.elim ac5 (by rw [ekc8]; exact bc5)) (by rw [ek9]; exact nI_pos (by omega)) (nt_in ekc0 (by omega) ek20 (by omega)) (fun q => q (by rw [dv1 ek9 (by omega)]; exact pk11)) (fun q => q (by rw [rm1 ek9 (by omega)]; exact pk15))) ekc2 (by omega)).2.2]; exact tP_ok ksn_176 (e180.trans ek3.symm) e181 e182 (by omega) j hj⟩⟩, rfl⟩
              · refine pm_aloadn hG dX12_person_102 rfl ?_
                refine pm_iconst (v := nI 4) hG dX12_person_103 (by decide) ?_
                refine pm_callV (As := [.int (nI 4)]) (rest := []) hG hR dX12_person_104 (lkX12_80 _ rfl) okV_X12_finds rfl rfl (m_finds (d := 2) (by decide) hn hz (by omega)) rfl rfl hdd (Nat.le_refl _) (Nat.le_refl _) (by decide) (pm_ki (fun v183 σ' cnt' hq => ?_))
                obtain ⟨⟨I184, A184, rfl⟩, rfl, fv183⟩ := hq
                exact pm_iret hG hF dX12_person_107 rfl (Nat.le_refl _) (Nat.le_refl _) ⟨_, rfl, ⟨_, _, _, rfl, hn, hr, ekc0.trans ekc0.symm, ekc8.trans ekc8.symm, ⟨fv183.trans ((by decide : (-1000000 : Int32) - nI 4 = -1000004).trans (vE_f (T := pN n) (d := n 8) (t := n 0) (p := n 2) (a := za) (b := zb) (c := zc) (e := zd) (not6 (rg_in (a := 0) (b := 1) (by omega) ek3 (by omega) (by omega)) (fun q => q.elim ac5 (by rw [ekc8]; exact bc5)) (by rw [ek9]; exact nI_pos (by omega)) (nt_in ekc0 (by omega) ek20 (by omega)) (fun q => q (by rw [dv1 ek9 (by omega)]; exact pk11)) (fun q => q (by rw [rm1 ek9 (by omega)]; exact pk15))) (ekc2.trans (congrArg nI (by omega)))).1), (vE_f (T := pN n) (d := n 8) (t := n 0) (p := n 2) (a := za) (b := zb) (c := zc) (e := zd) (not6 (rg_in (a := 0) (b := 1) (by omega) ek3 (by omega) (by omega)) (fun q => q.elim ac5 (by rw [ekc8]; exact bc5)) (by rw [ek9]; exact nI_pos (by omega)) (nt_in ekc0 (by omega) ek20 (by omega)) (fun q => q (by rw [dv1 ek9 (by omega)]; exact pk11)) (fun q => q (by rw [rm1 ek9 (by omega)]; exact pk15))) (ekc2.trans (congrArg nI (by omega)))).2.1, fun j _ => by rw [(vE_f (T := pN n) (d := n 8) (t := n 0) (p := n 2) (a := za) (b := zb) (c := zc) (e := zd) (not6 (rg_in (a := 0) (b := 1) (by omega) ek3 (by omega) (by omega)) (fun q => q.elim ac5 (by rw [ekc8]; exact bc5)) (by rw [ek9]; exact nI_pos (by omega)) (nt_in ekc0 (by omega) ek20 (by omega)) (fun q => q (by rw [dv1 ek9 (by omega)]; exact pk11)) (fun q => q (by rw [rm1 ek9 (by omega)]; exact pk15))) (ekc2.trans (congrArg nI (by omega)))).2.2]⟩⟩, rfl⟩
            · refine pm_ifN_eq (tgt := 73) hG dX12_person_66 rfl (by omega) (fun _ => ?_) (fun q => absurd q (by omega))
              refine pm_iconst (v := nI 0) hG dX12_person_73 (by decide) ?_
              refine pm_istoreXi (loc' := [some (.ref (B + 54)), some (.int za), some (.int zb), some (.int zc), some (.int zd), some (.int (nI 0)), none, none]) hG dX12_person_74 (by decide) (pm_c1b rfl) rfl ?_
              refine pm_iloadi hG dX12_person_76 rfl ?_
              refine pm_ifN_ne (tgt := 87) hG dX12_person_78 rfl (by omega) (fun q => absurd q (by omega)) (fun _ => ?_)
              refine pm_aloadn hG dX12_person_81 rfl ?_
              refine pm_iconst (v := nI 1) hG dX12_person_82 (by decide) ?_
              refine pm_callV (As := [.int (nI 1)]) (rest := []) hG hR dX12_person_83 (lkX12_80 _ rfl) okV_X12_finds rfl rfl (m_finds (d := 2) (by decide) hn hz (by omega)) rfl rfl hdd (Nat.le_refl _) (Nat.le_refl _) (by decide) (pm_ki (fun v185 σ' cnt' hq => ?_))
              obtain ⟨⟨I186, A186, rfl⟩, rfl, fv185⟩ := hq
              exact pm_iret hG hF dX12_person_86 rfl (Nat.le_refl _) (Nat.le_refl _) ⟨_, rfl, ⟨_, _, _, rfl, hn, hr, ekc0.trans ekc0.symm, ekc8.trans ekc8.symm, ⟨fv185.trans ((by decide : (-1000000 : Int32) - nI 1 = -1000001).trans (vE_n (T := pN n) (d := n 8) (t := n 0) (p := n 2) (a := za) (b := zb) (c := zc) (e := zd) (Or.inr (Or.inr (Or.inr (Or.inl (nt_out ekc0 (by omega) ntk20)))))).1), (vE_n (T := pN n) (d := n 8) (t := n 0) (p := n 2) (a := za) (b := zb) (c := zc) (e := zd) (Or.inr (Or.inr (Or.inr (Or.inl (nt_out ekc0 (by omega) ntk20)))))).2.1, fun j _ => by rw [(vE_n (T := pN n) (d := n 8) (t := n 0) (p := n 2) (a := za) (b := zb) (c := zc) (e := zd) (Or.inr (Or.inr (Or.inr (Or.inl (nt_out ekc0 (by omega) ntk20)))))).2.2]⟩⟩, rfl⟩
          · refine pm_ifN_eq (tgt := 73) hG dX12_person_57 rfl (by omega) (fun q => absurd q (by omega)) (fun _ => ?_)
            refine pm_aloadn hG dX12_person_60 rfl ?_
            refine pm_iloadi hG dX12_person_61 rfl ?_
            refine pm_callV (As := [.int zd]) (rest := []) hG hR dX12_person_63 (lkX12_84 _ rfl) okV_X12_isTown rfl rfl (m_isTown (d := 2) (by decide) ekc0 (by omega)) rfl rfl hdd (Nat.le_refl _) (Nat.le_refl _) (by decide) (pm_ki (fun v187 σ' cnt' hq => ?_))
            obtain ⟨hq, rfl, rfl⟩ := hq
            rcases hq with ⟨rfl, k189, hk189, ek189⟩ | ⟨rfl, ntk189⟩
            · refine pm_ifN_eq (tgt := 73) hG dX12_person_66 rfl (by omega) (fun q => absurd q (by omega)) (fun _ => ?_)
              refine pm_iconst (v := nI 1) hG dX12_person_69 (by decide) ?_
              refine pm_goto (tgt := 74) hG dX12_person_70 rfl ?_
              refine pm_istoreXi (loc' := [some (.ref (B + 54)), some (.int za), some (.int zb), some (.int zc), some (.int zd), some (.int (nI 1)), none, none]) hG dX12_person_74 (by decide) (pm_c1b rfl) rfl ?_
              refine pm_iloadi hG dX12_person_76 rfl ?_
              refine pm_ifN_ne (tgt := 87) hG dX12_person_78 rfl (by omega) (fun _ => ?_) (fun q => absurd q (by omega))
              refine pm_aloadn hG dX12_person_87 rfl ?_
              refine pm_getf hG dX12_person_88 (flX12_7 _ rfl) rfl rfl ?_
              refine pm_iconst (v := nI 2) hG dX12_person_91 (by decide) ?_
              refine pm_ialdN hG dX12_person_92 rfl (by decide) (by omega) ?_
              refine pm_top (v := nI kc2) ekc2 ?_
              refine pm_istoreXi (loc' := [some (.ref (B + 54)), some (.int za), some (.int zb), some (.int zc), some (.int zd), some (.int (nI 1)), some (.int (nI kc2)), none]) hG dX12_person_93 (by decide) (pm_c1b rfl) rfl ?_
              refine pm_iloadi hG dX12_person_95 rfl ?_
              refine pm_bipush (v := nI 20) hG dX12_person_97 (by decide) ?_
              refine pm_icmpN_ne (tgt := 108) hG dX12_person_99 rfl (by omega) (by omega) (fun c190 => ?_) (fun c190 => ?_)
              · refine pm_aloadn hG dX12_person_108 rfl ?_
                refine pm_getf hG dX12_person_109 (flX12_7 _ rfl) rfl rfl ?_
                refine pm_iconst (v := nI 2) hG dX12_person_112 (by decide) ?_
                refine pm_dup2 hG dX12_person_113 rfl rfl ?_
                refine pm_ialdN hG dX12_person_114 rfl (by decide) (by omega) ?_
                refine pm_top (v := nI kc2) ekc2 ?_
                refine pm_iconst (v := nI 1) hG dX12_person_115 (by decide) ?_
                refine pm_iaddN (c := kc2 + 1) hG dX12_person_116 (by omega) ?_
                refine pm_iastN hG dX12_person_117 rfl (by decide) (by omega) ?_
                refine mdn_now (fun n_191 en_191 => ?_)
                have hnn_191 := KI.w en_191 hn (okv_n (show kd 2 = (1, 21, true) by decide) (by omega))
                have hrn_191 := NRx.pers en_191 hr ekc0 (by omega) ekc2 (by omega)
                have ksn_191 := KSh.w (h := 14 * kc2 + 110) en_191 KSh.rf (by unfold tS; omega)
                have e192 : n_191 0 = nI kc0 := by rw [en_191, pk_un (by omega)]; exact ekc0
                have e193 : n_191 8 = nI kc8 := by rw [en_191, pk_un (by omega)]; exact ekc8
                have e194 : n_191 2 = nI (kc2 + 1) := by rw [en_191, pk_us]
                refine pm_iconst (v := nI 0) hG dX12_person_118 (by decide) ?_
                refine pm_istoreXi (loc' := [some (.ref (B + 54)), some (.int za), some (.int zb), some (.int zc), some (.int zd), some (.int (nI 1)), some (.int (nI kc2)), some (.int (nI 0))]) hG dX12_person_119 (by decide) (pm_c1b rfl) rfl ?_
                refine pm_iloadi hG dX12_person_121 rfl ?_
                refine pm_bipush (v := nI 14) hG dX12_person_123 (by decide) ?_
                refine pm_icmpN_ge (tgt := 143) hG dX12_person_125 rfl (by omega) (by omega) (fun q => absurd q (by omega)) (fun _ => ?_)
                refine pm_aloadn hG dX12_person_128 rfl ?_
                refine pm_iloadi hG dX12_person_129 rfl ?_
                refine pm_iloadi hG dX12_person_131 rfl ?_
                refine pm_iconst (v := nI 0) hG dX12_person_133 (by decide) ?_
                refine pm_callV (As := [.int (nI kc2), .int (nI 0), .int (nI 0)]) (rest := []) hG hR dX12_person_134 (lkX12_97 _ rfl) okV_X12_sets rfl rfl (m_sets (d := 2) (e := 14 * kc2 + 110) (by omega) (by omega) (by omega)) rfl rfl hdd (Nat.le_refl _) (Nat.le_refl _) (by decide) (pm_kv (fun σ' cnt' hq => ?_))
                obtain ⟨rfl, rfl⟩ := hq
                obtain ⟨n_195, en_195⟩ : ∃ f : Nat → Int32, f = upd n_191 (14 * kc2 + 110) (nI 0) := ⟨_, rfl⟩
                rw [← en_195]
                have hnn_195 := KI.w en_195 hnn_191 (okv_f (show kd (14 * kc2 + 110) = (0, 0, false) from (kd_P (k := kc2) (c := 0) (by omega) (by omega) (by decide))))
                have hrn_195 := NRx.w en_195 hrn_191 (by rw [(show kd (14 * kc2 + 110) = (0, 0, false) from (kd_P (k := kc2) (c := 0) (by omega) (by omega) (by decide)))])
                have ksn_195 := KSh.w (h := 14 * kc2 + 110) en_195 ksn_191 (by unfold tS; omega)
                have e196 : n_195 0 = nI kc0 := by rw [en_195, pk_un (by omega)]; exact e192
                have e197 : n_195 8 = nI kc8 := by rw [en_195, pk_un (by omega)]; exact e193
                have e198 : n_195 2 = nI (kc2 + 1) := by rw [en_195, pk_un (by omega)]; exact e194
                have e199 : n_195 (14 * kc2 + 110) = nI 0 := by rw [en_195, pk_us]
                refine pm_iincX (v := nI 1) (loc' := [some (.ref (B + 54)), some (.int za), some (.int zb), some (.int zc), some (.int zd), some (.int (nI 1)), some (.int (nI kc2)), some (.int (nI 1))]) hG dX12_person_137 rfl (nI_1 _) (by decide) (pm_c1b rfl) rfl ?_
                refine pm_goto (tgt := 121) hG dX12_person_140 rfl ?_
                refine pm_iloadi hG dX12_person_121 rfl ?_
                refine pm_bipush (v := nI 14) hG dX12_person_123 (by decide) ?_
                refine pm_icmpN_ge (tgt := 143) hG dX12_person_125 rfl (by omega) (by omega) (fun q => absurd q (by omega)) (fun _ => ?_)
                refine pm_aloadn hG dX12_person_128 rfl ?_
                refine pm_iloadi hG dX12_person_129 rfl ?_
                refine pm_iloadi hG dX12_person_131 rfl ?_
                refine pm_iconst (v := nI 0) hG dX12_person_133 (by decide) ?_
                refine pm_callV (As := [.int (nI kc2), .int (nI 1), .int (nI 0)]) (rest := []) hG hR dX12_person_134 (lkX12_97 _ rfl) okV_X12_sets rfl rfl (m_sets (d := 2) (e := 14 * kc2 + 111) (by omega) (by omega) (by omega)) rfl rfl hdd (Nat.le_refl _) (Nat.le_refl _) (by decide) (pm_kv (fun σ' cnt' hq => ?_))
                obtain ⟨rfl, rfl⟩ := hq
                obtain ⟨n_200, en_200⟩ : ∃ f : Nat → Int32, f = upd n_195 (14 * kc2 + 111) (nI 0) := ⟨_, rfl⟩
                rw [← en_200]
                have hnn_200 := KI.w en_200 hnn_195 (okv_f (show kd (14 * kc2 + 111) = (0, 0, false) from (kd_P (k := kc2) (c := 1) (by omega) (by omega) (by decide))))
                have hrn_200 := NRx.w en_200 hrn_195 (by rw [(show kd (14 * kc2 + 111) = (0, 0, false) from (kd_P (k := kc2) (c := 1) (by omega) (by omega) (by decide)))])
                have ksn_200 := KSh.w (h := 14 * kc2 + 110) en_200 ksn_195 (by unfold tS; omega)
                have e201 : n_200 0 = nI kc0 := by rw [en_200, pk_un (by omega)]; exact e196
                have e202 : n_200 8 = nI kc8 := by rw [en_200, pk_un (by omega)]; exact e197
                have e203 : n_200 2 = nI (kc2 + 1) := by rw [en_200, pk_un (by omega)]; exact e198
                have e204 : n_200 (14 * kc2 + 110) = nI 0 := by rw [en_200, pk_un (by omega)]; exact e199
                have e205 : n_200 (14 * kc2 + 111) = nI 0 := by rw [en_200, pk_us]
                refine pm_iincX (v := nI 2) (loc' := [some (.ref (B + 54)), some (.int za), some (.int zb), some (.int zc), some (.int zd), some (.int (nI 1)), some (.int (nI kc2)), some (.int (nI 2))]) hG dX12_person_137 rfl (nI_1 _) (by decide) (pm_c1b rfl) rfl ?_
                refine pm_goto (tgt := 121) hG dX12_person_140 rfl ?_
                refine pm_iloadi hG dX12_person_121 rfl ?_
                refine pm_bipush (v := nI 14) hG dX12_person_123 (by decide) ?_
                refine pm_icmpN_ge (tgt := 143) hG dX12_person_125 rfl (by omega) (by omega) (fun q => absurd q (by omega)) (fun _ => ?_)
                refine pm_aloadn hG dX12_person_128 rfl ?_
                refine pm_iloadi hG dX12_person_129 rfl ?_
                refine pm_iloadi hG dX12_person_131 rfl ?_
                refine pm_iconst (v := nI 0) hG dX12_person_133 (by decide) ?_
                refine pm_callV (As := [.int (nI kc2), .int (nI 2), .int (nI 0)]) (rest := []) hG hR dX12_person_134 (lkX12_97 _ rfl) okV_X12_sets rfl rfl (m_sets (d := 2) (e := 14 * kc2 + 112) (by omega) (by omega) (by omega)) rfl rfl hdd (Nat.le_refl _) (Nat.le_refl _) (by decide) (pm_kv (fun σ' cnt' hq => ?_))
                obtain ⟨rfl, rfl⟩ := hq
                obtain ⟨n_206, en_206⟩ : ∃ f : Nat → Int32, f = upd n_200 (14 * kc2 + 112) (nI 0) := ⟨_, rfl⟩
                rw [← en_206]
                have hnn_206 := KI.w en_206 hnn_200 (okv_o (show kd (14 * kc2 + 112) = (2, 20, false) from (kd_P (k := kc2) (c := 2) (by omega) (by omega) (by decide))) (by omega))
                have hrn_206 := NRx.w en_206 hrn_200 (by rw [(show kd (14 * kc2 + 112) = (2, 20, false) from (kd_P (k := kc2) (c := 2) (by omega) (by omega) (by decide)))])
                have ksn_206 := KSh.w (h := 14 * kc2 + 110) en_206 ksn_200 (by unfold tS; omega)
                have e207 : n_206 0 = nI kc0 := by rw [en_206, pk_un (by omega)]; exact e201
                have e208 : n_206 8 = nI kc8 := by rw [en_206, pk_un (by omega)]; exact e202
                have e209 : n_206 2 = nI (kc2 + 1) := by rw [en_206, pk_un (by omega)]; exact e203
                have e210 : n_206 (14 * kc2 + 110) = nI 0 := by rw [en_206, pk_un (by omega)]; exact e204
                have e211 : n_206 (14 * kc2 + 111) = nI 0 := by rw [en_206, pk_un (by omega)]; exact e205
                have e212 : n_206 (14 * kc2 + 112) = nI 0 := by rw [en_206, pk_us]
                refine pm_iincX (v := nI 3) (loc' := [some (.ref (B + 54)), some (.int za), some (.int zb), some (.int zc), some (.int zd), some (.int (nI 1)), some (.int (nI kc2)), some (.int (nI 3))]) hG dX12_person_137 rfl (nI_1 _) (by decide) (pm_c1b rfl) rfl ?_
                refine pm_goto (tgt := 121) hG dX12_person_140 rfl ?_
                refine pm_iloadi hG dX12_person_121 rfl ?_
                refine pm_bipush (v := nI 14) hG dX12_person_123 (by decide) ?_
                refine pm_icmpN_ge (tgt := 143) hG dX12_person_125 rfl (by omega) (by omega) (fun q => absurd q (by omega)) (fun _ => ?_)
                refine pm_aloadn hG dX12_person_128 rfl ?_
                refine pm_iloadi hG dX12_person_129 rfl ?_
                refine pm_iloadi hG dX12_person_131 rfl ?_
                refine pm_iconst (v := nI 0) hG dX12_person_133 (by decide) ?_
                refine pm_callV (As := [.int (nI kc2), .int (nI 3), .int (nI 0)]) (rest := []) hG hR dX12_person_134 (lkX12_97 _ rfl) okV_X12_sets rfl rfl (m_sets (d := 2) (e := 14 * kc2 + 113) (by omega) (by omega) (by omega)) rfl rfl hdd (Nat.le_refl _) (Nat.le_refl _) (by decide) (pm_kv (fun σ' cnt' hq => ?_))
                obtain ⟨rfl, rfl⟩ := hq
                obtain ⟨n_213, en_213⟩ : ∃ f : Nat → Int32, f = upd n_206 (14 * kc2 + 113) (nI 0) := ⟨_, rfl⟩
                rw [← en_213]
                have hnn_213 := KI.w en_213 hnn_206 (okv_o (show kd (14 * kc2 + 113) = (2, 20, false) from (kd_P (k := kc2) (c := 3) (by omega) (by omega) (by decide))) (by omega))
                have hrn_213 := NRx.w en_213 hrn_206 (by rw [(show kd (14 * kc2 + 113) = (2, 20, false) from (kd_P (k := kc2) (c := 3) (by omega) (by omega) (by decide)))])
                have ksn_213 := KSh.w (h := 14 * kc2 + 110) en_213 ksn_206 (by unfold tS; omega)
                have e214 : n_213 0 = nI kc0 := by rw [en_213, pk_un (by omega)]; exact e207
                have e215 : n_213 8 = nI kc8 := by rw [en_213, pk_un (by omega)]; exact e208
                have e216 : n_213 2 = nI (kc2 + 1) := by rw [en_213, pk_un (by omega)]; exact e209
                have e217 : n_213 (14 * kc2 + 110) = nI 0 := by rw [en_213, pk_un (by omega)]; exact e210
                have e218 : n_213 (14 * kc2 + 111) = nI 0 := by rw [en_213, pk_un (by omega)]; exact e211
                have e219 : n_213 (14 * kc2 + 113) = nI 0 := by rw [en_213, pk_us]
                refine pm_iincX (v := nI 4) (loc' := [some (.ref (B + 54)), some (.int za), some (.int zb), some (.int zc), some (.int zd), some (.int (nI 1)), some (.int (nI kc2)), some (.int (nI 4))]) hG dX12_person_137 rfl (nI_1 _) (by decide) (pm_c1b rfl) rfl ?_
                refine pm_goto (tgt := 121) hG dX12_person_140 rfl ?_
                refine pm_iloadi hG dX12_person_121 rfl ?_
                refine pm_bipush (v := nI 14) hG dX12_person_123 (by decide) ?_
                refine pm_icmpN_ge (tgt := 143) hG dX12_person_125 rfl (by omega) (by omega) (fun q => absurd q (by omega)) (fun _ => ?_)
                refine pm_aloadn hG dX12_person_128 rfl ?_
                refine pm_iloadi hG dX12_person_129 rfl ?_
                refine pm_iloadi hG dX12_person_131 rfl ?_
                refine pm_iconst (v := nI 0) hG dX12_person_133 (by decide) ?_
                refine pm_callV (As := [.int (nI kc2), .int (nI 4), .int (nI 0)]) (rest := []) hG hR dX12_person_134 (lkX12_97 _ rfl) okV_X12_sets rfl rfl (m_sets (d := 2) (e := 14 * kc2 + 114) (by omega) (by omega) (by omega)) rfl rfl hdd (Nat.le_refl _) (Nat.le_refl _) (by decide) (pm_kv (fun σ' cnt' hq => ?_))
                obtain ⟨rfl, rfl⟩ := hq
                obtain ⟨n_220, en_220⟩ : ∃ f : Nat → Int32, f = upd n_213 (14 * kc2 + 114) (nI 0) := ⟨_, rfl⟩
                rw [← en_220]
                have hnn_220 := KI.w en_220 hnn_213 (okv_o (show kd (14 * kc2 + 114) = (2, 10, false) from (kd_P (k := kc2) (c := 4) (by omega) (by omega) (by decide))) (by omega))
                have hrn_220 := NRx.w en_220 hrn_213 (by rw [(show kd (14 * kc2 + 114) = (2, 10, false) from (kd_P (k := kc2) (c := 4) (by omega) (by omega) (by decide)))])
                have ksn_220 := KSh.w (h := 14 * kc2 + 110) en_220 ksn_213 (by unfold tS; omega)
                have e221 : n_220 0 = nI kc0 := by rw [en_220, pk_un (by omega)]; exact e214
                have e222 : n_220 8 = nI kc8 := by rw [en_220, pk_un (by omega)]; exact e215
                have e223 : n_220 2 = nI (kc2 + 1) := by rw [en_220, pk_un (by omega)]; exact e216
                have e224 : n_220 (14 * kc2 + 110) = nI 0 := by rw [en_220, pk_un (by omega)]; exact e217
                have e225 : n_220 (14 * kc2 + 111) = nI 0 := by rw [en_220, pk_un (by omega)]; exact e218
                have e226 : n_220 (14 * kc2 + 114) = nI 0 := by rw [en_220, pk_us]
                refine pm_iincX (v := nI 5) (loc' := [some (.ref (B + 54)), some (.int za), some (.int zb), some (.int zc), some (.int zd), some (.int (nI 1)), some (.int (nI kc2)), some (.int (nI 5))]) hG dX12_person_137 rfl (nI_1 _) (by decide) (pm_c1b rfl) rfl ?_
                refine pm_goto (tgt := 121) hG dX12_person_140 rfl ?_
                refine pm_iloadi hG dX12_person_121 rfl ?_
                refine pm_bipush (v := nI 14) hG dX12_person_123 (by decide) ?_
                refine pm_icmpN_ge (tgt := 143) hG dX12_person_125 rfl (by omega) (by omega) (fun q => absurd q (by omega)) (fun _ => ?_)
                refine pm_aloadn hG dX12_person_128 rfl ?_
                refine pm_iloadi hG dX12_person_129 rfl ?_
                refine pm_iloadi hG dX12_person_131 rfl ?_
                refine pm_iconst (v := nI 0) hG dX12_person_133 (by decide) ?_
                refine pm_callV (As := [.int (nI kc2), .int (nI 5), .int (nI 0)]) (rest := []) hG hR dX12_person_134 (lkX12_97 _ rfl) okV_X12_sets rfl rfl (m_sets (d := 2) (e := 14 * kc2 + 115) (by omega) (by omega) (by omega)) rfl rfl hdd (Nat.le_refl _) (Nat.le_refl _) (by decide) (pm_kv (fun σ' cnt' hq => ?_))
                obtain ⟨rfl, rfl⟩ := hq
                obtain ⟨n_227, en_227⟩ : ∃ f : Nat → Int32, f = upd n_220 (14 * kc2 + 115) (nI 0) := ⟨_, rfl⟩
                rw [← en_227]
                have hnn_227 := KI.w en_227 hnn_220 (okv_n (show kd (14 * kc2 + 115) = (1, 10, false) from (kd_P (k := kc2) (c := 5) (by omega) (by omega) (by decide))) (by omega))
                have hrn_227 := NRx.w en_227 hrn_220 (by rw [(show kd (14 * kc2 + 115) = (1, 10, false) from (kd_P (k := kc2) (c := 5) (by omega) (by omega) (by decide)))])
                have ksn_227 := KSh.w (h := 14 * kc2 + 110) en_227 ksn_220 (by unfold tS; omega)
                have e228 : n_227 0 = nI kc0 := by rw [en_227, pk_un (by omega)]; exact e221
                have e229 : n_227 8 = nI kc8 := by rw [en_227, pk_un (by omega)]; exact e222
                have e230 : n_227 2 = nI (kc2 + 1) := by rw [en_227, pk_un (by omega)]; exact e223
                have e231 : n_227 (14 * kc2 + 110) = nI 0 := by rw [en_227, pk_un (by omega)]; exact e224
                have e232 : n_227 (14 * kc2 + 111) = nI 0 := by rw [en_227, pk_un (by omega)]; exact e225
                have e233 : n_227 (14 * kc2 + 115) = nI 0 := by rw [en_227, pk_us]
                refine pm_iincX (v := nI 6) (loc' := [some (.ref (B + 54)), some (.int za), some (.int zb), some (.int zc), some (.int zd), some (.int (nI 1)), some (.int (nI kc2)), some (.int (nI 6))]) hG dX12_person_137 rfl (nI_1 _) (by decide) (pm_c1b rfl) rfl ?_
                refine pm_goto (tgt := 121) hG dX12_person_140 rfl ?_
                refine pm_iloadi hG dX12_person_121 rfl ?_
                refine pm_bipush (v := nI 14) hG dX12_person_123 (by decide) ?_
                refine pm_icmpN_ge (tgt := 143) hG dX12_person_125 rfl (by omega) (by omega) (fun q => absurd q (by omega)) (fun _ => ?_)
                refine pm_aloadn hG dX12_person_128 rfl ?_
                refine pm_iloadi hG dX12_person_129 rfl ?_
                refine pm_iloadi hG dX12_person_131 rfl ?_
                refine pm_iconst (v := nI 0) hG dX12_person_133 (by decide) ?_
                refine pm_callV (As := [.int (nI kc2), .int (nI 6), .int (nI 0)]) (rest := []) hG hR dX12_person_134 (lkX12_97 _ rfl) okV_X12_sets rfl rfl (m_sets (d := 2) (e := 14 * kc2 + 116) (by omega) (by omega) (by omega)) rfl rfl hdd (Nat.le_refl _) (Nat.le_refl _) (by decide) (pm_kv (fun σ' cnt' hq => ?_))
                obtain ⟨rfl, rfl⟩ := hq
                obtain ⟨n_234, en_234⟩ : ∃ f : Nat → Int32, f = upd n_227 (14 * kc2 + 116) (nI 0) := ⟨_, rfl⟩
                rw [← en_234]
                have hnn_234 := KI.w en_234 hnn_227 (okv_f (show kd (14 * kc2 + 116) = (0, 0, false) from (kd_P (k := kc2) (c := 6) (by omega) (by omega) (by decide))))
                have hrn_234 := NRx.w en_234 hrn_227 (by rw [(show kd (14 * kc2 + 116) = (0, 0, false) from (kd_P (k := kc2) (c := 6) (by omega) (by omega) (by decide)))])
                have ksn_234 := KSh.w (h := 14 * kc2 + 110) en_234 ksn_227 (by unfold tS; omega)
                have e235 : n_234 0 = nI kc0 := by rw [en_234, pk_un (by omega)]; exact e228
                have e236 : n_234 8 = nI kc8 := by rw [en_234, pk_un (by omega)]; exact e229
                have e237 : n_234 2 = nI (kc2 + 1) := by rw [en_234, pk_un (by omega)]; exact e230
                have e238 : n_234 (14 * kc2 + 110) = nI 0 := by rw [en_234, pk_un (by omega)]; exact e231
                have e239 : n_234 (14 * kc2 + 111) = nI 0 := by rw [en_234, pk_un (by omega)]; exact e232
                have e240 : n_234 (14 * kc2 + 116) = nI 0 := by rw [en_234, pk_us]
                refine pm_iincX (v := nI 7) (loc' := [some (.ref (B + 54)), some (.int za), some (.int zb), some (.int zc), some (.int zd), some (.int (nI 1)), some (.int (nI kc2)), some (.int (nI 7))]) hG dX12_person_137 rfl (nI_1 _) (by decide) (pm_c1b rfl) rfl ?_
                refine pm_goto (tgt := 121) hG dX12_person_140 rfl ?_
                refine pm_iloadi hG dX12_person_121 rfl ?_
                refine pm_bipush (v := nI 14) hG dX12_person_123 (by decide) ?_
                refine pm_icmpN_ge (tgt := 143) hG dX12_person_125 rfl (by omega) (by omega) (fun q => absurd q (by omega)) (fun _ => ?_)
                refine pm_aloadn hG dX12_person_128 rfl ?_
                refine pm_iloadi hG dX12_person_129 rfl ?_
                refine pm_iloadi hG dX12_person_131 rfl ?_
                refine pm_iconst (v := nI 0) hG dX12_person_133 (by decide) ?_
                refine pm_callV (As := [.int (nI kc2), .int (nI 7), .int (nI 0)]) (rest := []) hG hR dX12_person_134 (lkX12_97 _ rfl) okV_X12_sets rfl rfl (m_sets (d := 2) (e := 14 * kc2 + 117) (by omega) (by omega) (by omega)) rfl rfl hdd (Nat.le_refl _) (Nat.le_refl _) (by decide) (pm_kv (fun σ' cnt' hq => ?_))
                obtain ⟨rfl, rfl⟩ := hq
                obtain ⟨n_241, en_241⟩ : ∃ f : Nat → Int32, f = upd n_234 (14 * kc2 + 117) (nI 0) := ⟨_, rfl⟩
                rw [← en_241]
                have hnn_241 := KI.w en_241 hnn_234 (okv_f (show kd (14 * kc2 + 117) = (0, 0, false) from (kd_P (k := kc2) (c := 7) (by omega) (by omega) (by decide))))
                have hrn_241 := NRx.w en_241 hrn_234 (by rw [(show kd (14 * kc2 + 117) = (0, 0, false) from (kd_P (k := kc2) (c := 7) (by omega) (by omega) (by decide)))])
                have ksn_241 := KSh.w (h := 14 * kc2 + 110) en_241 ksn_234 (by unfold tS; omega)
                have e242 : n_241 0 = nI kc0 := by rw [en_241, pk_un (by omega)]; exact e235
                have e243 : n_241 8 = nI kc8 := by rw [en_241, pk_un (by omega)]; exact e236
                have e244 : n_241 2 = nI (kc2 + 1) := by rw [en_241, pk_un (by omega)]; exact e237
                have e245 : n_241 (14 * kc2 + 110) = nI 0 := by rw [en_241, pk_un (by omega)]; exact e238
                have e246 : n_241 (14 * kc2 + 111) = nI 0 := by rw [en_241, pk_un (by omega)]; exact e239
                have e247 : n_241 (14 * kc2 + 117) = nI 0 := by rw [en_241, pk_us]
                refine pm_iincX (v := nI 8) (loc' := [some (.ref (B + 54)), some (.int za), some (.int zb), some (.int zc), some (.int zd), some (.int (nI 1)), some (.int (nI kc2)), some (.int (nI 8))]) hG dX12_person_137 rfl (nI_1 _) (by decide) (pm_c1b rfl) rfl ?_
                refine pm_goto (tgt := 121) hG dX12_person_140 rfl ?_
                refine pm_iloadi hG dX12_person_121 rfl ?_
                refine pm_bipush (v := nI 14) hG dX12_person_123 (by decide) ?_
                refine pm_icmpN_ge (tgt := 143) hG dX12_person_125 rfl (by omega) (by omega) (fun q => absurd q (by omega)) (fun _ => ?_)
                refine pm_aloadn hG dX12_person_128 rfl ?_
                refine pm_iloadi hG dX12_person_129 rfl ?_
                refine pm_iloadi hG dX12_person_131 rfl ?_
                refine pm_iconst (v := nI 0) hG dX12_person_133 (by decide) ?_
                refine pm_callV (As := [.int (nI kc2), .int (nI 8), .int (nI 0)]) (rest := []) hG hR dX12_person_134 (lkX12_97 _ rfl) okV_X12_sets rfl rfl (m_sets (d := 2) (e := 14 * kc2 + 118) (by omega) (by omega) (by omega)) rfl rfl hdd (Nat.le_refl _) (Nat.le_refl _) (by decide) (pm_kv (fun σ' cnt' hq => ?_))
                obtain ⟨rfl, rfl⟩ := hq
                obtain ⟨n_248, en_248⟩ : ∃ f : Nat → Int32, f = upd n_241 (14 * kc2 + 118) (nI 0) := ⟨_, rfl⟩
                rw [← en_248]
                have hnn_248 := KI.w en_248 hnn_241 (okv_f (show kd (14 * kc2 + 118) = (0, 0, false) from (kd_P (k := kc2) (c := 8) (by omega) (by omega) (by decide))))
                have hrn_248 := NRx.w en_248 hrn_241 (by rw [(show kd (14 * kc2 + 118) = (0, 0, false) from (kd_P (k := kc2) (c := 8) (by omega) (by omega) (by decide)))])
                have ksn_248 := KSh.w (h := 14 * kc2 + 110) en_248 ksn_241 (by unfold tS; omega)
                have e249 : n_248 0 = nI kc0 := by rw [en_248, pk_un (by omega)]; exact e242
                have e250 : n_248 8 = nI kc8 := by rw [en_248, pk_un (by omega)]; exact e243
                have e251 : n_248 2 = nI (kc2 + 1) := by rw [en_248, pk_un (by omega)]; exact e244
                have e252 : n_248 (14 * kc2 + 110) = nI 0 := by rw [en_248, pk_un (by omega)]; exact e245
                have e253 : n_248 (14 * kc2 + 111) = nI 0 := by rw [en_248, pk_un (by omega)]; exact e246
                have e254 : n_248 (14 * kc2 + 118) = nI 0 := by rw [en_248, pk_us]
                refine pm_iincX (v := nI 9) (loc' := [some (.ref (B + 54)), some (.int za), some (.int zb), some (.int zc), some (.int zd), some (.int (nI 1)), some (.int (nI kc2)), some (.int (nI 9))]) hG dX12_person_137 rfl (nI_1 _) (by decide) (pm_c1b rfl) rfl ?_
                refine pm_goto (tgt := 121) hG dX12_person_140 rfl ?_
                refine pm_iloadi hG dX12_person_121 rfl ?_
                refine pm_bipush (v := nI 14) hG dX12_person_123 (by decide) ?_
                refine pm_icmpN_ge (tgt := 143) hG dX12_person_125 rfl (by omega) (by omega) (fun q => absurd q (by omega)) (fun _ => ?_)
                refine pm_aloadn hG dX12_person_128 rfl ?_
                refine pm_iloadi hG dX12_person_129 rfl ?_
                refine pm_iloadi hG dX12_person_131 rfl ?_
                refine pm_iconst (v := nI 0) hG dX12_person_133 (by decide) ?_
                refine pm_callV (As := [.int (nI kc2), .int (nI 9), .int (nI 0)]) (rest := []) hG hR dX12_person_134 (lkX12_97 _ rfl) okV_X12_sets rfl rfl (m_sets (d := 2) (e := 14 * kc2 + 119) (by omega) (by omega) (by omega)) rfl rfl hdd (Nat.le_refl _) (Nat.le_refl _) (by decide) (pm_kv (fun σ' cnt' hq => ?_))
                obtain ⟨rfl, rfl⟩ := hq
                obtain ⟨n_255, en_255⟩ : ∃ f : Nat → Int32, f = upd n_248 (14 * kc2 + 119) (nI 0) := ⟨_, rfl⟩
                rw [← en_255]
                have hnn_255 := KI.w en_255 hnn_248 (okv_o (show kd (14 * kc2 + 119) = (2, 2001, false) from (kd_P (k := kc2) (c := 9) (by omega) (by omega) (by decide))) (by omega))
                have hrn_255 := NRx.w en_255 hrn_248 (by rw [(show kd (14 * kc2 + 119) = (2, 2001, false) from (kd_P (k := kc2) (c := 9) (by omega) (by omega) (by decide)))])
                have ksn_255 := KSh.w (h := 14 * kc2 + 110) en_255 ksn_248 (by unfold tS; omega)
                have e256 : n_255 0 = nI kc0 := by rw [en_255, pk_un (by omega)]; exact e249
                have e257 : n_255 8 = nI kc8 := by rw [en_255, pk_un (by omega)]; exact e250
                have e258 : n_255 2 = nI (kc2 + 1) := by rw [en_255, pk_un (by omega)]; exact e251
                have e259 : n_255 (14 * kc2 + 110) = nI 0 := by rw [en_255, pk_un (by omega)]; exact e252
                have e260 : n_255 (14 * kc2 + 111) = nI 0 := by rw [en_255, pk_un (by omega)]; exact e253
                have e261 : n_255 (14 * kc2 + 119) = nI 0 := by rw [en_255, pk_us]
                refine pm_iincX (v := nI 10) (loc' := [some (.ref (B + 54)), some (.int za), some (.int zb), some (.int zc), some (.int zd), some (.int (nI 1)), some (.int (nI kc2)), some (.int (nI 10))]) hG dX12_person_137 rfl (nI_1 _) (by decide) (pm_c1b rfl) rfl ?_
                refine pm_goto (tgt := 121) hG dX12_person_140 rfl ?_
                refine pm_iloadi hG dX12_person_121 rfl ?_
                refine pm_bipush (v := nI 14) hG dX12_person_123 (by decide) ?_
                refine pm_icmpN_ge (tgt := 143) hG dX12_person_125 rfl (by omega) (by omega) (fun q => absurd q (by omega)) (fun _ => ?_)
                refine pm_aloadn hG dX12_person_128 rfl ?_
                refine pm_iloadi hG dX12_person_129 rfl ?_
                refine pm_iloadi hG dX12_person_131 rfl ?_
                refine pm_iconst (v := nI 0) hG dX12_person_133 (by decide) ?_
                refine pm_callV (As := [.int (nI kc2), .int (nI 10), .int (nI 0)]) (rest := []) hG hR dX12_person_134 (lkX12_97 _ rfl) okV_X12_sets rfl rfl (m_sets (d := 2) (e := 14 * kc2 + 120) (by omega) (by omega) (by omega)) rfl rfl hdd (Nat.le_refl _) (Nat.le_refl _) (by decide) (pm_kv (fun σ' cnt' hq => ?_))
                obtain ⟨rfl, rfl⟩ := hq
                obtain ⟨n_262, en_262⟩ : ∃ f : Nat → Int32, f = upd n_255 (14 * kc2 + 120) (nI 0) := ⟨_, rfl⟩
                rw [← en_262]
                have hnn_262 := KI.w en_262 hnn_255 (okv_f (show kd (14 * kc2 + 120) = (0, 0, false) from (kd_P (k := kc2) (c := 10) (by omega) (by omega) (by decide))))
                have hrn_262 := NRx.w en_262 hrn_255 (by rw [(show kd (14 * kc2 + 120) = (0, 0, false) from (kd_P (k := kc2) (c := 10) (by omega) (by omega) (by decide)))])
                have ksn_262 := KSh.w (h := 14 * kc2 + 110) en_262 ksn_255 (by unfold tS; omega)
                have e263 : n_262 0 = nI kc0 := by rw [en_262, pk_un (by omega)]; exact e256
                have e264 : n_262 8 = nI kc8 := by rw [en_262, pk_un (by omega)]; exact e257
                have e265 : n_262 2 = nI (kc2 + 1) := by rw [en_262, pk_un (by omega)]; exact e258
                have e266 : n_262 (14 * kc2 + 110) = nI 0 := by rw [en_262, pk_un (by omega)]; exact e259
                have e267 : n_262 (14 * kc2 + 111) = nI 0 := by rw [en_262, pk_un (by omega)]; exact e260
                have e268 : n_262 (14 * kc2 + 120) = nI 0 := by rw [en_262, pk_us]
                refine pm_iincX (v := nI 11) (loc' := [some (.ref (B + 54)), some (.int za), some (.int zb), some (.int zc), some (.int zd), some (.int (nI 1)), some (.int (nI kc2)), some (.int (nI 11))]) hG dX12_person_137 rfl (nI_1 _) (by decide) (pm_c1b rfl) rfl ?_
                refine pm_goto (tgt := 121) hG dX12_person_140 rfl ?_
                refine pm_iloadi hG dX12_person_121 rfl ?_
                refine pm_bipush (v := nI 14) hG dX12_person_123 (by decide) ?_
                refine pm_icmpN_ge (tgt := 143) hG dX12_person_125 rfl (by omega) (by omega) (fun q => absurd q (by omega)) (fun _ => ?_)
                refine pm_aloadn hG dX12_person_128 rfl ?_
                refine pm_iloadi hG dX12_person_129 rfl ?_
                refine pm_iloadi hG dX12_person_131 rfl ?_
                refine pm_iconst (v := nI 0) hG dX12_person_133 (by decide) ?_
                refine pm_callV (As := [.int (nI kc2), .int (nI 11), .int (nI 0)]) (rest := []) hG hR dX12_person_134 (lkX12_97 _ rfl) okV_X12_sets rfl rfl (m_sets (d := 2) (e := 14 * kc2 + 121) (by omega) (by omega) (by omega)) rfl rfl hdd (Nat.le_refl _) (Nat.le_refl _) (by decide) (pm_kv (fun σ' cnt' hq => ?_))
                obtain ⟨rfl, rfl⟩ := hq
                obtain ⟨n_269, en_269⟩ : ∃ f : Nat → Int32, f = upd n_262 (14 * kc2 + 121) (nI 0) := ⟨_, rfl⟩
                rw [← en_269]
                have hnn_269 := KI.w en_269 hnn_262 (okv_n (show kd (14 * kc2 + 121) = (1, 2, true) from (kd_P (k := kc2) (c := 11) (by omega) (by omega) (by decide))) (by omega))
                have hrn_269 := NRx.unseat (p := kc2) en_269 hrn_262 (by omega)
                have ksn_269 := KSh.w (h := 14 * kc2 + 110) en_269 ksn_262 (by unfold tS; omega)
                have e270 : n_269 0 = nI kc0 := by rw [en_269, pk_un (by omega)]; exact e263
                have e271 : n_269 8 = nI kc8 := by rw [en_269, pk_un (by omega)]; exact e264
                have e272 : n_269 2 = nI (kc2 + 1) := by rw [en_269, pk_un (by omega)]; exact e265
                have e273 : n_269 (14 * kc2 + 110) = nI 0 := by rw [en_269, pk_un (by omega)]; exact e266
                have e274 : n_269 (14 * kc2 + 111) = nI 0 := by rw [en_269, pk_un (by omega)]; exact e267
                have e275 : n_269 (14 * kc2 + 121) = nI 0 := by rw [en_269, pk_us]
                refine pm_iincX (v := nI 12) (loc' := [some (.ref (B + 54)), some (.int za), some (.int zb), some (.int zc), some (.int zd), some (.int (nI 1)), some (.int (nI kc2)), some (.int (nI 12))]) hG dX12_person_137 rfl (nI_1 _) (by decide) (pm_c1b rfl) rfl ?_
                refine pm_goto (tgt := 121) hG dX12_person_140 rfl ?_
                refine pm_iloadi hG dX12_person_121 rfl ?_
                refine pm_bipush (v := nI 14) hG dX12_person_123 (by decide) ?_
                refine pm_icmpN_ge (tgt := 143) hG dX12_person_125 rfl (by omega) (by omega) (fun q => absurd q (by omega)) (fun _ => ?_)
                refine pm_aloadn hG dX12_person_128 rfl ?_
                refine pm_iloadi hG dX12_person_129 rfl ?_
                refine pm_iloadi hG dX12_person_131 rfl ?_
                refine pm_iconst (v := nI 0) hG dX12_person_133 (by decide) ?_
                refine pm_callV (As := [.int (nI kc2), .int (nI 12), .int (nI 0)]) (rest := []) hG hR dX12_person_134 (lkX12_97 _ rfl) okV_X12_sets rfl rfl (m_sets (d := 2) (e := 14 * kc2 + 122) (by omega) (by omega) (by omega)) rfl rfl hdd (Nat.le_refl _) (Nat.le_refl _) (by decide) (pm_kv (fun σ' cnt' hq => ?_))
                obtain ⟨rfl, rfl⟩ := hq
                obtain ⟨n_276, en_276⟩ : ∃ f : Nat → Int32, f = upd n_269 (14 * kc2 + 122) (nI 0) := ⟨_, rfl⟩
                rw [← en_276]
                have hnn_276 := KI.w en_276 hnn_269 (okv_f (show kd (14 * kc2 + 122) = (0, 0, false) from (kd_P (k := kc2) (c := 12) (by omega) (by omega) (by decide))))
                have hrn_276 := NRx.w en_276 hrn_269 (by rw [(show kd (14 * kc2 + 122) = (0, 0, false) from (kd_P (k := kc2) (c := 12) (by omega) (by omega) (by decide)))])
                have ksn_276 := KSh.w (h := 14 * kc2 + 110) en_276 ksn_269 (by unfold tS; omega)
                have e277 : n_276 0 = nI kc0 := by rw [en_276, pk_un (by omega)]; exact e270
                have e278 : n_276 8 = nI kc8 := by rw [en_276, pk_un (by omega)]; exact e271
                have e279 : n_276 2 = nI (kc2 + 1) := by rw [en_276, pk_un (by omega)]; exact e272
                have e280 : n_276 (14 * kc2 + 110) = nI 0 := by rw [en_276, pk_un (by omega)]; exact e273
                have e281 : n_276 (14 * kc2 + 111) = nI 0 := by rw [en_276, pk_un (by omega)]; exact e274
                have e282 : n_276 (14 * kc2 + 122) = nI 0 := by rw [en_276, pk_us]
                refine pm_iincX (v := nI 13) (loc' := [some (.ref (B + 54)), some (.int za), some (.int zb), some (.int zc), some (.int zd), some (.int (nI 1)), some (.int (nI kc2)), some (.int (nI 13))]) hG dX12_person_137 rfl (nI_1 _) (by decide) (pm_c1b rfl) rfl ?_
                refine pm_goto (tgt := 121) hG dX12_person_140 rfl ?_
                refine pm_iloadi hG dX12_person_121 rfl ?_
                refine pm_bipush (v := nI 14) hG dX12_person_123 (by decide) ?_
                refine pm_icmpN_ge (tgt := 143) hG dX12_person_125 rfl (by omega) (by omega) (fun q => absurd q (by omega)) (fun _ => ?_)
                refine pm_aloadn hG dX12_person_128 rfl ?_
                refine pm_iloadi hG dX12_person_129 rfl ?_
                refine pm_iloadi hG dX12_person_131 rfl ?_
                refine pm_iconst (v := nI 0) hG dX12_person_133 (by decide) ?_
                refine pm_callV (As := [.int (nI kc2), .int (nI 13), .int (nI 0)]) (rest := []) hG hR dX12_person_134 (lkX12_97 _ rfl) okV_X12_sets rfl rfl (m_sets (d := 2) (e := 14 * kc2 + 123) (by omega) (by omega) (by omega)) rfl rfl hdd (Nat.le_refl _) (Nat.le_refl _) (by decide) (pm_kv (fun σ' cnt' hq => ?_))
                obtain ⟨rfl, rfl⟩ := hq
                obtain ⟨n_283, en_283⟩ : ∃ f : Nat → Int32, f = upd n_276 (14 * kc2 + 123) (nI 0) := ⟨_, rfl⟩
                rw [← en_283]
                have hnn_283 := KI.w en_283 hnn_276 (okv_f (show kd (14 * kc2 + 123) = (0, 0, false) from (kd_P (k := kc2) (c := 13) (by omega) (by omega) (by decide))))
                have hrn_283 := NRx.w en_283 hrn_276 (by rw [(show kd (14 * kc2 + 123) = (0, 0, false) from (kd_P (k := kc2) (c := 13) (by omega) (by omega) (by decide)))])
                have ksn_283 := KSh.w (h := 14 * kc2 + 110) en_283 ksn_276 (by unfold tS; omega)
                have e284 : n_283 0 = nI kc0 := by rw [en_283, pk_un (by omega)]; exact e277
                have e285 : n_283 8 = nI kc8 := by rw [en_283, pk_un (by omega)]; exact e278
                have e286 : n_283 2 = nI (kc2 + 1) := by rw [en_283, pk_un (by omega)]; exact e279
                have e287 : n_283 (14 * kc2 + 110) = nI 0 := by rw [en_283, pk_un (by omega)]; exact e280
                have e288 : n_283 (14 * kc2 + 111) = nI 0 := by rw [en_283, pk_un (by omega)]; exact e281
                have e289 : n_283 (14 * kc2 + 122) = nI 0 := by rw [en_283, pk_un (by omega)]; exact e282
                have e290 : n_283 (14 * kc2 + 123) = nI 0 := by rw [en_283, pk_us]
                refine pm_iincX (v := nI 14) (loc' := [some (.ref (B + 54)), some (.int za), some (.int zb), some (.int zc), some (.int zd), some (.int (nI 1)), some (.int (nI kc2)), some (.int (nI 14))]) hG dX12_person_137 rfl (nI_1 _) (by decide) (pm_c1b rfl) rfl ?_
                refine pm_goto (tgt := 121) hG dX12_person_140 rfl ?_
                refine pm_iloadi hG dX12_person_121 rfl ?_
                refine pm_bipush (v := nI 14) hG dX12_person_123 (by decide) ?_
                refine pm_icmpN_ge (tgt := 143) hG dX12_person_125 rfl (by omega) (by omega) (fun _ => ?_) (fun q => absurd q (by omega))
                refine pm_aloadn hG dX12_person_143 rfl ?_
                refine pm_iloadi hG dX12_person_144 rfl ?_
                refine pm_iconst (v := nI 0) hG dX12_person_146 (by decide) ?_
                refine pm_iloadn hG dX12_person_147 rfl ?_
                refine pm_top (v := nI k3) ek3 ?_
                refine pm_callV (As := [.int (nI kc2), .int (nI 0), .int (nI k3)]) (rest := []) hG hR dX12_person_148 (lkX12_97 _ rfl) okV_X12_sets rfl rfl (m_sets (d := 2) (e := 14 * kc2 + 110) (by omega) (by omega) (by omega)) rfl rfl hdd (Nat.le_refl _) (Nat.le_refl _) (by decide) (pm_kv (fun σ' cnt' hq => ?_))
                obtain ⟨rfl, rfl⟩ := hq
                obtain ⟨n_291, en_291⟩ : ∃ f : Nat → Int32, f = upd n_283 (14 * kc2 + 110) (nI k3) := ⟨_, rfl⟩
                rw [← en_291]
                have hnn_291 := KI.w en_291 hnn_283 (okv_f (show kd (14 * kc2 + 110) = (0, 0, false) from (kd_P (k := kc2) (c := 0) (by omega) (by omega) (by decide))))
                have hrn_291 := NRx.w en_291 hrn_283 (by rw [(show kd (14 * kc2 + 110) = (0, 0, false) from (kd_P (k := kc2) (c := 0) (by omega) (by omega) (by decide)))])
                have ksn_291 := KSh.w (h := 14 * kc2 + 110) en_291 ksn_283 (by unfold tS; omega)
                have e292 : n_291 0 = nI kc0 := by rw [en_291, pk_un (by omega)]; exact e284
                have e293 : n_291 8 = nI kc8 := by rw [en_291, pk_un (by omega)]; exact e285
                have e294 : n_291 2 = nI (kc2 + 1) := by rw [en_291, pk_un (by omega)]; exact e286
                have e295 : n_291 (14 * kc2 + 111) = nI 0 := by rw [en_291, pk_un (by omega)]; exact e288
                have e296 : n_291 (14 * kc2 + 122) = nI 0 := by rw [en_291, pk_un (by omega)]; exact e289
                have e297 : n_291 (14 * kc2 + 110) = nI k3 := by rw [en_291, pk_us]
                refine pm_aloadn hG dX12_person_151 rfl ?_
                refine pm_iloadi hG dX12_person_152 rfl ?_
                refine pm_iconst (v := nI 1) hG dX12_person_154 (by decide) ?_
                refine pm_iloadn hG dX12_person_155 rfl ?_
                refine pm_callV (As := [.int (nI kc2), .int (nI 1), .int zb]) (rest := []) hG hR dX12_person_156 (lkX12_97 _ rfl) okV_X12_sets rfl rfl (m_sets (d := 2) (e := 14 * kc2 + 111) (by omega) (by omega) (by omega)) rfl rfl hdd (Nat.le_refl _) (Nat.le_refl _) (by decide) (pm_kv (fun σ' cnt' hq => ?_))
                obtain ⟨rfl, rfl⟩ := hq
                obtain ⟨n_298, en_298⟩ : ∃ f : Nat → Int32, f = upd n_291 (14 * kc2 + 111) zb := ⟨_, rfl⟩
                rw [← en_298]
                have hnn_298 := KI.w en_298 hnn_291 (okv_f (show kd (14 * kc2 + 111) = (0, 0, false) from (kd_P (k := kc2) (c := 1) (by omega) (by omega) (by decide))))
                have hrn_298 := NRx.w en_298 hrn_291 (by rw [(show kd (14 * kc2 + 111) = (0, 0, false) from (kd_P (k := kc2) (c := 1) (by omega) (by omega) (by decide)))])
                have ksn_298 := KSh.w (h := 14 * kc2 + 110) en_298 ksn_291 (by unfold tS; omega)
                have e299 : n_298 0 = nI kc0 := by rw [en_298, pk_un (by omega)]; exact e292
                have e300 : n_298 8 = nI kc8 := by rw [en_298, pk_un (by omega)]; exact e293
                have e301 : n_298 2 = nI (kc2 + 1) := by rw [en_298, pk_un (by omega)]; exact e294
                have e302 : n_298 (14 * kc2 + 122) = nI 0 := by rw [en_298, pk_un (by omega)]; exact e296
                have e303 : n_298 (14 * kc2 + 110) = nI k3 := by rw [en_298, pk_un (by omega)]; exact e297
                have e304 : n_298 (14 * kc2 + 111) = zb := by rw [en_298, pk_us]
                refine pm_aloadn hG dX12_person_159 rfl ?_
                refine pm_iloadi hG dX12_person_160 rfl ?_
                refine pm_iconst (v := nI 2) hG dX12_person_162 (by decide) ?_
                refine pm_iloadn hG dX12_person_163 rfl ?_
                refine pm_top (v := nI k9) ek9 ?_
                refine pm_bipush (v := nI 100) hG dX12_person_164 (by decide) ?_
                refine pm_idivN hG dX12_person_166 (by omega) (by decide) (by decide) ?_
                refine pm_iconst (v := nI 1) hG dX12_person_167 (by decide) ?_
                refine pm_isub hG dX12_person_168 ?_
                refine pm_top (v := (-1)) ek11 ?_
                refine pm_callV (As := [.int (nI kc2), .int (nI 2), .int (-1)]) (rest := []) hG hR dX12_person_169 (lkX12_97 _ rfl) okV_X12_sets rfl rfl (m_sets (d := 2) (e := 14 * kc2 + 112) (by omega) (by omega) (by omega)) rfl rfl hdd (Nat.le_refl _) (Nat.le_refl _) (by decide) (pm_kv (fun σ' cnt' hq => ?_))
                obtain ⟨rfl, rfl⟩ := hq
                obtain ⟨n_305, en_305⟩ : ∃ f : Nat → Int32, f = upd n_298 (14 * kc2 + 112) (-1) := ⟨_, rfl⟩
                rw [← en_305]
                have hnn_305 := KI.w en_305 hnn_298 (okv_m (show kd (14 * kc2 + 112) = (2, 20, false) from (kd_P (k := kc2) (c := 2) (by omega) (by omega) (by decide))))
                have hrn_305 := NRx.w en_305 hrn_298 (by rw [(show kd (14 * kc2 + 112) = (2, 20, false) from (kd_P (k := kc2) (c := 2) (by omega) (by omega) (by decide)))])
                have ksn_305 := KSh.w (h := 14 * kc2 + 110) en_305 ksn_298 (by unfold tS; omega)
                have e306 : n_305 0 = nI kc0 := by rw [en_305, pk_un (by omega)]; exact e299
                have e307 : n_305 8 = nI kc8 := by rw [en_305, pk_un (by omega)]; exact e300
                have e308 : n_305 2 = nI (kc2 + 1) := by rw [en_305, pk_un (by omega)]; exact e301
                have e309 : n_305 (14 * kc2 + 122) = nI 0 := by rw [en_305, pk_un (by omega)]; exact e302
                have e310 : n_305 (14 * kc2 + 110) = nI k3 := by rw [en_305, pk_un (by omega)]; exact e303
                have e311 : n_305 (14 * kc2 + 111) = zb := by rw [en_305, pk_un (by omega)]; exact e304
                have e312 : n_305 (14 * kc2 + 112) = (-1) := by rw [en_305, pk_us]
                refine pm_aloadn hG dX12_person_172 rfl ?_
                refine pm_iloadi hG dX12_person_173 rfl ?_
                refine pm_iconst (v := nI 3) hG dX12_person_175 (by decide) ?_
                refine pm_iloadn hG dX12_person_176 rfl ?_
                refine pm_top (v := nI k9) ek9 ?_
                refine pm_bipush (v := nI 100) hG dX12_person_177 (by decide) ?_
                refine pm_iremM hG dX12_person_179 (by omega) (by decide) (by decide) ?_
                refine pm_iconst (v := nI 1) hG dX12_person_180 (by decide) ?_
                refine pm_isub hG dX12_person_181 ?_
                refine pm_top (v := nI k15) ek15 ?_
                refine pm_callV (As := [.int (nI kc2), .int (nI 3), .int (nI k15)]) (rest := []) hG hR dX12_person_182 (lkX12_97 _ rfl) okV_X12_sets rfl rfl (m_sets (d := 2) (e := 14 * kc2 + 113) (by omega) (by omega) (by omega)) rfl rfl hdd (Nat.le_refl _) (Nat.le_refl _) (by decide) (pm_kv (fun σ' cnt' hq => ?_))
                obtain ⟨rfl, rfl⟩ := hq
                obtain ⟨n_313, en_313⟩ : ∃ f : Nat → Int32, f = upd n_305 (14 * kc2 + 113) (nI k15) := ⟨_, rfl⟩
                rw [← en_313]
                have hnn_313 := KI.w en_313 hnn_305 (okv_o (show kd (14 * kc2 + 113) = (2, 20, false) from (kd_P (k := kc2) (c := 3) (by omega) (by omega) (by decide))) (by omega))
                have hrn_313 := NRx.w en_313 hrn_305 (by rw [(show kd (14 * kc2 + 113) = (2, 20, false) from (kd_P (k := kc2) (c := 3) (by omega) (by omega) (by decide)))])
                have ksn_313 := KSh.w (h := 14 * kc2 + 110) en_313 ksn_305 (by unfold tS; omega)
                have e314 : n_313 0 = nI kc0 := by rw [en_313, pk_un (by omega)]; exact e306
                have e315 : n_313 8 = nI kc8 := by rw [en_313, pk_un (by omega)]; exact e307
                have e316 : n_313 2 = nI (kc2 + 1) := by rw [en_313, pk_un (by omega)]; exact e308
                have e317 : n_313 (14 * kc2 + 122) = nI 0 := by rw [en_313, pk_un (by omega)]; exact e309
                have e318 : n_313 (14 * kc2 + 110) = nI k3 := by rw [en_313, pk_un (by omega)]; exact e310
                have e319 : n_313 (14 * kc2 + 111) = zb := by rw [en_313, pk_un (by omega)]; exact e311
                have e320 : n_313 (14 * kc2 + 113) = nI k15 := by rw [en_313, pk_us]
                refine pm_aloadn hG dX12_person_185 rfl ?_
                refine pm_iloadi hG dX12_person_186 rfl ?_
                refine pm_iconst (v := nI 4) hG dX12_person_188 (by decide) ?_
                refine pm_iloadi hG dX12_person_189 rfl ?_
                refine pm_top (v := nI k189) ek189 ?_
                refine pm_callV (As := [.int (nI kc2), .int (nI 4), .int (nI k189)]) (rest := []) hG hR dX12_person_191 (lkX12_97 _ rfl) okV_X12_sets rfl rfl (m_sets (d := 2) (e := 14 * kc2 + 114) (by omega) (by omega) (by omega)) rfl rfl hdd (Nat.le_refl _) (Nat.le_refl _) (by decide) (pm_kv (fun σ' cnt' hq => ?_))
                obtain ⟨rfl, rfl⟩ := hq
                obtain ⟨n_321, en_321⟩ : ∃ f : Nat → Int32, f = upd n_313 (14 * kc2 + 114) (nI k189) := ⟨_, rfl⟩
                rw [← en_321]
                have hnn_321 := KI.w en_321 hnn_313 (okv_o (show kd (14 * kc2 + 114) = (2, 10, false) from (kd_P (k := kc2) (c := 4) (by omega) (by omega) (by decide))) (by omega))
                have hrn_321 := NRx.w en_321 hrn_313 (by rw [(show kd (14 * kc2 + 114) = (2, 10, false) from (kd_P (k := kc2) (c := 4) (by omega) (by omega) (by decide)))])
                have ksn_321 := KSh.w (h := 14 * kc2 + 110) en_321 ksn_313 (by unfold tS; omega)
                have e322 : n_321 0 = nI kc0 := by rw [en_321, pk_un (by omega)]; exact e314
                have e323 : n_321 8 = nI kc8 := by rw [en_321, pk_un (by omega)]; exact e315
                have e324 : n_321 2 = nI (kc2 + 1) := by rw [en_321, pk_un (by omega)]; exact e316
                have e325 : n_321 (14 * kc2 + 122) = nI 0 := by rw [en_321, pk_un (by omega)]; exact e317
                have e326 : n_321 (14 * kc2 + 110) = nI k3 := by rw [en_321, pk_un (by omega)]; exact e318
                have e327 : n_321 (14 * kc2 + 111) = zb := by rw [en_321, pk_un (by omega)]; exact e319
                have e328 : n_321 (14 * kc2 + 114) = nI k189 := by rw [en_321, pk_us]
                refine pm_aloadn hG dX12_person_194 rfl ?_
                refine pm_iloadi hG dX12_person_195 rfl ?_
                refine pm_bipush (v := nI 9) hG dX12_person_197 (by decide) ?_
                refine pm_iconst (v := (-1)) hG dX12_person_199 (by decide) ?_
                refine pm_callV (As := [.int (nI kc2), .int (nI 9), .int (-1)]) (rest := []) hG hR dX12_person_200 (lkX12_97 _ rfl) okV_X12_sets rfl rfl (m_sets (d := 2) (e := 14 * kc2 + 119) (by omega) (by omega) (by omega)) rfl rfl hdd (Nat.le_refl _) (Nat.le_refl _) (by decide) (pm_kv (fun σ' cnt' hq => ?_))
                obtain ⟨rfl, rfl⟩ := hq
                obtain ⟨n_329, en_329⟩ : ∃ f : Nat → Int32, f = upd n_321 (14 * kc2 + 119) (-1) := ⟨_, rfl⟩
                rw [← en_329]
                have hnn_329 := KI.w en_329 hnn_321 (okv_m (show kd (14 * kc2 + 119) = (2, 2001, false) from (kd_P (k := kc2) (c := 9) (by omega) (by omega) (by decide))))
                have hrn_329 := NRx.w en_329 hrn_321 (by rw [(show kd (14 * kc2 + 119) = (2, 2001, false) from (kd_P (k := kc2) (c := 9) (by omega) (by omega) (by decide)))])
                have ksn_329 := KSh.w (h := 14 * kc2 + 110) en_329 ksn_321 (by unfold tS; omega)
                have e330 : n_329 0 = nI kc0 := by rw [en_329, pk_un (by omega)]; exact e322
                have e331 : n_329 8 = nI kc8 := by rw [en_329, pk_un (by omega)]; exact e323
                have e332 : n_329 2 = nI (kc2 + 1) := by rw [en_329, pk_un (by omega)]; exact e324
                have e333 : n_329 (14 * kc2 + 122) = nI 0 := by rw [en_329, pk_un (by omega)]; exact e325
                have e334 : n_329 (14 * kc2 + 110) = nI k3 := by rw [en_329, pk_un (by omega)]; exact e326
                have e335 : n_329 (14 * kc2 + 111) = zb := by rw [en_329, pk_un (by omega)]; exact e327
                have e336 : n_329 (14 * kc2 + 119) = (-1) := by rw [en_329, pk_us]
                refine pm_aloadn hG dX12_person_203 rfl ?_
                refine pm_iloadi hG dX12_person_204 rfl ?_
                refine pm_bipush (v := nI 10) hG dX12_person_206 (by decide) ?_
                refine pm_iconst (v := (-1)) hG dX12_person_208 (by decide) ?_
                refine pm_callV (As := [.int (nI kc2), .int (nI 10), .int (-1)]) (rest := []) hG hR dX12_person_209 (lkX12_97 _ rfl) okV_X12_sets rfl rfl (m_sets (d := 2) (e := 14 * kc2 + 120) (by omega) (by omega) (by omega)) rfl rfl hdd (Nat.le_refl _) (Nat.le_refl _) (by decide) (pm_kv (fun σ' cnt' hq => ?_))
                obtain ⟨rfl, rfl⟩ := hq
                obtain ⟨n_337, en_337⟩ : ∃ f : Nat → Int32, f = upd n_329 (14 * kc2 + 120) (-1) := ⟨_, rfl⟩
                rw [← en_337]
                have hnn_337 := KI.w en_337 hnn_329 (okv_f (show kd (14 * kc2 + 120) = (0, 0, false) from (kd_P (k := kc2) (c := 10) (by omega) (by omega) (by decide))))
                have hrn_337 := NRx.w en_337 hrn_329 (by rw [(show kd (14 * kc2 + 120) = (0, 0, false) from (kd_P (k := kc2) (c := 10) (by omega) (by omega) (by decide)))])
                have ksn_337 := KSh.w (h := 14 * kc2 + 110) en_337 ksn_329 (by unfold tS; omega)
                have e338 : n_337 0 = nI kc0 := by rw [en_337, pk_un (by omega)]; exact e330
                have e339 : n_337 8 = nI kc8 := by rw [en_337, pk_un (by omega)]; exact e331
                have e340 : n_337 2 = nI (kc2 + 1) := by rw [en_337, pk_un (by omega)]; exact e332
                have e341 : n_337 (14 * kc2 + 122) = nI 0 := by rw [en_337, pk_un (by omega)]; exact e333
                have e342 : n_337 (14 * kc2 + 110) = nI k3 := by rw [en_337, pk_un (by omega)]; exact e334
                have e343 : n_337 (14 * kc2 + 111) = zb := by rw [en_337, pk_un (by omega)]; exact e335
                have e344 : n_337 (14 * kc2 + 120) = (-1) := by rw [en_337, pk_us]
                refine pm_aloadn hG dX12_person_212 rfl ?_
                refine pm_iloadi hG dX12_person_213 rfl ?_
                refine pm_bipush (v := nI 12) hG dX12_person_215 (by decide) ?_
                refine pm_iconst (v := nI 1) hG dX12_person_217 (by decide) ?_
                refine pm_callV (As := [.int (nI kc2), .int (nI 12), .int (nI 1)]) (rest := []) hG hR dX12_person_218 (lkX12_97 _ rfl) okV_X12_sets rfl rfl (m_sets (d := 2) (e := 14 * kc2 + 122) (by omega) (by omega) (by omega)) rfl rfl hdd (Nat.le_refl _) (Nat.le_refl _) (by decide) (pm_kv (fun σ' cnt' hq => ?_))
                obtain ⟨rfl, rfl⟩ := hq
                obtain ⟨n_345, en_345⟩ : ∃ f : Nat → Int32, f = upd n_337 (14 * kc2 + 122) (nI 1) := ⟨_, rfl⟩
                rw [← en_345]
                have hnn_345 := KI.w en_345 hnn_337 (okv_f (show kd (14 * kc2 + 122) = (0, 0, false) from (kd_P (k := kc2) (c := 12) (by omega) (by omega) (by decide))))
                have hrn_345 := NRx.w en_345 hrn_337 (by rw [(show kd (14 * kc2 + 122) = (0, 0, false) from (kd_P (k := kc2) (c := 12) (by omega) (by omega) (by decide)))])
                have ksn_345 := KSh.w (h := 14 * kc2 + 110) en_345 ksn_337 (by unfold tS; omega)
                have e346 : n_345 0 = nI kc0 := by rw [en_345, pk_un (by omega)]; exact e338
                have e347 : n_345 8 = nI kc8 := by rw [en_345, pk_un (by omega)]; exact e339
                have e348 : n_345 2 = nI (kc2 + 1) := by rw [en_345, pk_un (by omega)]; exact e340
                have e349 : n_345 (14 * kc2 + 110) = nI k3 := by rw [en_345, pk_un (by omega)]; exact e342
                have e350 : n_345 (14 * kc2 + 111) = zb := by rw [en_345, pk_un (by omega)]; exact e343
                have e351 : n_345 (14 * kc2 + 122) = nI 1 := by rw [en_345, pk_us]
                refine pm_iloadi hG dX12_person_221 rfl ?_
                exact pm_iret hG hF dX12_person_223 rfl (Nat.le_refl _) (Nat.le_refl _) ⟨_, rfl, ⟨_, _, _, rfl, hnn_345, hrn_345, e346.trans ekc0.symm, e347.trans ekc8.symm, ⟨(vE_y (T := pN n) (d := n 8) (t := n 0) (p := n 2) (a := za) (b := zb) (c := zc) (e := zd) (not6 (rg_in (a := 0) (b := 1) (by omega) ek3 (by omega) (by omega)) (fun q => q.elim ac5 (by rw [ekc8]; exact bc5)) (by rw [ek9]; exact nI_pos (by omega)) (nt_in ekc0 (by omega) ek189 (by omega)) (fun q => q (by rw [dv1 ek9 (by omega)]; exact pk11)) (fun q => q (by rw [rm1 ek9 (by omega)]; exact pk15))) ekc2 (by omega)).1, e348.trans (vE_y (T := pN n) (d := n 8) (t := n 0) (p := n 2) (a := za) (b := zb) (c := zc) (e := zd) (not6 (rg_in (a := 0) (b := 1) (by omega) ek3 (by omega) (by omega)) (fun q => q.elim ac5 (by rw [ekc8]; exact bc5)) (by rw [ek9]; exact nI_pos (by omega)) (nt_in ekc0 (by omega) ek189 (by omega)) (fun q => q (by rw [dv1 ek9 (by omega)]; exact pk11)) (fun q => q (by rw [rm1 ek9 (by omega)]; exact pk15))) ekc2 (by omega)).2.1, fun j hj => by rw [(vE_y (T := pN n) (d := n 8) (t := n 0) (p := n 2) (a := za) (b := zb) (c := zc) (e := zd) (not6 (rg_in (a := 0) (b := 1) (by omega) ek3 (by omega) (by omega)) (fun q => q.elim ac5 (by rw [ekc8]; exact bc5)) (by rw [ek9]; exact nI_pos (by omega)) (nt_in ekc0 (by omega) ek189 (by omega)) (fun q => q (by rw [dv1 ek9 (by omega)]; exact pk11)) (fun q => q (by rw [rm1 ek9 (by omega)]; exact pk15))) ekc2 (by omega)).2.2]; exact tP_ok ksn_345 (e349.trans ek3.symm) e350 e351 (by omega) j hj⟩⟩, rfl⟩
              · refine pm_aloadn hG dX12_person_102 rfl ?_
                refine pm_iconst (v := nI 4) hG dX12_person_103 (by decide) ?_
                refine pm_callV (As := [.int (nI 4)]) (rest := []) hG hR dX12_person_104 (lkX12_80 _ rfl) okV_X12_finds rfl rfl (m_finds (d := 2) (by decide) hn hz (by omega)) rfl rfl hdd (Nat.le_refl _) (Nat.le_refl _) (by decide) (pm_ki (fun v352 σ' cnt' hq => ?_))
                obtain ⟨⟨I353, A353, rfl⟩, rfl, fv352⟩ := hq
                exact pm_iret hG hF dX12_person_107 rfl (Nat.le_refl _) (Nat.le_refl _) ⟨_, rfl, ⟨_, _, _, rfl, hn, hr, ekc0.trans ekc0.symm, ekc8.trans ekc8.symm, ⟨fv352.trans ((by decide : (-1000000 : Int32) - nI 4 = -1000004).trans (vE_f (T := pN n) (d := n 8) (t := n 0) (p := n 2) (a := za) (b := zb) (c := zc) (e := zd) (not6 (rg_in (a := 0) (b := 1) (by omega) ek3 (by omega) (by omega)) (fun q => q.elim ac5 (by rw [ekc8]; exact bc5)) (by rw [ek9]; exact nI_pos (by omega)) (nt_in ekc0 (by omega) ek189 (by omega)) (fun q => q (by rw [dv1 ek9 (by omega)]; exact pk11)) (fun q => q (by rw [rm1 ek9 (by omega)]; exact pk15))) (ekc2.trans (congrArg nI (by omega)))).1), (vE_f (T := pN n) (d := n 8) (t := n 0) (p := n 2) (a := za) (b := zb) (c := zc) (e := zd) (not6 (rg_in (a := 0) (b := 1) (by omega) ek3 (by omega) (by omega)) (fun q => q.elim ac5 (by rw [ekc8]; exact bc5)) (by rw [ek9]; exact nI_pos (by omega)) (nt_in ekc0 (by omega) ek189 (by omega)) (fun q => q (by rw [dv1 ek9 (by omega)]; exact pk11)) (fun q => q (by rw [rm1 ek9 (by omega)]; exact pk15))) (ekc2.trans (congrArg nI (by omega)))).2.1, fun j _ => by rw [(vE_f (T := pN n) (d := n 8) (t := n 0) (p := n 2) (a := za) (b := zb) (c := zc) (e := zd) (not6 (rg_in (a := 0) (b := 1) (by omega) ek3 (by omega) (by omega)) (fun q => q.elim ac5 (by rw [ekc8]; exact bc5)) (by rw [ek9]; exact nI_pos (by omega)) (nt_in ekc0 (by omega) ek189 (by omega)) (fun q => q (by rw [dv1 ek9 (by omega)]; exact pk11)) (fun q => q (by rw [rm1 ek9 (by omega)]; exact pk15))) (ekc2.trans (congrArg nI (by omega)))).2.2]⟩⟩, rfl⟩
            · refine pm_ifN_eq (tgt := 73) hG dX12_person_66 rfl (by omega) (fun _ => ?_) (fun q => absurd q (by omega))
              refine pm_iconst (v := nI 0) hG dX12_person_73 (by decide) ?_
              refine pm_istoreXi (loc' := [some (.ref (B + 54)), some (.int za), some (.int zb), some (.int zc), some (.int zd), some (.int (nI 0)), none, none]) hG dX12_person_74 (by decide) (pm_c1b rfl) rfl ?_
              refine pm_iloadi hG dX12_person_76 rfl ?_
              refine pm_ifN_ne (tgt := 87) hG dX12_person_78 rfl (by omega) (fun q => absurd q (by omega)) (fun _ => ?_)
              refine pm_aloadn hG dX12_person_81 rfl ?_
              refine pm_iconst (v := nI 1) hG dX12_person_82 (by decide) ?_
              refine pm_callV (As := [.int (nI 1)]) (rest := []) hG hR dX12_person_83 (lkX12_80 _ rfl) okV_X12_finds rfl rfl (m_finds (d := 2) (by decide) hn hz (by omega)) rfl rfl hdd (Nat.le_refl _) (Nat.le_refl _) (by decide) (pm_ki (fun v354 σ' cnt' hq => ?_))
              obtain ⟨⟨I355, A355, rfl⟩, rfl, fv354⟩ := hq
              exact pm_iret hG hF dX12_person_86 rfl (Nat.le_refl _) (Nat.le_refl _) ⟨_, rfl, ⟨_, _, _, rfl, hn, hr, ekc0.trans ekc0.symm, ekc8.trans ekc8.symm, ⟨fv354.trans ((by decide : (-1000000 : Int32) - nI 1 = -1000001).trans (vE_n (T := pN n) (d := n 8) (t := n 0) (p := n 2) (a := za) (b := zb) (c := zc) (e := zd) (Or.inr (Or.inr (Or.inr (Or.inl (nt_out ekc0 (by omega) ntk189)))))).1), (vE_n (T := pN n) (d := n 8) (t := n 0) (p := n 2) (a := za) (b := zb) (c := zc) (e := zd) (Or.inr (Or.inr (Or.inr (Or.inl (nt_out ekc0 (by omega) ntk189)))))).2.1, fun j _ => by rw [(vE_n (T := pN n) (d := n 8) (t := n 0) (p := n 2) (a := za) (b := zb) (c := zc) (e := zd) (Or.inr (Or.inr (Or.inr (Or.inl (nt_out ekc0 (by omega) ntk189)))))).2.2]⟩⟩, rfl⟩
        · refine pm_ifN_eq (tgt := 73) hG dX12_person_42 rfl (by omega) (fun q => absurd q (by omega)) (fun _ => ?_)
          refine pm_aloadn hG dX12_person_45 rfl ?_
          refine pm_iloadn hG dX12_person_46 rfl ?_
          refine pm_top (v := nI k9) ek9 ?_
          refine pm_bipush (v := nI 100) hG dX12_person_47 (by decide) ?_
          refine pm_iremM hG dX12_person_49 (by omega) (by decide) (by decide) ?_
          refine pm_iconst (v := nI 1) hG dX12_person_50 (by decide) ?_
          refine pm_isub hG dX12_person_51 ?_
          refine pm_iconst (v := nI 0) hG dX12_person_52 (by decide) ?_
          refine pm_iloadn hG dX12_person_53 rfl ?_
          refine pm_callV (As := [.int ((nI ((k9 % 100))) - (nI 1)), .int (nI 0), .int zb]) (rest := []) hG hR dX12_person_54 (lkX12_94 _ rfl) okV_X12_isParent rfl rfl (m_isParent (d := 2) (by decide) hn hz) rfl rfl hdd (Nat.le_refl _) (Nat.le_refl _) (by decide) (pm_ki (fun v356 σ' cnt' hq => ?_))
          obtain ⟨rfl, rfl, hq⟩ := hq
          rcases hq with ⟨rfl, pk357⟩ | ⟨rfl, pk357, ek357 | ⟨k357, hk357, ek357⟩⟩
          · refine pm_ifN_eq (tgt := 73) hG dX12_person_57 rfl (by omega) (fun _ => ?_) (fun q => absurd q (by omega))
            refine pm_iconst (v := nI 0) hG dX12_person_73 (by decide) ?_
            refine pm_istoreXi (loc' := [some (.ref (B + 54)), some (.int za), some (.int zb), some (.int zc), some (.int zd), some (.int (nI 0)), none, none]) hG dX12_person_74 (by decide) (pm_c1b rfl) rfl ?_
            refine pm_iloadi hG dX12_person_76 rfl ?_
            refine pm_ifN_ne (tgt := 87) hG dX12_person_78 rfl (by omega) (fun q => absurd q (by omega)) (fun _ => ?_)
            refine pm_aloadn hG dX12_person_81 rfl ?_
            refine pm_iconst (v := nI 1) hG dX12_person_82 (by decide) ?_
            refine pm_callV (As := [.int (nI 1)]) (rest := []) hG hR dX12_person_83 (lkX12_80 _ rfl) okV_X12_finds rfl rfl (m_finds (d := 2) (by decide) hn hz (by omega)) rfl rfl hdd (Nat.le_refl _) (Nat.le_refl _) (by decide) (pm_ki (fun v358 σ' cnt' hq => ?_))
            obtain ⟨⟨I359, A359, rfl⟩, rfl, fv358⟩ := hq
            exact pm_iret hG hF dX12_person_86 rfl (Nat.le_refl _) (Nat.le_refl _) ⟨_, rfl, ⟨_, _, _, rfl, hn, hr, ekc0.trans ekc0.symm, ekc8.trans ekc8.symm, ⟨fv358.trans ((by decide : (-1000000 : Int32) - nI 1 = -1000001).trans (vE_n (T := pN n) (d := n 8) (t := n 0) (p := n 2) (a := za) (b := zb) (c := zc) (e := zd) (Or.inr (Or.inr (Or.inr (Or.inr (Or.inr (by rw [rm1 ek9 (by omega)]; exact pk357))))))).1), (vE_n (T := pN n) (d := n 8) (t := n 0) (p := n 2) (a := za) (b := zb) (c := zc) (e := zd) (Or.inr (Or.inr (Or.inr (Or.inr (Or.inr (by rw [rm1 ek9 (by omega)]; exact pk357))))))).2.1, fun j _ => by rw [(vE_n (T := pN n) (d := n 8) (t := n 0) (p := n 2) (a := za) (b := zb) (c := zc) (e := zd) (Or.inr (Or.inr (Or.inr (Or.inr (Or.inr (by rw [rm1 ek9 (by omega)]; exact pk357))))))).2.2]⟩⟩, rfl⟩
          · refine pm_ifN_eq (tgt := 73) hG dX12_person_57 rfl (by omega) (fun q => absurd q (by omega)) (fun _ => ?_)
            refine pm_aloadn hG dX12_person_60 rfl ?_
            refine pm_iloadi hG dX12_person_61 rfl ?_
            refine pm_callV (As := [.int zd]) (rest := []) hG hR dX12_person_63 (lkX12_84 _ rfl) okV_X12_isTown rfl rfl (m_isTown (d := 2) (by decide) ekc0 (by omega)) rfl rfl hdd (Nat.le_refl _) (Nat.le_refl _) (by decide) (pm_ki (fun v360 σ' cnt' hq => ?_))
            obtain ⟨hq, rfl, rfl⟩ := hq
            rcases hq with ⟨rfl, k362, hk362, ek362⟩ | ⟨rfl, ntk362⟩
            · refine pm_ifN_eq (tgt := 73) hG dX12_person_66 rfl (by omega) (fun q => absurd q (by omega)) (fun _ => ?_)
              refine pm_iconst (v := nI 1) hG dX12_person_69 (by decide) ?_
              refine pm_goto (tgt := 74) hG dX12_person_70 rfl ?_
              refine pm_istoreXi (loc' := [some (.ref (B + 54)), some (.int za), some (.int zb), some (.int zc), some (.int zd), some (.int (nI 1)), none, none]) hG dX12_person_74 (by decide) (pm_c1b rfl) rfl ?_
              refine pm_iloadi hG dX12_person_76 rfl ?_
              refine pm_ifN_ne (tgt := 87) hG dX12_person_78 rfl (by omega) (fun _ => ?_) (fun q => absurd q (by omega))
              refine pm_aloadn hG dX12_person_87 rfl ?_
              refine pm_getf hG dX12_person_88 (flX12_7 _ rfl) rfl rfl ?_
              refine pm_iconst (v := nI 2) hG dX12_person_91 (by decide) ?_
              refine pm_ialdN hG dX12_person_92 rfl (by decide) (by omega) ?_
              refine pm_top (v := nI kc2) ekc2 ?_
              refine pm_istoreXi (loc' := [some (.ref (B + 54)), some (.int za), some (.int zb), some (.int zc), some (.int zd), some (.int (nI 1)), some (.int (nI kc2)), none]) hG dX12_person_93 (by decide) (pm_c1b rfl) rfl ?_
              refine pm_iloadi hG dX12_person_95 rfl ?_
              refine pm_bipush (v := nI 20) hG dX12_person_97 (by decide) ?_
              refine pm_icmpN_ne (tgt := 108) hG dX12_person_99 rfl (by omega) (by omega) (fun c363 => ?_) (fun c363 => ?_)
              · refine pm_aloadn hG dX12_person_108 rfl ?_
                refine pm_getf hG dX12_person_109 (flX12_7 _ rfl) rfl rfl ?_
                refine pm_iconst (v := nI 2) hG dX12_person_112 (by decide) ?_
                refine pm_dup2 hG dX12_person_113 rfl rfl ?_
                refine pm_ialdN hG dX12_person_114 rfl (by decide) (by omega) ?_
                refine pm_top (v := nI kc2) ekc2 ?_
                refine pm_iconst (v := nI 1) hG dX12_person_115 (by decide) ?_
                refine pm_iaddN (c := kc2 + 1) hG dX12_person_116 (by omega) ?_
                refine pm_iastN hG dX12_person_117 rfl (by decide) (by omega) ?_
                refine mdn_now (fun n_364 en_364 => ?_)
                have hnn_364 := KI.w en_364 hn (okv_n (show kd 2 = (1, 21, true) by decide) (by omega))
                have hrn_364 := NRx.pers en_364 hr ekc0 (by omega) ekc2 (by omega)
                have ksn_364 := KSh.w (h := 14 * kc2 + 110) en_364 KSh.rf (by unfold tS; omega)
                have e365 : n_364 0 = nI kc0 := by rw [en_364, pk_un (by omega)]; exact ekc0
                have e366 : n_364 8 = nI kc8 := by rw [en_364, pk_un (by omega)]; exact ekc8
                have e367 : n_364 2 = nI (kc2 + 1) := by rw [en_364, pk_us]
                refine pm_iconst (v := nI 0) hG dX12_person_118 (by decide) ?_
                refine pm_istoreXi (loc' := [some (.ref (B + 54)), some (.int za), some (.int zb), some (.int zc), some (.int zd), some (.int (nI 1)), some (.int (nI kc2)), some (.int (nI 0))]) hG dX12_person_119 (by decide) (pm_c1b rfl) rfl ?_
                refine pm_iloadi hG dX12_person_121 rfl ?_
                refine pm_bipush (v := nI 14) hG dX12_person_123 (by decide) ?_
                refine pm_icmpN_ge (tgt := 143) hG dX12_person_125 rfl (by omega) (by omega) (fun q => absurd q (by omega)) (fun _ => ?_)
                refine pm_aloadn hG dX12_person_128 rfl ?_
                refine pm_iloadi hG dX12_person_129 rfl ?_
                refine pm_iloadi hG dX12_person_131 rfl ?_
                refine pm_iconst (v := nI 0) hG dX12_person_133 (by decide) ?_
                refine pm_callV (As := [.int (nI kc2), .int (nI 0), .int (nI 0)]) (rest := []) hG hR dX12_person_134 (lkX12_97 _ rfl) okV_X12_sets rfl rfl (m_sets (d := 2) (e := 14 * kc2 + 110) (by omega) (by omega) (by omega)) rfl rfl hdd (Nat.le_refl _) (Nat.le_refl _) (by decide) (pm_kv (fun σ' cnt' hq => ?_))
                obtain ⟨rfl, rfl⟩ := hq
                obtain ⟨n_368, en_368⟩ : ∃ f : Nat → Int32, f = upd n_364 (14 * kc2 + 110) (nI 0) := ⟨_, rfl⟩
                rw [← en_368]
                have hnn_368 := KI.w en_368 hnn_364 (okv_f (show kd (14 * kc2 + 110) = (0, 0, false) from (kd_P (k := kc2) (c := 0) (by omega) (by omega) (by decide))))
                have hrn_368 := NRx.w en_368 hrn_364 (by rw [(show kd (14 * kc2 + 110) = (0, 0, false) from (kd_P (k := kc2) (c := 0) (by omega) (by omega) (by decide)))])
                have ksn_368 := KSh.w (h := 14 * kc2 + 110) en_368 ksn_364 (by unfold tS; omega)
                have e369 : n_368 0 = nI kc0 := by rw [en_368, pk_un (by omega)]; exact e365
                have e370 : n_368 8 = nI kc8 := by rw [en_368, pk_un (by omega)]; exact e366
                have e371 : n_368 2 = nI (kc2 + 1) := by rw [en_368, pk_un (by omega)]; exact e367
                have e372 : n_368 (14 * kc2 + 110) = nI 0 := by rw [en_368, pk_us]
                refine pm_iincX (v := nI 1) (loc' := [some (.ref (B + 54)), some (.int za), some (.int zb), some (.int zc), some (.int zd), some (.int (nI 1)), some (.int (nI kc2)), some (.int (nI 1))]) hG dX12_person_137 rfl (nI_1 _) (by decide) (pm_c1b rfl) rfl ?_
                refine pm_goto (tgt := 121) hG dX12_person_140 rfl ?_
                refine pm_iloadi hG dX12_person_121 rfl ?_
                refine pm_bipush (v := nI 14) hG dX12_person_123 (by decide) ?_
                refine pm_icmpN_ge (tgt := 143) hG dX12_person_125 rfl (by omega) (by omega) (fun q => absurd q (by omega)) (fun _ => ?_)
                refine pm_aloadn hG dX12_person_128 rfl ?_
                refine pm_iloadi hG dX12_person_129 rfl ?_
                refine pm_iloadi hG dX12_person_131 rfl ?_
                refine pm_iconst (v := nI 0) hG dX12_person_133 (by decide) ?_
                refine pm_callV (As := [.int (nI kc2), .int (nI 1), .int (nI 0)]) (rest := []) hG hR dX12_person_134 (lkX12_97 _ rfl) okV_X12_sets rfl rfl (m_sets (d := 2) (e := 14 * kc2 + 111) (by omega) (by omega) (by omega)) rfl rfl hdd (Nat.le_refl _) (Nat.le_refl _) (by decide) (pm_kv (fun σ' cnt' hq => ?_))
                obtain ⟨rfl, rfl⟩ := hq
                obtain ⟨n_373, en_373⟩ : ∃ f : Nat → Int32, f = upd n_368 (14 * kc2 + 111) (nI 0) := ⟨_, rfl⟩
                rw [← en_373]
                have hnn_373 := KI.w en_373 hnn_368 (okv_f (show kd (14 * kc2 + 111) = (0, 0, false) from (kd_P (k := kc2) (c := 1) (by omega) (by omega) (by decide))))
                have hrn_373 := NRx.w en_373 hrn_368 (by rw [(show kd (14 * kc2 + 111) = (0, 0, false) from (kd_P (k := kc2) (c := 1) (by omega) (by omega) (by decide)))])
                have ksn_373 := KSh.w (h := 14 * kc2 + 110) en_373 ksn_368 (by unfold tS; omega)
                have e374 : n_373 0 = nI kc0 := by rw [en_373, pk_un (by omega)]; exact e369
                have e375 : n_373 8 = nI kc8 := by rw [en_373, pk_un (by omega)]; exact e370
                have e376 : n_373 2 = nI (kc2 + 1) := by rw [en_373, pk_un (by omega)]; exact e371
                have e377 : n_373 (14 * kc2 + 110) = nI 0 := by rw [en_373, pk_un (by omega)]; exact e372
                have e378 : n_373 (14 * kc2 + 111) = nI 0 := by rw [en_373, pk_us]
                refine pm_iincX (v := nI 2) (loc' := [some (.ref (B + 54)), some (.int za), some (.int zb), some (.int zc), some (.int zd), some (.int (nI 1)), some (.int (nI kc2)), some (.int (nI 2))]) hG dX12_person_137 rfl (nI_1 _) (by decide) (pm_c1b rfl) rfl ?_
                refine pm_goto (tgt := 121) hG dX12_person_140 rfl ?_
                refine pm_iloadi hG dX12_person_121 rfl ?_
                refine pm_bipush (v := nI 14) hG dX12_person_123 (by decide) ?_
                refine pm_icmpN_ge (tgt := 143) hG dX12_person_125 rfl (by omega) (by omega) (fun q => absurd q (by omega)) (fun _ => ?_)
                refine pm_aloadn hG dX12_person_128 rfl ?_
                refine pm_iloadi hG dX12_person_129 rfl ?_
                refine pm_iloadi hG dX12_person_131 rfl ?_
                refine pm_iconst (v := nI 0) hG dX12_person_133 (by decide) ?_
                refine pm_callV (As := [.int (nI kc2), .int (nI 2), .int (nI 0)]) (rest := []) hG hR dX12_person_134 (lkX12_97 _ rfl) okV_X12_sets rfl rfl (m_sets (d := 2) (e := 14 * kc2 + 112) (by omega) (by omega) (by omega)) rfl rfl hdd (Nat.le_refl _) (Nat.le_refl _) (by decide) (pm_kv (fun σ' cnt' hq => ?_))
                obtain ⟨rfl, rfl⟩ := hq
                obtain ⟨n_379, en_379⟩ : ∃ f : Nat → Int32, f = upd n_373 (14 * kc2 + 112) (nI 0) := ⟨_, rfl⟩
                rw [← en_379]
                have hnn_379 := KI.w en_379 hnn_373 (okv_o (show kd (14 * kc2 + 112) = (2, 20, false) from (kd_P (k := kc2) (c := 2) (by omega) (by omega) (by decide))) (by omega))
                have hrn_379 := NRx.w en_379 hrn_373 (by rw [(show kd (14 * kc2 + 112) = (2, 20, false) from (kd_P (k := kc2) (c := 2) (by omega) (by omega) (by decide)))])
                have ksn_379 := KSh.w (h := 14 * kc2 + 110) en_379 ksn_373 (by unfold tS; omega)
                have e380 : n_379 0 = nI kc0 := by rw [en_379, pk_un (by omega)]; exact e374
                have e381 : n_379 8 = nI kc8 := by rw [en_379, pk_un (by omega)]; exact e375
                have e382 : n_379 2 = nI (kc2 + 1) := by rw [en_379, pk_un (by omega)]; exact e376
                have e383 : n_379 (14 * kc2 + 110) = nI 0 := by rw [en_379, pk_un (by omega)]; exact e377
                have e384 : n_379 (14 * kc2 + 111) = nI 0 := by rw [en_379, pk_un (by omega)]; exact e378
                have e385 : n_379 (14 * kc2 + 112) = nI 0 := by rw [en_379, pk_us]
                refine pm_iincX (v := nI 3) (loc' := [some (.ref (B + 54)), some (.int za), some (.int zb), some (.int zc), some (.int zd), some (.int (nI 1)), some (.int (nI kc2)), some (.int (nI 3))]) hG dX12_person_137 rfl (nI_1 _) (by decide) (pm_c1b rfl) rfl ?_
                refine pm_goto (tgt := 121) hG dX12_person_140 rfl ?_
                refine pm_iloadi hG dX12_person_121 rfl ?_
                refine pm_bipush (v := nI 14) hG dX12_person_123 (by decide) ?_
                refine pm_icmpN_ge (tgt := 143) hG dX12_person_125 rfl (by omega) (by omega) (fun q => absurd q (by omega)) (fun _ => ?_)
                refine pm_aloadn hG dX12_person_128 rfl ?_
                refine pm_iloadi hG dX12_person_129 rfl ?_
                refine pm_iloadi hG dX12_person_131 rfl ?_
                refine pm_iconst (v := nI 0) hG dX12_person_133 (by decide) ?_
                refine pm_callV (As := [.int (nI kc2), .int (nI 3), .int (nI 0)]) (rest := []) hG hR dX12_person_134 (lkX12_97 _ rfl) okV_X12_sets rfl rfl (m_sets (d := 2) (e := 14 * kc2 + 113) (by omega) (by omega) (by omega)) rfl rfl hdd (Nat.le_refl _) (Nat.le_refl _) (by decide) (pm_kv (fun σ' cnt' hq => ?_))
                obtain ⟨rfl, rfl⟩ := hq
                obtain ⟨n_386, en_386⟩ : ∃ f : Nat → Int32, f = upd n_379 (14 * kc2 + 113) (nI 0) := ⟨_, rfl⟩
                rw [← en_386]
                have hnn_386 := KI.w en_386 hnn_379 (okv_o (show kd (14 * kc2 + 113) = (2, 20, false) from (kd_P (k := kc2) (c := 3) (by omega) (by omega) (by decide))) (by omega))
                have hrn_386 := NRx.w en_386 hrn_379 (by rw [(show kd (14 * kc2 + 113) = (2, 20, false) from (kd_P (k := kc2) (c := 3) (by omega) (by omega) (by decide)))])
                have ksn_386 := KSh.w (h := 14 * kc2 + 110) en_386 ksn_379 (by unfold tS; omega)
                have e387 : n_386 0 = nI kc0 := by rw [en_386, pk_un (by omega)]; exact e380
                have e388 : n_386 8 = nI kc8 := by rw [en_386, pk_un (by omega)]; exact e381
                have e389 : n_386 2 = nI (kc2 + 1) := by rw [en_386, pk_un (by omega)]; exact e382
                have e390 : n_386 (14 * kc2 + 110) = nI 0 := by rw [en_386, pk_un (by omega)]; exact e383
                have e391 : n_386 (14 * kc2 + 111) = nI 0 := by rw [en_386, pk_un (by omega)]; exact e384
                have e392 : n_386 (14 * kc2 + 113) = nI 0 := by rw [en_386, pk_us]
                refine pm_iincX (v := nI 4) (loc' := [some (.ref (B + 54)), some (.int za), some (.int zb), some (.int zc), some (.int zd), some (.int (nI 1)), some (.int (nI kc2)), some (.int (nI 4))]) hG dX12_person_137 rfl (nI_1 _) (by decide) (pm_c1b rfl) rfl ?_
                refine pm_goto (tgt := 121) hG dX12_person_140 rfl ?_
                refine pm_iloadi hG dX12_person_121 rfl ?_
                refine pm_bipush (v := nI 14) hG dX12_person_123 (by decide) ?_
                refine pm_icmpN_ge (tgt := 143) hG dX12_person_125 rfl (by omega) (by omega) (fun q => absurd q (by omega)) (fun _ => ?_)
                refine pm_aloadn hG dX12_person_128 rfl ?_
                refine pm_iloadi hG dX12_person_129 rfl ?_
                refine pm_iloadi hG dX12_person_131 rfl ?_
                refine pm_iconst (v := nI 0) hG dX12_person_133 (by decide) ?_
                refine pm_callV (As := [.int (nI kc2), .int (nI 4), .int (nI 0)]) (rest := []) hG hR dX12_person_134 (lkX12_97 _ rfl) okV_X12_sets rfl rfl (m_sets (d := 2) (e := 14 * kc2 + 114) (by omega) (by omega) (by omega)) rfl rfl hdd (Nat.le_refl _) (Nat.le_refl _) (by decide) (pm_kv (fun σ' cnt' hq => ?_))
                obtain ⟨rfl, rfl⟩ := hq
                obtain ⟨n_393, en_393⟩ : ∃ f : Nat → Int32, f = upd n_386 (14 * kc2 + 114) (nI 0) := ⟨_, rfl⟩
                rw [← en_393]
                have hnn_393 := KI.w en_393 hnn_386 (okv_o (show kd (14 * kc2 + 114) = (2, 10, false) from (kd_P (k := kc2) (c := 4) (by omega) (by omega) (by decide))) (by omega))
                have hrn_393 := NRx.w en_393 hrn_386 (by rw [(show kd (14 * kc2 + 114) = (2, 10, false) from (kd_P (k := kc2) (c := 4) (by omega) (by omega) (by decide)))])
                have ksn_393 := KSh.w (h := 14 * kc2 + 110) en_393 ksn_386 (by unfold tS; omega)
                have e394 : n_393 0 = nI kc0 := by rw [en_393, pk_un (by omega)]; exact e387
                have e395 : n_393 8 = nI kc8 := by rw [en_393, pk_un (by omega)]; exact e388
                have e396 : n_393 2 = nI (kc2 + 1) := by rw [en_393, pk_un (by omega)]; exact e389
                have e397 : n_393 (14 * kc2 + 110) = nI 0 := by rw [en_393, pk_un (by omega)]; exact e390
                have e398 : n_393 (14 * kc2 + 111) = nI 0 := by rw [en_393, pk_un (by omega)]; exact e391
                have e399 : n_393 (14 * kc2 + 114) = nI 0 := by rw [en_393, pk_us]
                refine pm_iincX (v := nI 5) (loc' := [some (.ref (B + 54)), some (.int za), some (.int zb), some (.int zc), some (.int zd), some (.int (nI 1)), some (.int (nI kc2)), some (.int (nI 5))]) hG dX12_person_137 rfl (nI_1 _) (by decide) (pm_c1b rfl) rfl ?_
                refine pm_goto (tgt := 121) hG dX12_person_140 rfl ?_
                refine pm_iloadi hG dX12_person_121 rfl ?_
                refine pm_bipush (v := nI 14) hG dX12_person_123 (by decide) ?_
                refine pm_icmpN_ge (tgt := 143) hG dX12_person_125 rfl (by omega) (by omega) (fun q => absurd q (by omega)) (fun _ => ?_)
                refine pm_aloadn hG dX12_person_128 rfl ?_
                refine pm_iloadi hG dX12_person_129 rfl ?_
                refine pm_iloadi hG dX12_person_131 rfl ?_
                refine pm_iconst (v := nI 0) hG dX12_person_133 (by decide) ?_
                refine pm_callV (As := [.int (nI kc2), .int (nI 5), .int (nI 0)]) (rest := []) hG hR dX12_person_134 (lkX12_97 _ rfl) okV_X12_sets rfl rfl (m_sets (d := 2) (e := 14 * kc2 + 115) (by omega) (by omega) (by omega)) rfl rfl hdd (Nat.le_refl _) (Nat.le_refl _) (by decide) (pm_kv (fun σ' cnt' hq => ?_))
                obtain ⟨rfl, rfl⟩ := hq
                obtain ⟨n_400, en_400⟩ : ∃ f : Nat → Int32, f = upd n_393 (14 * kc2 + 115) (nI 0) := ⟨_, rfl⟩
                rw [← en_400]
                have hnn_400 := KI.w en_400 hnn_393 (okv_n (show kd (14 * kc2 + 115) = (1, 10, false) from (kd_P (k := kc2) (c := 5) (by omega) (by omega) (by decide))) (by omega))
                have hrn_400 := NRx.w en_400 hrn_393 (by rw [(show kd (14 * kc2 + 115) = (1, 10, false) from (kd_P (k := kc2) (c := 5) (by omega) (by omega) (by decide)))])
                have ksn_400 := KSh.w (h := 14 * kc2 + 110) en_400 ksn_393 (by unfold tS; omega)
                have e401 : n_400 0 = nI kc0 := by rw [en_400, pk_un (by omega)]; exact e394
                have e402 : n_400 8 = nI kc8 := by rw [en_400, pk_un (by omega)]; exact e395
                have e403 : n_400 2 = nI (kc2 + 1) := by rw [en_400, pk_un (by omega)]; exact e396
                have e404 : n_400 (14 * kc2 + 110) = nI 0 := by rw [en_400, pk_un (by omega)]; exact e397
                have e405 : n_400 (14 * kc2 + 111) = nI 0 := by rw [en_400, pk_un (by omega)]; exact e398
                have e406 : n_400 (14 * kc2 + 115) = nI 0 := by rw [en_400, pk_us]
                refine pm_iincX (v := nI 6) (loc' := [some (.ref (B + 54)), some (.int za), some (.int zb), some (.int zc), some (.int zd), some (.int (nI 1)), some (.int (nI kc2)), some (.int (nI 6))]) hG dX12_person_137 rfl (nI_1 _) (by decide) (pm_c1b rfl) rfl ?_
                refine pm_goto (tgt := 121) hG dX12_person_140 rfl ?_
                refine pm_iloadi hG dX12_person_121 rfl ?_
                refine pm_bipush (v := nI 14) hG dX12_person_123 (by decide) ?_
                refine pm_icmpN_ge (tgt := 143) hG dX12_person_125 rfl (by omega) (by omega) (fun q => absurd q (by omega)) (fun _ => ?_)
                refine pm_aloadn hG dX12_person_128 rfl ?_
                refine pm_iloadi hG dX12_person_129 rfl ?_
                refine pm_iloadi hG dX12_person_131 rfl ?_
                refine pm_iconst (v := nI 0) hG dX12_person_133 (by decide) ?_
                refine pm_callV (As := [.int (nI kc2), .int (nI 6), .int (nI 0)]) (rest := []) hG hR dX12_person_134 (lkX12_97 _ rfl) okV_X12_sets rfl rfl (m_sets (d := 2) (e := 14 * kc2 + 116) (by omega) (by omega) (by omega)) rfl rfl hdd (Nat.le_refl _) (Nat.le_refl _) (by decide) (pm_kv (fun σ' cnt' hq => ?_))
                obtain ⟨rfl, rfl⟩ := hq
                obtain ⟨n_407, en_407⟩ : ∃ f : Nat → Int32, f = upd n_400 (14 * kc2 + 116) (nI 0) := ⟨_, rfl⟩
                rw [← en_407]
                have hnn_407 := KI.w en_407 hnn_400 (okv_f (show kd (14 * kc2 + 116) = (0, 0, false) from (kd_P (k := kc2) (c := 6) (by omega) (by omega) (by decide))))
                have hrn_407 := NRx.w en_407 hrn_400 (by rw [(show kd (14 * kc2 + 116) = (0, 0, false) from (kd_P (k := kc2) (c := 6) (by omega) (by omega) (by decide)))])
                have ksn_407 := KSh.w (h := 14 * kc2 + 110) en_407 ksn_400 (by unfold tS; omega)
                have e408 : n_407 0 = nI kc0 := by rw [en_407, pk_un (by omega)]; exact e401
                have e409 : n_407 8 = nI kc8 := by rw [en_407, pk_un (by omega)]; exact e402
                have e410 : n_407 2 = nI (kc2 + 1) := by rw [en_407, pk_un (by omega)]; exact e403
                have e411 : n_407 (14 * kc2 + 110) = nI 0 := by rw [en_407, pk_un (by omega)]; exact e404
                have e412 : n_407 (14 * kc2 + 111) = nI 0 := by rw [en_407, pk_un (by omega)]; exact e405
                have e413 : n_407 (14 * kc2 + 116) = nI 0 := by rw [en_407, pk_us]
                refine pm_iincX (v := nI 7) (loc' := [some (.ref (B + 54)), some (.int za), some (.int zb), some (.int zc), some (.int zd), some (.int (nI 1)), some (.int (nI kc2)), some (.int (nI 7))]) hG dX12_person_137 rfl (nI_1 _) (by decide) (pm_c1b rfl) rfl ?_
                refine pm_goto (tgt := 121) hG dX12_person_140 rfl ?_
                refine pm_iloadi hG dX12_person_121 rfl ?_
                refine pm_bipush (v := nI 14) hG dX12_person_123 (by decide) ?_
                refine pm_icmpN_ge (tgt := 143) hG dX12_person_125 rfl (by omega) (by omega) (fun q => absurd q (by omega)) (fun _ => ?_)
                refine pm_aloadn hG dX12_person_128 rfl ?_
                refine pm_iloadi hG dX12_person_129 rfl ?_
                refine pm_iloadi hG dX12_person_131 rfl ?_
                refine pm_iconst (v := nI 0) hG dX12_person_133 (by decide) ?_
                refine pm_callV (As := [.int (nI kc2), .int (nI 7), .int (nI 0)]) (rest := []) hG hR dX12_person_134 (lkX12_97 _ rfl) okV_X12_sets rfl rfl (m_sets (d := 2) (e := 14 * kc2 + 117) (by omega) (by omega) (by omega)) rfl rfl hdd (Nat.le_refl _) (Nat.le_refl _) (by decide) (pm_kv (fun σ' cnt' hq => ?_))
                obtain ⟨rfl, rfl⟩ := hq
                obtain ⟨n_414, en_414⟩ : ∃ f : Nat → Int32, f = upd n_407 (14 * kc2 + 117) (nI 0) := ⟨_, rfl⟩
                rw [← en_414]
                have hnn_414 := KI.w en_414 hnn_407 (okv_f (show kd (14 * kc2 + 117) = (0, 0, false) from (kd_P (k := kc2) (c := 7) (by omega) (by omega) (by decide))))
                have hrn_414 := NRx.w en_414 hrn_407 (by rw [(show kd (14 * kc2 + 117) = (0, 0, false) from (kd_P (k := kc2) (c := 7) (by omega) (by omega) (by decide)))])
                have ksn_414 := KSh.w (h := 14 * kc2 + 110) en_414 ksn_407 (by unfold tS; omega)
                have e415 : n_414 0 = nI kc0 := by rw [en_414, pk_un (by omega)]; exact e408
                have e416 : n_414 8 = nI kc8 := by rw [en_414, pk_un (by omega)]; exact e409
                have e417 : n_414 2 = nI (kc2 + 1) := by rw [en_414, pk_un (by omega)]; exact e410
                have e418 : n_414 (14 * kc2 + 110) = nI 0 := by rw [en_414, pk_un (by omega)]; exact e411
                have e419 : n_414 (14 * kc2 + 111) = nI 0 := by rw [en_414, pk_un (by omega)]; exact e412
                have e420 : n_414 (14 * kc2 + 117) = nI 0 := by rw [en_414, pk_us]
                refine pm_iincX (v := nI 8) (loc' := [some (.ref (B + 54)), some (.int za), some (.int zb), some (.int zc), some (.int zd), some (.int (nI 1)), some (.int (nI kc2)), some (.int (nI 8))]) hG dX12_person_137 rfl (nI_1 _) (by decide) (pm_c1b rfl) rfl ?_
                refine pm_goto (tgt := 121) hG dX12_person_140 rfl ?_
                refine pm_iloadi hG dX12_person_121 rfl ?_
                refine pm_bipush (v := nI 14) hG dX12_person_123 (by decide) ?_
                refine pm_icmpN_ge (tgt := 143) hG dX12_person_125 rfl (by omega) (by omega) (fun q => absurd q (by omega)) (fun _ => ?_)
                refine pm_aloadn hG dX12_person_128 rfl ?_
                refine pm_iloadi hG dX12_person_129 rfl ?_
                refine pm_iloadi hG dX12_person_131 rfl ?_
                refine pm_iconst (v := nI 0) hG dX12_person_133 (by decide) ?_
                refine pm_callV (As := [.int (nI kc2), .int (nI 8), .int (nI 0)]) (rest := []) hG hR dX12_person_134 (lkX12_97 _ rfl) okV_X12_sets rfl rfl (m_sets (d := 2) (e := 14 * kc2 + 118) (by omega) (by omega) (by omega)) rfl rfl hdd (Nat.le_refl _) (Nat.le_refl _) (by decide) (pm_kv (fun σ' cnt' hq => ?_))
                obtain ⟨rfl, rfl⟩ := hq
                obtain ⟨n_421, en_421⟩ : ∃ f : Nat → Int32, f = upd n_414 (14 * kc2 + 118) (nI 0) := ⟨_, rfl⟩
                rw [← en_421]
                have hnn_421 := KI.w en_421 hnn_414 (okv_f (show kd (14 * kc2 + 118) = (0, 0, false) from (kd_P (k := kc2) (c := 8) (by omega) (by omega) (by decide))))
                have hrn_421 := NRx.w en_421 hrn_414 (by rw [(show kd (14 * kc2 + 118) = (0, 0, false) from (kd_P (k := kc2) (c := 8) (by omega) (by omega) (by decide)))])
                have ksn_421 := KSh.w (h := 14 * kc2 + 110) en_421 ksn_414 (by unfold tS; omega)
                have e422 : n_421 0 = nI kc0 := by rw [en_421, pk_un (by omega)]; exact e415
                have e423 : n_421 8 = nI kc8 := by rw [en_421, pk_un (by omega)]; exact e416
                have e424 : n_421 2 = nI (kc2 + 1) := by rw [en_421, pk_un (by omega)]; exact e417
                have e425 : n_421 (14 * kc2 + 110) = nI 0 := by rw [en_421, pk_un (by omega)]; exact e418
                have e426 : n_421 (14 * kc2 + 111) = nI 0 := by rw [en_421, pk_un (by omega)]; exact e419
                have e427 : n_421 (14 * kc2 + 118) = nI 0 := by rw [en_421, pk_us]
                refine pm_iincX (v := nI 9) (loc' := [some (.ref (B + 54)), some (.int za), some (.int zb), some (.int zc), some (.int zd), some (.int (nI 1)), some (.int (nI kc2)), some (.int (nI 9))]) hG dX12_person_137 rfl (nI_1 _) (by decide) (pm_c1b rfl) rfl ?_
                refine pm_goto (tgt := 121) hG dX12_person_140 rfl ?_
                refine pm_iloadi hG dX12_person_121 rfl ?_
                refine pm_bipush (v := nI 14) hG dX12_person_123 (by decide) ?_
                refine pm_icmpN_ge (tgt := 143) hG dX12_person_125 rfl (by omega) (by omega) (fun q => absurd q (by omega)) (fun _ => ?_)
                refine pm_aloadn hG dX12_person_128 rfl ?_
                refine pm_iloadi hG dX12_person_129 rfl ?_
                refine pm_iloadi hG dX12_person_131 rfl ?_
                refine pm_iconst (v := nI 0) hG dX12_person_133 (by decide) ?_
                refine pm_callV (As := [.int (nI kc2), .int (nI 9), .int (nI 0)]) (rest := []) hG hR dX12_person_134 (lkX12_97 _ rfl) okV_X12_sets rfl rfl (m_sets (d := 2) (e := 14 * kc2 + 119) (by omega) (by omega) (by omega)) rfl rfl hdd (Nat.le_refl _) (Nat.le_refl _) (by decide) (pm_kv (fun σ' cnt' hq => ?_))
                obtain ⟨rfl, rfl⟩ := hq
                obtain ⟨n_428, en_428⟩ : ∃ f : Nat → Int32, f = upd n_421 (14 * kc2 + 119) (nI 0) := ⟨_, rfl⟩
                rw [← en_428]
                have hnn_428 := KI.w en_428 hnn_421 (okv_o (show kd (14 * kc2 + 119) = (2, 2001, false) from (kd_P (k := kc2) (c := 9) (by omega) (by omega) (by decide))) (by omega))
                have hrn_428 := NRx.w en_428 hrn_421 (by rw [(show kd (14 * kc2 + 119) = (2, 2001, false) from (kd_P (k := kc2) (c := 9) (by omega) (by omega) (by decide)))])
                have ksn_428 := KSh.w (h := 14 * kc2 + 110) en_428 ksn_421 (by unfold tS; omega)
                have e429 : n_428 0 = nI kc0 := by rw [en_428, pk_un (by omega)]; exact e422
                have e430 : n_428 8 = nI kc8 := by rw [en_428, pk_un (by omega)]; exact e423
                have e431 : n_428 2 = nI (kc2 + 1) := by rw [en_428, pk_un (by omega)]; exact e424
                have e432 : n_428 (14 * kc2 + 110) = nI 0 := by rw [en_428, pk_un (by omega)]; exact e425
                have e433 : n_428 (14 * kc2 + 111) = nI 0 := by rw [en_428, pk_un (by omega)]; exact e426
                have e434 : n_428 (14 * kc2 + 119) = nI 0 := by rw [en_428, pk_us]
                refine pm_iincX (v := nI 10) (loc' := [some (.ref (B + 54)), some (.int za), some (.int zb), some (.int zc), some (.int zd), some (.int (nI 1)), some (.int (nI kc2)), some (.int (nI 10))]) hG dX12_person_137 rfl (nI_1 _) (by decide) (pm_c1b rfl) rfl ?_
                refine pm_goto (tgt := 121) hG dX12_person_140 rfl ?_
                refine pm_iloadi hG dX12_person_121 rfl ?_
                refine pm_bipush (v := nI 14) hG dX12_person_123 (by decide) ?_
                refine pm_icmpN_ge (tgt := 143) hG dX12_person_125 rfl (by omega) (by omega) (fun q => absurd q (by omega)) (fun _ => ?_)
                refine pm_aloadn hG dX12_person_128 rfl ?_
                refine pm_iloadi hG dX12_person_129 rfl ?_
                refine pm_iloadi hG dX12_person_131 rfl ?_
                refine pm_iconst (v := nI 0) hG dX12_person_133 (by decide) ?_
                refine pm_callV (As := [.int (nI kc2), .int (nI 10), .int (nI 0)]) (rest := []) hG hR dX12_person_134 (lkX12_97 _ rfl) okV_X12_sets rfl rfl (m_sets (d := 2) (e := 14 * kc2 + 120) (by omega) (by omega) (by omega)) rfl rfl hdd (Nat.le_refl _) (Nat.le_refl _) (by decide) (pm_kv (fun σ' cnt' hq => ?_))
                obtain ⟨rfl, rfl⟩ := hq
                obtain ⟨n_435, en_435⟩ : ∃ f : Nat → Int32, f = upd n_428 (14 * kc2 + 120) (nI 0) := ⟨_, rfl⟩
                rw [← en_435]
                have hnn_435 := KI.w en_435 hnn_428 (okv_f (show kd (14 * kc2 + 120) = (0, 0, false) from (kd_P (k := kc2) (c := 10) (by omega) (by omega) (by decide))))
                have hrn_435 := NRx.w en_435 hrn_428 (by rw [(show kd (14 * kc2 + 120) = (0, 0, false) from (kd_P (k := kc2) (c := 10) (by omega) (by omega) (by decide)))])
                have ksn_435 := KSh.w (h := 14 * kc2 + 110) en_435 ksn_428 (by unfold tS; omega)
                have e436 : n_435 0 = nI kc0 := by rw [en_435, pk_un (by omega)]; exact e429
                have e437 : n_435 8 = nI kc8 := by rw [en_435, pk_un (by omega)]; exact e430
                have e438 : n_435 2 = nI (kc2 + 1) := by rw [en_435, pk_un (by omega)]; exact e431
                have e439 : n_435 (14 * kc2 + 110) = nI 0 := by rw [en_435, pk_un (by omega)]; exact e432
                have e440 : n_435 (14 * kc2 + 111) = nI 0 := by rw [en_435, pk_un (by omega)]; exact e433
                have e441 : n_435 (14 * kc2 + 120) = nI 0 := by rw [en_435, pk_us]
                refine pm_iincX (v := nI 11) (loc' := [some (.ref (B + 54)), some (.int za), some (.int zb), some (.int zc), some (.int zd), some (.int (nI 1)), some (.int (nI kc2)), some (.int (nI 11))]) hG dX12_person_137 rfl (nI_1 _) (by decide) (pm_c1b rfl) rfl ?_
                refine pm_goto (tgt := 121) hG dX12_person_140 rfl ?_
                refine pm_iloadi hG dX12_person_121 rfl ?_
                refine pm_bipush (v := nI 14) hG dX12_person_123 (by decide) ?_
                refine pm_icmpN_ge (tgt := 143) hG dX12_person_125 rfl (by omega) (by omega) (fun q => absurd q (by omega)) (fun _ => ?_)
                refine pm_aloadn hG dX12_person_128 rfl ?_
                refine pm_iloadi hG dX12_person_129 rfl ?_
                refine pm_iloadi hG dX12_person_131 rfl ?_
                refine pm_iconst (v := nI 0) hG dX12_person_133 (by decide) ?_
                refine pm_callV (As := [.int (nI kc2), .int (nI 11), .int (nI 0)]) (rest := []) hG hR dX12_person_134 (lkX12_97 _ rfl) okV_X12_sets rfl rfl (m_sets (d := 2) (e := 14 * kc2 + 121) (by omega) (by omega) (by omega)) rfl rfl hdd (Nat.le_refl _) (Nat.le_refl _) (by decide) (pm_kv (fun σ' cnt' hq => ?_))
                obtain ⟨rfl, rfl⟩ := hq
                obtain ⟨n_442, en_442⟩ : ∃ f : Nat → Int32, f = upd n_435 (14 * kc2 + 121) (nI 0) := ⟨_, rfl⟩
                rw [← en_442]
                have hnn_442 := KI.w en_442 hnn_435 (okv_n (show kd (14 * kc2 + 121) = (1, 2, true) from (kd_P (k := kc2) (c := 11) (by omega) (by omega) (by decide))) (by omega))
                have hrn_442 := NRx.unseat (p := kc2) en_442 hrn_435 (by omega)
                have ksn_442 := KSh.w (h := 14 * kc2 + 110) en_442 ksn_435 (by unfold tS; omega)
                have e443 : n_442 0 = nI kc0 := by rw [en_442, pk_un (by omega)]; exact e436
                have e444 : n_442 8 = nI kc8 := by rw [en_442, pk_un (by omega)]; exact e437
                have e445 : n_442 2 = nI (kc2 + 1) := by rw [en_442, pk_un (by omega)]; exact e438
                have e446 : n_442 (14 * kc2 + 110) = nI 0 := by rw [en_442, pk_un (by omega)]; exact e439
                have e447 : n_442 (14 * kc2 + 111) = nI 0 := by rw [en_442, pk_un (by omega)]; exact e440
                have e448 : n_442 (14 * kc2 + 121) = nI 0 := by rw [en_442, pk_us]
                refine pm_iincX (v := nI 12) (loc' := [some (.ref (B + 54)), some (.int za), some (.int zb), some (.int zc), some (.int zd), some (.int (nI 1)), some (.int (nI kc2)), some (.int (nI 12))]) hG dX12_person_137 rfl (nI_1 _) (by decide) (pm_c1b rfl) rfl ?_
                refine pm_goto (tgt := 121) hG dX12_person_140 rfl ?_
                refine pm_iloadi hG dX12_person_121 rfl ?_
                refine pm_bipush (v := nI 14) hG dX12_person_123 (by decide) ?_
                refine pm_icmpN_ge (tgt := 143) hG dX12_person_125 rfl (by omega) (by omega) (fun q => absurd q (by omega)) (fun _ => ?_)
                refine pm_aloadn hG dX12_person_128 rfl ?_
                refine pm_iloadi hG dX12_person_129 rfl ?_
                refine pm_iloadi hG dX12_person_131 rfl ?_
                refine pm_iconst (v := nI 0) hG dX12_person_133 (by decide) ?_
                refine pm_callV (As := [.int (nI kc2), .int (nI 12), .int (nI 0)]) (rest := []) hG hR dX12_person_134 (lkX12_97 _ rfl) okV_X12_sets rfl rfl (m_sets (d := 2) (e := 14 * kc2 + 122) (by omega) (by omega) (by omega)) rfl rfl hdd (Nat.le_refl _) (Nat.le_refl _) (by decide) (pm_kv (fun σ' cnt' hq => ?_))
                obtain ⟨rfl, rfl⟩ := hq
                obtain ⟨n_449, en_449⟩ : ∃ f : Nat → Int32, f = upd n_442 (14 * kc2 + 122) (nI 0) := ⟨_, rfl⟩
                rw [← en_449]
                have hnn_449 := KI.w en_449 hnn_442 (okv_f (show kd (14 * kc2 + 122) = (0, 0, false) from (kd_P (k := kc2) (c := 12) (by omega) (by omega) (by decide))))
                have hrn_449 := NRx.w en_449 hrn_442 (by rw [(show kd (14 * kc2 + 122) = (0, 0, false) from (kd_P (k := kc2) (c := 12) (by omega) (by omega) (by decide)))])
                have ksn_449 := KSh.w (h := 14 * kc2 + 110) en_449 ksn_442 (by unfold tS; omega)
                have e450 : n_449 0 = nI kc0 := by rw [en_449, pk_un (by omega)]; exact e443
                have e451 : n_449 8 = nI kc8 := by rw [en_449, pk_un (by omega)]; exact e444
                have e452 : n_449 2 = nI (kc2 + 1) := by rw [en_449, pk_un (by omega)]; exact e445
                have e453 : n_449 (14 * kc2 + 110) = nI 0 := by rw [en_449, pk_un (by omega)]; exact e446
                have e454 : n_449 (14 * kc2 + 111) = nI 0 := by rw [en_449, pk_un (by omega)]; exact e447
                have e455 : n_449 (14 * kc2 + 122) = nI 0 := by rw [en_449, pk_us]
                refine pm_iincX (v := nI 13) (loc' := [some (.ref (B + 54)), some (.int za), some (.int zb), some (.int zc), some (.int zd), some (.int (nI 1)), some (.int (nI kc2)), some (.int (nI 13))]) hG dX12_person_137 rfl (nI_1 _) (by decide) (pm_c1b rfl) rfl ?_
                refine pm_goto (tgt := 121) hG dX12_person_140 rfl ?_
                refine pm_iloadi hG dX12_person_121 rfl ?_
                refine pm_bipush (v := nI 14) hG dX12_person_123 (by decide) ?_
                refine pm_icmpN_ge (tgt := 143) hG dX12_person_125 rfl (by omega) (by omega) (fun q => absurd q (by omega)) (fun _ => ?_)
                refine pm_aloadn hG dX12_person_128 rfl ?_
                refine pm_iloadi hG dX12_person_129 rfl ?_
                refine pm_iloadi hG dX12_person_131 rfl ?_
                refine pm_iconst (v := nI 0) hG dX12_person_133 (by decide) ?_
                refine pm_callV (As := [.int (nI kc2), .int (nI 13), .int (nI 0)]) (rest := []) hG hR dX12_person_134 (lkX12_97 _ rfl) okV_X12_sets rfl rfl (m_sets (d := 2) (e := 14 * kc2 + 123) (by omega) (by omega) (by omega)) rfl rfl hdd (Nat.le_refl _) (Nat.le_refl _) (by decide) (pm_kv (fun σ' cnt' hq => ?_))
                obtain ⟨rfl, rfl⟩ := hq
                obtain ⟨n_456, en_456⟩ : ∃ f : Nat → Int32, f = upd n_449 (14 * kc2 + 123) (nI 0) := ⟨_, rfl⟩
                rw [← en_456]
                have hnn_456 := KI.w en_456 hnn_449 (okv_f (show kd (14 * kc2 + 123) = (0, 0, false) from (kd_P (k := kc2) (c := 13) (by omega) (by omega) (by decide))))
                have hrn_456 := NRx.w en_456 hrn_449 (by rw [(show kd (14 * kc2 + 123) = (0, 0, false) from (kd_P (k := kc2) (c := 13) (by omega) (by omega) (by decide)))])
                have ksn_456 := KSh.w (h := 14 * kc2 + 110) en_456 ksn_449 (by unfold tS; omega)
                have e457 : n_456 0 = nI kc0 := by rw [en_456, pk_un (by omega)]; exact e450
                have e458 : n_456 8 = nI kc8 := by rw [en_456, pk_un (by omega)]; exact e451
                have e459 : n_456 2 = nI (kc2 + 1) := by rw [en_456, pk_un (by omega)]; exact e452
                have e460 : n_456 (14 * kc2 + 110) = nI 0 := by rw [en_456, pk_un (by omega)]; exact e453
                have e461 : n_456 (14 * kc2 + 111) = nI 0 := by rw [en_456, pk_un (by omega)]; exact e454
                have e462 : n_456 (14 * kc2 + 122) = nI 0 := by rw [en_456, pk_un (by omega)]; exact e455
                have e463 : n_456 (14 * kc2 + 123) = nI 0 := by rw [en_456, pk_us]
                refine pm_iincX (v := nI 14) (loc' := [some (.ref (B + 54)), some (.int za), some (.int zb), some (.int zc), some (.int zd), some (.int (nI 1)), some (.int (nI kc2)), some (.int (nI 14))]) hG dX12_person_137 rfl (nI_1 _) (by decide) (pm_c1b rfl) rfl ?_
                refine pm_goto (tgt := 121) hG dX12_person_140 rfl ?_
                refine pm_iloadi hG dX12_person_121 rfl ?_
                refine pm_bipush (v := nI 14) hG dX12_person_123 (by decide) ?_
                refine pm_icmpN_ge (tgt := 143) hG dX12_person_125 rfl (by omega) (by omega) (fun _ => ?_) (fun q => absurd q (by omega))
                refine pm_aloadn hG dX12_person_143 rfl ?_
                refine pm_iloadi hG dX12_person_144 rfl ?_
                refine pm_iconst (v := nI 0) hG dX12_person_146 (by decide) ?_
                refine pm_iloadn hG dX12_person_147 rfl ?_
                refine pm_top (v := nI k3) ek3 ?_
                refine pm_callV (As := [.int (nI kc2), .int (nI 0), .int (nI k3)]) (rest := []) hG hR dX12_person_148 (lkX12_97 _ rfl) okV_X12_sets rfl rfl (m_sets (d := 2) (e := 14 * kc2 + 110) (by omega) (by omega) (by omega)) rfl rfl hdd (Nat.le_refl _) (Nat.le_refl _) (by decide) (pm_kv (fun σ' cnt' hq => ?_))
                obtain ⟨rfl, rfl⟩ := hq
                obtain ⟨n_464, en_464⟩ : ∃ f : Nat → Int32, f = upd n_456 (14 * kc2 + 110) (nI k3) := ⟨_, rfl⟩
                rw [← en_464]
                have hnn_464 := KI.w en_464 hnn_456 (okv_f (show kd (14 * kc2 + 110) = (0, 0, false) from (kd_P (k := kc2) (c := 0) (by omega) (by omega) (by decide))))
                have hrn_464 := NRx.w en_464 hrn_456 (by rw [(show kd (14 * kc2 + 110) = (0, 0, false) from (kd_P (k := kc2) (c := 0) (by omega) (by omega) (by decide)))])
                have ksn_464 := KSh.w (h := 14 * kc2 + 110) en_464 ksn_456 (by unfold tS; omega)
                have e465 : n_464 0 = nI kc0 := by rw [en_464, pk_un (by omega)]; exact e457
                have e466 : n_464 8 = nI kc8 := by rw [en_464, pk_un (by omega)]; exact e458
                have e467 : n_464 2 = nI (kc2 + 1) := by rw [en_464, pk_un (by omega)]; exact e459
                have e468 : n_464 (14 * kc2 + 111) = nI 0 := by rw [en_464, pk_un (by omega)]; exact e461
                have e469 : n_464 (14 * kc2 + 122) = nI 0 := by rw [en_464, pk_un (by omega)]; exact e462
                have e470 : n_464 (14 * kc2 + 110) = nI k3 := by rw [en_464, pk_us]
                refine pm_aloadn hG dX12_person_151 rfl ?_
                refine pm_iloadi hG dX12_person_152 rfl ?_
                refine pm_iconst (v := nI 1) hG dX12_person_154 (by decide) ?_
                refine pm_iloadn hG dX12_person_155 rfl ?_
                refine pm_callV (As := [.int (nI kc2), .int (nI 1), .int zb]) (rest := []) hG hR dX12_person_156 (lkX12_97 _ rfl) okV_X12_sets rfl rfl (m_sets (d := 2) (e := 14 * kc2 + 111) (by omega) (by omega) (by omega)) rfl rfl hdd (Nat.le_refl _) (Nat.le_refl _) (by decide) (pm_kv (fun σ' cnt' hq => ?_))
                obtain ⟨rfl, rfl⟩ := hq
                obtain ⟨n_471, en_471⟩ : ∃ f : Nat → Int32, f = upd n_464 (14 * kc2 + 111) zb := ⟨_, rfl⟩
                rw [← en_471]
                have hnn_471 := KI.w en_471 hnn_464 (okv_f (show kd (14 * kc2 + 111) = (0, 0, false) from (kd_P (k := kc2) (c := 1) (by omega) (by omega) (by decide))))
                have hrn_471 := NRx.w en_471 hrn_464 (by rw [(show kd (14 * kc2 + 111) = (0, 0, false) from (kd_P (k := kc2) (c := 1) (by omega) (by omega) (by decide)))])
                have ksn_471 := KSh.w (h := 14 * kc2 + 110) en_471 ksn_464 (by unfold tS; omega)
                have e472 : n_471 0 = nI kc0 := by rw [en_471, pk_un (by omega)]; exact e465
                have e473 : n_471 8 = nI kc8 := by rw [en_471, pk_un (by omega)]; exact e466
                have e474 : n_471 2 = nI (kc2 + 1) := by rw [en_471, pk_un (by omega)]; exact e467
                have e475 : n_471 (14 * kc2 + 122) = nI 0 := by rw [en_471, pk_un (by omega)]; exact e469
                have e476 : n_471 (14 * kc2 + 110) = nI k3 := by rw [en_471, pk_un (by omega)]; exact e470
                have e477 : n_471 (14 * kc2 + 111) = zb := by rw [en_471, pk_us]
                refine pm_aloadn hG dX12_person_159 rfl ?_
                refine pm_iloadi hG dX12_person_160 rfl ?_
                refine pm_iconst (v := nI 2) hG dX12_person_162 (by decide) ?_
                refine pm_iloadn hG dX12_person_163 rfl ?_
                refine pm_top (v := nI k9) ek9 ?_
                refine pm_bipush (v := nI 100) hG dX12_person_164 (by decide) ?_
                refine pm_idivN hG dX12_person_166 (by omega) (by decide) (by decide) ?_
                refine pm_iconst (v := nI 1) hG dX12_person_167 (by decide) ?_
                refine pm_isub hG dX12_person_168 ?_
                refine pm_top (v := nI k11) ek11 ?_
                refine pm_callV (As := [.int (nI kc2), .int (nI 2), .int (nI k11)]) (rest := []) hG hR dX12_person_169 (lkX12_97 _ rfl) okV_X12_sets rfl rfl (m_sets (d := 2) (e := 14 * kc2 + 112) (by omega) (by omega) (by omega)) rfl rfl hdd (Nat.le_refl _) (Nat.le_refl _) (by decide) (pm_kv (fun σ' cnt' hq => ?_))
                obtain ⟨rfl, rfl⟩ := hq
                obtain ⟨n_478, en_478⟩ : ∃ f : Nat → Int32, f = upd n_471 (14 * kc2 + 112) (nI k11) := ⟨_, rfl⟩
                rw [← en_478]
                have hnn_478 := KI.w en_478 hnn_471 (okv_o (show kd (14 * kc2 + 112) = (2, 20, false) from (kd_P (k := kc2) (c := 2) (by omega) (by omega) (by decide))) (by omega))
                have hrn_478 := NRx.w en_478 hrn_471 (by rw [(show kd (14 * kc2 + 112) = (2, 20, false) from (kd_P (k := kc2) (c := 2) (by omega) (by omega) (by decide)))])
                have ksn_478 := KSh.w (h := 14 * kc2 + 110) en_478 ksn_471 (by unfold tS; omega)
                have e479 : n_478 0 = nI kc0 := by rw [en_478, pk_un (by omega)]; exact e472
                have e480 : n_478 8 = nI kc8 := by rw [en_478, pk_un (by omega)]; exact e473
                have e481 : n_478 2 = nI (kc2 + 1) := by rw [en_478, pk_un (by omega)]; exact e474
                have e482 : n_478 (14 * kc2 + 122) = nI 0 := by rw [en_478, pk_un (by omega)]; exact e475
                have e483 : n_478 (14 * kc2 + 110) = nI k3 := by rw [en_478, pk_un (by omega)]; exact e476
                have e484 : n_478 (14 * kc2 + 111) = zb := by rw [en_478, pk_un (by omega)]; exact e477
                have e485 : n_478 (14 * kc2 + 112) = nI k11 := by rw [en_478, pk_us]
                refine pm_aloadn hG dX12_person_172 rfl ?_
                refine pm_iloadi hG dX12_person_173 rfl ?_
                refine pm_iconst (v := nI 3) hG dX12_person_175 (by decide) ?_
                refine pm_iloadn hG dX12_person_176 rfl ?_
                refine pm_top (v := nI k9) ek9 ?_
                refine pm_bipush (v := nI 100) hG dX12_person_177 (by decide) ?_
                refine pm_iremM hG dX12_person_179 (by omega) (by decide) (by decide) ?_
                refine pm_iconst (v := nI 1) hG dX12_person_180 (by decide) ?_
                refine pm_isub hG dX12_person_181 ?_
                refine pm_top (v := (-1)) ek357 ?_
                refine pm_callV (As := [.int (nI kc2), .int (nI 3), .int (-1)]) (rest := []) hG hR dX12_person_182 (lkX12_97 _ rfl) okV_X12_sets rfl rfl (m_sets (d := 2) (e := 14 * kc2 + 113) (by omega) (by omega) (by omega)) rfl rfl hdd (Nat.le_refl _) (Nat.le_refl _) (by decide) (pm_kv (fun σ' cnt' hq => ?_))
                obtain ⟨rfl, rfl⟩ := hq
                obtain ⟨n_486, en_486⟩ : ∃ f : Nat → Int32, f = upd n_478 (14 * kc2 + 113) (-1) := ⟨_, rfl⟩
                rw [← en_486]
                have hnn_486 := KI.w en_486 hnn_478 (okv_m (show kd (14 * kc2 + 113) = (2, 20, false) from (kd_P (k := kc2) (c := 3) (by omega) (by omega) (by decide))))
                have hrn_486 := NRx.w en_486 hrn_478 (by rw [(show kd (14 * kc2 + 113) = (2, 20, false) from (kd_P (k := kc2) (c := 3) (by omega) (by omega) (by decide)))])
                have ksn_486 := KSh.w (h := 14 * kc2 + 110) en_486 ksn_478 (by unfold tS; omega)
                have e487 : n_486 0 = nI kc0 := by rw [en_486, pk_un (by omega)]; exact e479
                have e488 : n_486 8 = nI kc8 := by rw [en_486, pk_un (by omega)]; exact e480
                have e489 : n_486 2 = nI (kc2 + 1) := by rw [en_486, pk_un (by omega)]; exact e481
                have e490 : n_486 (14 * kc2 + 122) = nI 0 := by rw [en_486, pk_un (by omega)]; exact e482
                have e491 : n_486 (14 * kc2 + 110) = nI k3 := by rw [en_486, pk_un (by omega)]; exact e483
                have e492 : n_486 (14 * kc2 + 111) = zb := by rw [en_486, pk_un (by omega)]; exact e484
                have e493 : n_486 (14 * kc2 + 113) = (-1) := by rw [en_486, pk_us]
                refine pm_aloadn hG dX12_person_185 rfl ?_
                refine pm_iloadi hG dX12_person_186 rfl ?_
                refine pm_iconst (v := nI 4) hG dX12_person_188 (by decide) ?_
                refine pm_iloadi hG dX12_person_189 rfl ?_
                refine pm_top (v := nI k362) ek362 ?_
                refine pm_callV (As := [.int (nI kc2), .int (nI 4), .int (nI k362)]) (rest := []) hG hR dX12_person_191 (lkX12_97 _ rfl) okV_X12_sets rfl rfl (m_sets (d := 2) (e := 14 * kc2 + 114) (by omega) (by omega) (by omega)) rfl rfl hdd (Nat.le_refl _) (Nat.le_refl _) (by decide) (pm_kv (fun σ' cnt' hq => ?_))
                obtain ⟨rfl, rfl⟩ := hq
                obtain ⟨n_494, en_494⟩ : ∃ f : Nat → Int32, f = upd n_486 (14 * kc2 + 114) (nI k362) := ⟨_, rfl⟩
                rw [← en_494]
                have hnn_494 := KI.w en_494 hnn_486 (okv_o (show kd (14 * kc2 + 114) = (2, 10, false) from (kd_P (k := kc2) (c := 4) (by omega) (by omega) (by decide))) (by omega))
                have hrn_494 := NRx.w en_494 hrn_486 (by rw [(show kd (14 * kc2 + 114) = (2, 10, false) from (kd_P (k := kc2) (c := 4) (by omega) (by omega) (by decide)))])
                have ksn_494 := KSh.w (h := 14 * kc2 + 110) en_494 ksn_486 (by unfold tS; omega)
                have e495 : n_494 0 = nI kc0 := by rw [en_494, pk_un (by omega)]; exact e487
                have e496 : n_494 8 = nI kc8 := by rw [en_494, pk_un (by omega)]; exact e488
                have e497 : n_494 2 = nI (kc2 + 1) := by rw [en_494, pk_un (by omega)]; exact e489
                have e498 : n_494 (14 * kc2 + 122) = nI 0 := by rw [en_494, pk_un (by omega)]; exact e490
                have e499 : n_494 (14 * kc2 + 110) = nI k3 := by rw [en_494, pk_un (by omega)]; exact e491
                have e500 : n_494 (14 * kc2 + 111) = zb := by rw [en_494, pk_un (by omega)]; exact e492
                have e501 : n_494 (14 * kc2 + 114) = nI k362 := by rw [en_494, pk_us]
                refine pm_aloadn hG dX12_person_194 rfl ?_
                refine pm_iloadi hG dX12_person_195 rfl ?_
                refine pm_bipush (v := nI 9) hG dX12_person_197 (by decide) ?_
                refine pm_iconst (v := (-1)) hG dX12_person_199 (by decide) ?_
                refine pm_callV (As := [.int (nI kc2), .int (nI 9), .int (-1)]) (rest := []) hG hR dX12_person_200 (lkX12_97 _ rfl) okV_X12_sets rfl rfl (m_sets (d := 2) (e := 14 * kc2 + 119) (by omega) (by omega) (by omega)) rfl rfl hdd (Nat.le_refl _) (Nat.le_refl _) (by decide) (pm_kv (fun σ' cnt' hq => ?_))
                obtain ⟨rfl, rfl⟩ := hq
                obtain ⟨n_502, en_502⟩ : ∃ f : Nat → Int32, f = upd n_494 (14 * kc2 + 119) (-1) := ⟨_, rfl⟩
                rw [← en_502]
                have hnn_502 := KI.w en_502 hnn_494 (okv_m (show kd (14 * kc2 + 119) = (2, 2001, false) from (kd_P (k := kc2) (c := 9) (by omega) (by omega) (by decide))))
                have hrn_502 := NRx.w en_502 hrn_494 (by rw [(show kd (14 * kc2 + 119) = (2, 2001, false) from (kd_P (k := kc2) (c := 9) (by omega) (by omega) (by decide)))])
                have ksn_502 := KSh.w (h := 14 * kc2 + 110) en_502 ksn_494 (by unfold tS; omega)
                have e503 : n_502 0 = nI kc0 := by rw [en_502, pk_un (by omega)]; exact e495
                have e504 : n_502 8 = nI kc8 := by rw [en_502, pk_un (by omega)]; exact e496
                have e505 : n_502 2 = nI (kc2 + 1) := by rw [en_502, pk_un (by omega)]; exact e497
                have e506 : n_502 (14 * kc2 + 122) = nI 0 := by rw [en_502, pk_un (by omega)]; exact e498
                have e507 : n_502 (14 * kc2 + 110) = nI k3 := by rw [en_502, pk_un (by omega)]; exact e499
                have e508 : n_502 (14 * kc2 + 111) = zb := by rw [en_502, pk_un (by omega)]; exact e500
                have e509 : n_502 (14 * kc2 + 119) = (-1) := by rw [en_502, pk_us]
                refine pm_aloadn hG dX12_person_203 rfl ?_
                refine pm_iloadi hG dX12_person_204 rfl ?_
                refine pm_bipush (v := nI 10) hG dX12_person_206 (by decide) ?_
                refine pm_iconst (v := (-1)) hG dX12_person_208 (by decide) ?_
                refine pm_callV (As := [.int (nI kc2), .int (nI 10), .int (-1)]) (rest := []) hG hR dX12_person_209 (lkX12_97 _ rfl) okV_X12_sets rfl rfl (m_sets (d := 2) (e := 14 * kc2 + 120) (by omega) (by omega) (by omega)) rfl rfl hdd (Nat.le_refl _) (Nat.le_refl _) (by decide) (pm_kv (fun σ' cnt' hq => ?_))
                obtain ⟨rfl, rfl⟩ := hq
                obtain ⟨n_510, en_510⟩ : ∃ f : Nat → Int32, f = upd n_502 (14 * kc2 + 120) (-1) := ⟨_, rfl⟩
                rw [← en_510]
                have hnn_510 := KI.w en_510 hnn_502 (okv_f (show kd (14 * kc2 + 120) = (0, 0, false) from (kd_P (k := kc2) (c := 10) (by omega) (by omega) (by decide))))
                have hrn_510 := NRx.w en_510 hrn_502 (by rw [(show kd (14 * kc2 + 120) = (0, 0, false) from (kd_P (k := kc2) (c := 10) (by omega) (by omega) (by decide)))])
                have ksn_510 := KSh.w (h := 14 * kc2 + 110) en_510 ksn_502 (by unfold tS; omega)
                have e511 : n_510 0 = nI kc0 := by rw [en_510, pk_un (by omega)]; exact e503
                have e512 : n_510 8 = nI kc8 := by rw [en_510, pk_un (by omega)]; exact e504
                have e513 : n_510 2 = nI (kc2 + 1) := by rw [en_510, pk_un (by omega)]; exact e505
                have e514 : n_510 (14 * kc2 + 122) = nI 0 := by rw [en_510, pk_un (by omega)]; exact e506
                have e515 : n_510 (14 * kc2 + 110) = nI k3 := by rw [en_510, pk_un (by omega)]; exact e507
                have e516 : n_510 (14 * kc2 + 111) = zb := by rw [en_510, pk_un (by omega)]; exact e508
                have e517 : n_510 (14 * kc2 + 120) = (-1) := by rw [en_510, pk_us]
                refine pm_aloadn hG dX12_person_212 rfl ?_
                refine pm_iloadi hG dX12_person_213 rfl ?_
                refine pm_bipush (v := nI 12) hG dX12_person_215 (by decide) ?_
                refine pm_iconst (v := nI 1) hG dX12_person_217 (by decide) ?_
                refine pm_callV (As := [.int (nI kc2), .int (nI 12), .int (nI 1)]) (rest := []) hG hR dX12_person_218 (lkX12_97 _ rfl) okV_X12_sets rfl rfl (m_sets (d := 2) (e := 14 * kc2 + 122) (by omega) (by omega) (by omega)) rfl rfl hdd (Nat.le_refl _) (Nat.le_refl _) (by decide) (pm_kv (fun σ' cnt' hq => ?_))
                obtain ⟨rfl, rfl⟩ := hq
                obtain ⟨n_518, en_518⟩ : ∃ f : Nat → Int32, f = upd n_510 (14 * kc2 + 122) (nI 1) := ⟨_, rfl⟩
                rw [← en_518]
                have hnn_518 := KI.w en_518 hnn_510 (okv_f (show kd (14 * kc2 + 122) = (0, 0, false) from (kd_P (k := kc2) (c := 12) (by omega) (by omega) (by decide))))
                have hrn_518 := NRx.w en_518 hrn_510 (by rw [(show kd (14 * kc2 + 122) = (0, 0, false) from (kd_P (k := kc2) (c := 12) (by omega) (by omega) (by decide)))])
                have ksn_518 := KSh.w (h := 14 * kc2 + 110) en_518 ksn_510 (by unfold tS; omega)
                have e519 : n_518 0 = nI kc0 := by rw [en_518, pk_un (by omega)]; exact e511
                have e520 : n_518 8 = nI kc8 := by rw [en_518, pk_un (by omega)]; exact e512
                have e521 : n_518 2 = nI (kc2 + 1) := by rw [en_518, pk_un (by omega)]; exact e513
                have e522 : n_518 (14 * kc2 + 110) = nI k3 := by rw [en_518, pk_un (by omega)]; exact e515
                have e523 : n_518 (14 * kc2 + 111) = zb := by rw [en_518, pk_un (by omega)]; exact e516
                have e524 : n_518 (14 * kc2 + 122) = nI 1 := by rw [en_518, pk_us]
                refine pm_iloadi hG dX12_person_221 rfl ?_
                exact pm_iret hG hF dX12_person_223 rfl (Nat.le_refl _) (Nat.le_refl _) ⟨_, rfl, ⟨_, _, _, rfl, hnn_518, hrn_518, e519.trans ekc0.symm, e520.trans ekc8.symm, ⟨(vE_y (T := pN n) (d := n 8) (t := n 0) (p := n 2) (a := za) (b := zb) (c := zc) (e := zd) (not6 (rg_in (a := 0) (b := 1) (by omega) ek3 (by omega) (by omega)) (fun q => q.elim ac5 (by rw [ekc8]; exact bc5)) (by rw [ek9]; exact nI_pos (by omega)) (nt_in ekc0 (by omega) ek362 (by omega)) (fun q => q (by rw [dv1 ek9 (by omega)]; exact pk11)) (fun q => q (by rw [rm1 ek9 (by omega)]; exact pk357))) ekc2 (by omega)).1, e521.trans (vE_y (T := pN n) (d := n 8) (t := n 0) (p := n 2) (a := za) (b := zb) (c := zc) (e := zd) (not6 (rg_in (a := 0) (b := 1) (by omega) ek3 (by omega) (by omega)) (fun q => q.elim ac5 (by rw [ekc8]; exact bc5)) (by rw [ek9]; exact nI_pos (by omega)) (nt_in ekc0 (by omega) ek362 (by omega)) (fun q => q (by rw [dv1 ek9 (by omega)]; exact pk11)) (fun q => q (by rw [rm1 ek9 (by omega)]; exact pk357))) ekc2 (by omega)).2.1, fun j hj => by rw [(vE_y (T := pN n) (d := n 8) (t := n 0) (p := n 2) (a := za) (b := zb) (c := zc) (e := zd) (not6 (rg_in (a := 0) (b := 1) (by omega) ek3 (by omega) (by omega)) (fun q => q.elim ac5 (by rw [ekc8]; exact bc5)) (by rw [ek9]; exact nI_pos (by omega)) (nt_in ekc0 (by omega) ek362 (by omega)) (fun q => q (by rw [dv1 ek9 (by omega)]; exact pk11)) (fun q => q (by rw [rm1 ek9 (by omega)]; exact pk357))) ekc2 (by omega)).2.2]; exact tP_ok ksn_518 (e522.trans ek3.symm) e523 e524 (by omega) j hj⟩⟩, rfl⟩
              · refine pm_aloadn hG dX12_person_102 rfl ?_
                refine pm_iconst (v := nI 4) hG dX12_person_103 (by decide) ?_
                refine pm_callV (As := [.int (nI 4)]) (rest := []) hG hR dX12_person_104 (lkX12_80 _ rfl) okV_X12_finds rfl rfl (m_finds (d := 2) (by decide) hn hz (by omega)) rfl rfl hdd (Nat.le_refl _) (Nat.le_refl _) (by decide) (pm_ki (fun v525 σ' cnt' hq => ?_))
                obtain ⟨⟨I526, A526, rfl⟩, rfl, fv525⟩ := hq
                exact pm_iret hG hF dX12_person_107 rfl (Nat.le_refl _) (Nat.le_refl _) ⟨_, rfl, ⟨_, _, _, rfl, hn, hr, ekc0.trans ekc0.symm, ekc8.trans ekc8.symm, ⟨fv525.trans ((by decide : (-1000000 : Int32) - nI 4 = -1000004).trans (vE_f (T := pN n) (d := n 8) (t := n 0) (p := n 2) (a := za) (b := zb) (c := zc) (e := zd) (not6 (rg_in (a := 0) (b := 1) (by omega) ek3 (by omega) (by omega)) (fun q => q.elim ac5 (by rw [ekc8]; exact bc5)) (by rw [ek9]; exact nI_pos (by omega)) (nt_in ekc0 (by omega) ek362 (by omega)) (fun q => q (by rw [dv1 ek9 (by omega)]; exact pk11)) (fun q => q (by rw [rm1 ek9 (by omega)]; exact pk357))) (ekc2.trans (congrArg nI (by omega)))).1), (vE_f (T := pN n) (d := n 8) (t := n 0) (p := n 2) (a := za) (b := zb) (c := zc) (e := zd) (not6 (rg_in (a := 0) (b := 1) (by omega) ek3 (by omega) (by omega)) (fun q => q.elim ac5 (by rw [ekc8]; exact bc5)) (by rw [ek9]; exact nI_pos (by omega)) (nt_in ekc0 (by omega) ek362 (by omega)) (fun q => q (by rw [dv1 ek9 (by omega)]; exact pk11)) (fun q => q (by rw [rm1 ek9 (by omega)]; exact pk357))) (ekc2.trans (congrArg nI (by omega)))).2.1, fun j _ => by rw [(vE_f (T := pN n) (d := n 8) (t := n 0) (p := n 2) (a := za) (b := zb) (c := zc) (e := zd) (not6 (rg_in (a := 0) (b := 1) (by omega) ek3 (by omega) (by omega)) (fun q => q.elim ac5 (by rw [ekc8]; exact bc5)) (by rw [ek9]; exact nI_pos (by omega)) (nt_in ekc0 (by omega) ek362 (by omega)) (fun q => q (by rw [dv1 ek9 (by omega)]; exact pk11)) (fun q => q (by rw [rm1 ek9 (by omega)]; exact pk357))) (ekc2.trans (congrArg nI (by omega)))).2.2]⟩⟩, rfl⟩
            · refine pm_ifN_eq (tgt := 73) hG dX12_person_66 rfl (by omega) (fun _ => ?_) (fun q => absurd q (by omega))
              refine pm_iconst (v := nI 0) hG dX12_person_73 (by decide) ?_
              refine pm_istoreXi (loc' := [some (.ref (B + 54)), some (.int za), some (.int zb), some (.int zc), some (.int zd), some (.int (nI 0)), none, none]) hG dX12_person_74 (by decide) (pm_c1b rfl) rfl ?_
              refine pm_iloadi hG dX12_person_76 rfl ?_
              refine pm_ifN_ne (tgt := 87) hG dX12_person_78 rfl (by omega) (fun q => absurd q (by omega)) (fun _ => ?_)
              refine pm_aloadn hG dX12_person_81 rfl ?_
              refine pm_iconst (v := nI 1) hG dX12_person_82 (by decide) ?_
              refine pm_callV (As := [.int (nI 1)]) (rest := []) hG hR dX12_person_83 (lkX12_80 _ rfl) okV_X12_finds rfl rfl (m_finds (d := 2) (by decide) hn hz (by omega)) rfl rfl hdd (Nat.le_refl _) (Nat.le_refl _) (by decide) (pm_ki (fun v527 σ' cnt' hq => ?_))
              obtain ⟨⟨I528, A528, rfl⟩, rfl, fv527⟩ := hq
              exact pm_iret hG hF dX12_person_86 rfl (Nat.le_refl _) (Nat.le_refl _) ⟨_, rfl, ⟨_, _, _, rfl, hn, hr, ekc0.trans ekc0.symm, ekc8.trans ekc8.symm, ⟨fv527.trans ((by decide : (-1000000 : Int32) - nI 1 = -1000001).trans (vE_n (T := pN n) (d := n 8) (t := n 0) (p := n 2) (a := za) (b := zb) (c := zc) (e := zd) (Or.inr (Or.inr (Or.inr (Or.inl (nt_out ekc0 (by omega) ntk362)))))).1), (vE_n (T := pN n) (d := n 8) (t := n 0) (p := n 2) (a := za) (b := zb) (c := zc) (e := zd) (Or.inr (Or.inr (Or.inr (Or.inl (nt_out ekc0 (by omega) ntk362)))))).2.1, fun j _ => by rw [(vE_n (T := pN n) (d := n 8) (t := n 0) (p := n 2) (a := za) (b := zb) (c := zc) (e := zd) (Or.inr (Or.inr (Or.inr (Or.inl (nt_out ekc0 (by omega) ntk362)))))).2.2]⟩⟩, rfl⟩
          · refine pm_ifN_eq (tgt := 73) hG dX12_person_57 rfl (by omega) (fun q => absurd q (by omega)) (fun _ => ?_)
            refine pm_aloadn hG dX12_person_60 rfl ?_
            refine pm_iloadi hG dX12_person_61 rfl ?_
            refine pm_callV (As := [.int zd]) (rest := []) hG hR dX12_person_63 (lkX12_84 _ rfl) okV_X12_isTown rfl rfl (m_isTown (d := 2) (by decide) ekc0 (by omega)) rfl rfl hdd (Nat.le_refl _) (Nat.le_refl _) (by decide) (pm_ki (fun v529 σ' cnt' hq => ?_))
            obtain ⟨hq, rfl, rfl⟩ := hq
            rcases hq with ⟨rfl, k531, hk531, ek531⟩ | ⟨rfl, ntk531⟩
            · refine pm_ifN_eq (tgt := 73) hG dX12_person_66 rfl (by omega) (fun q => absurd q (by omega)) (fun _ => ?_)
              refine pm_iconst (v := nI 1) hG dX12_person_69 (by decide) ?_
              refine pm_goto (tgt := 74) hG dX12_person_70 rfl ?_
              refine pm_istoreXi (loc' := [some (.ref (B + 54)), some (.int za), some (.int zb), some (.int zc), some (.int zd), some (.int (nI 1)), none, none]) hG dX12_person_74 (by decide) (pm_c1b rfl) rfl ?_
              refine pm_iloadi hG dX12_person_76 rfl ?_
              refine pm_ifN_ne (tgt := 87) hG dX12_person_78 rfl (by omega) (fun _ => ?_) (fun q => absurd q (by omega))
              refine pm_aloadn hG dX12_person_87 rfl ?_
              refine pm_getf hG dX12_person_88 (flX12_7 _ rfl) rfl rfl ?_
              refine pm_iconst (v := nI 2) hG dX12_person_91 (by decide) ?_
              refine pm_ialdN hG dX12_person_92 rfl (by decide) (by omega) ?_
              refine pm_top (v := nI kc2) ekc2 ?_
              refine pm_istoreXi (loc' := [some (.ref (B + 54)), some (.int za), some (.int zb), some (.int zc), some (.int zd), some (.int (nI 1)), some (.int (nI kc2)), none]) hG dX12_person_93 (by decide) (pm_c1b rfl) rfl ?_
              refine pm_iloadi hG dX12_person_95 rfl ?_
              refine pm_bipush (v := nI 20) hG dX12_person_97 (by decide) ?_
              refine pm_icmpN_ne (tgt := 108) hG dX12_person_99 rfl (by omega) (by omega) (fun c532 => ?_) (fun c532 => ?_)
              · refine pm_aloadn hG dX12_person_108 rfl ?_
                refine pm_getf hG dX12_person_109 (flX12_7 _ rfl) rfl rfl ?_
                refine pm_iconst (v := nI 2) hG dX12_person_112 (by decide) ?_
                refine pm_dup2 hG dX12_person_113 rfl rfl ?_
                refine pm_ialdN hG dX12_person_114 rfl (by decide) (by omega) ?_
                refine pm_top (v := nI kc2) ekc2 ?_
                refine pm_iconst (v := nI 1) hG dX12_person_115 (by decide) ?_
                refine pm_iaddN (c := kc2 + 1) hG dX12_person_116 (by omega) ?_
                refine pm_iastN hG dX12_person_117 rfl (by decide) (by omega) ?_
                refine mdn_now (fun n_533 en_533 => ?_)
                have hnn_533 := KI.w en_533 hn (okv_n (show kd 2 = (1, 21, true) by decide) (by omega))
                have hrn_533 := NRx.pers en_533 hr ekc0 (by omega) ekc2 (by omega)
                have ksn_533 := KSh.w (h := 14 * kc2 + 110) en_533 KSh.rf (by unfold tS; omega)
                have e534 : n_533 0 = nI kc0 := by rw [en_533, pk_un (by omega)]; exact ekc0
                have e535 : n_533 8 = nI kc8 := by rw [en_533, pk_un (by omega)]; exact ekc8
                have e536 : n_533 2 = nI (kc2 + 1) := by rw [en_533, pk_us]
                refine pm_iconst (v := nI 0) hG dX12_person_118 (by decide) ?_
                refine pm_istoreXi (loc' := [some (.ref (B + 54)), some (.int za), some (.int zb), some (.int zc), some (.int zd), some (.int (nI 1)), some (.int (nI kc2)), some (.int (nI 0))]) hG dX12_person_119 (by decide) (pm_c1b rfl) rfl ?_
                refine pm_iloadi hG dX12_person_121 rfl ?_
                refine pm_bipush (v := nI 14) hG dX12_person_123 (by decide) ?_
                refine pm_icmpN_ge (tgt := 143) hG dX12_person_125 rfl (by omega) (by omega) (fun q => absurd q (by omega)) (fun _ => ?_)
                refine pm_aloadn hG dX12_person_128 rfl ?_
                refine pm_iloadi hG dX12_person_129 rfl ?_
                refine pm_iloadi hG dX12_person_131 rfl ?_
                refine pm_iconst (v := nI 0) hG dX12_person_133 (by decide) ?_
                refine pm_callV (As := [.int (nI kc2), .int (nI 0), .int (nI 0)]) (rest := []) hG hR dX12_person_134 (lkX12_97 _ rfl) okV_X12_sets rfl rfl (m_sets (d := 2) (e := 14 * kc2 + 110) (by omega) (by omega) (by omega)) rfl rfl hdd (Nat.le_refl _) (Nat.le_refl _) (by decide) (pm_kv (fun σ' cnt' hq => ?_))
                obtain ⟨rfl, rfl⟩ := hq
                obtain ⟨n_537, en_537⟩ : ∃ f : Nat → Int32, f = upd n_533 (14 * kc2 + 110) (nI 0) := ⟨_, rfl⟩
                rw [← en_537]
                have hnn_537 := KI.w en_537 hnn_533 (okv_f (show kd (14 * kc2 + 110) = (0, 0, false) from (kd_P (k := kc2) (c := 0) (by omega) (by omega) (by decide))))
                have hrn_537 := NRx.w en_537 hrn_533 (by rw [(show kd (14 * kc2 + 110) = (0, 0, false) from (kd_P (k := kc2) (c := 0) (by omega) (by omega) (by decide)))])
                have ksn_537 := KSh.w (h := 14 * kc2 + 110) en_537 ksn_533 (by unfold tS; omega)
                have e538 : n_537 0 = nI kc0 := by rw [en_537, pk_un (by omega)]; exact e534
                have e539 : n_537 8 = nI kc8 := by rw [en_537, pk_un (by omega)]; exact e535
                have e540 : n_537 2 = nI (kc2 + 1) := by rw [en_537, pk_un (by omega)]; exact e536
                have e541 : n_537 (14 * kc2 + 110) = nI 0 := by rw [en_537, pk_us]
                refine pm_iincX (v := nI 1) (loc' := [some (.ref (B + 54)), some (.int za), some (.int zb), some (.int zc), some (.int zd), some (.int (nI 1)), some (.int (nI kc2)), some (.int (nI 1))]) hG dX12_person_137 rfl (nI_1 _) (by decide) (pm_c1b rfl) rfl ?_
                refine pm_goto (tgt := 121) hG dX12_person_140 rfl ?_
                refine pm_iloadi hG dX12_person_121 rfl ?_
                refine pm_bipush (v := nI 14) hG dX12_person_123 (by decide) ?_
                refine pm_icmpN_ge (tgt := 143) hG dX12_person_125 rfl (by omega) (by omega) (fun q => absurd q (by omega)) (fun _ => ?_)
                refine pm_aloadn hG dX12_person_128 rfl ?_
                refine pm_iloadi hG dX12_person_129 rfl ?_
                refine pm_iloadi hG dX12_person_131 rfl ?_
                refine pm_iconst (v := nI 0) hG dX12_person_133 (by decide) ?_
                refine pm_callV (As := [.int (nI kc2), .int (nI 1), .int (nI 0)]) (rest := []) hG hR dX12_person_134 (lkX12_97 _ rfl) okV_X12_sets rfl rfl (m_sets (d := 2) (e := 14 * kc2 + 111) (by omega) (by omega) (by omega)) rfl rfl hdd (Nat.le_refl _) (Nat.le_refl _) (by decide) (pm_kv (fun σ' cnt' hq => ?_))
                obtain ⟨rfl, rfl⟩ := hq
                obtain ⟨n_542, en_542⟩ : ∃ f : Nat → Int32, f = upd n_537 (14 * kc2 + 111) (nI 0) := ⟨_, rfl⟩
                rw [← en_542]
                have hnn_542 := KI.w en_542 hnn_537 (okv_f (show kd (14 * kc2 + 111) = (0, 0, false) from (kd_P (k := kc2) (c := 1) (by omega) (by omega) (by decide))))
                have hrn_542 := NRx.w en_542 hrn_537 (by rw [(show kd (14 * kc2 + 111) = (0, 0, false) from (kd_P (k := kc2) (c := 1) (by omega) (by omega) (by decide)))])
                have ksn_542 := KSh.w (h := 14 * kc2 + 110) en_542 ksn_537 (by unfold tS; omega)
                have e543 : n_542 0 = nI kc0 := by rw [en_542, pk_un (by omega)]; exact e538
                have e544 : n_542 8 = nI kc8 := by rw [en_542, pk_un (by omega)]; exact e539
                have e545 : n_542 2 = nI (kc2 + 1) := by rw [en_542, pk_un (by omega)]; exact e540
                have e546 : n_542 (14 * kc2 + 110) = nI 0 := by rw [en_542, pk_un (by omega)]; exact e541
                have e547 : n_542 (14 * kc2 + 111) = nI 0 := by rw [en_542, pk_us]
                refine pm_iincX (v := nI 2) (loc' := [some (.ref (B + 54)), some (.int za), some (.int zb), some (.int zc), some (.int zd), some (.int (nI 1)), some (.int (nI kc2)), some (.int (nI 2))]) hG dX12_person_137 rfl (nI_1 _) (by decide) (pm_c1b rfl) rfl ?_
                refine pm_goto (tgt := 121) hG dX12_person_140 rfl ?_
                refine pm_iloadi hG dX12_person_121 rfl ?_
                refine pm_bipush (v := nI 14) hG dX12_person_123 (by decide) ?_
                refine pm_icmpN_ge (tgt := 143) hG dX12_person_125 rfl (by omega) (by omega) (fun q => absurd q (by omega)) (fun _ => ?_)
                refine pm_aloadn hG dX12_person_128 rfl ?_
                refine pm_iloadi hG dX12_person_129 rfl ?_
                refine pm_iloadi hG dX12_person_131 rfl ?_
                refine pm_iconst (v := nI 0) hG dX12_person_133 (by decide) ?_
                refine pm_callV (As := [.int (nI kc2), .int (nI 2), .int (nI 0)]) (rest := []) hG hR dX12_person_134 (lkX12_97 _ rfl) okV_X12_sets rfl rfl (m_sets (d := 2) (e := 14 * kc2 + 112) (by omega) (by omega) (by omega)) rfl rfl hdd (Nat.le_refl _) (Nat.le_refl _) (by decide) (pm_kv (fun σ' cnt' hq => ?_))
                obtain ⟨rfl, rfl⟩ := hq
                obtain ⟨n_548, en_548⟩ : ∃ f : Nat → Int32, f = upd n_542 (14 * kc2 + 112) (nI 0) := ⟨_, rfl⟩
                rw [← en_548]
                have hnn_548 := KI.w en_548 hnn_542 (okv_o (show kd (14 * kc2 + 112) = (2, 20, false) from (kd_P (k := kc2) (c := 2) (by omega) (by omega) (by decide))) (by omega))
                have hrn_548 := NRx.w en_548 hrn_542 (by rw [(show kd (14 * kc2 + 112) = (2, 20, false) from (kd_P (k := kc2) (c := 2) (by omega) (by omega) (by decide)))])
                have ksn_548 := KSh.w (h := 14 * kc2 + 110) en_548 ksn_542 (by unfold tS; omega)
                have e549 : n_548 0 = nI kc0 := by rw [en_548, pk_un (by omega)]; exact e543
                have e550 : n_548 8 = nI kc8 := by rw [en_548, pk_un (by omega)]; exact e544
                have e551 : n_548 2 = nI (kc2 + 1) := by rw [en_548, pk_un (by omega)]; exact e545
                have e552 : n_548 (14 * kc2 + 110) = nI 0 := by rw [en_548, pk_un (by omega)]; exact e546
                have e553 : n_548 (14 * kc2 + 111) = nI 0 := by rw [en_548, pk_un (by omega)]; exact e547
                have e554 : n_548 (14 * kc2 + 112) = nI 0 := by rw [en_548, pk_us]
                refine pm_iincX (v := nI 3) (loc' := [some (.ref (B + 54)), some (.int za), some (.int zb), some (.int zc), some (.int zd), some (.int (nI 1)), some (.int (nI kc2)), some (.int (nI 3))]) hG dX12_person_137 rfl (nI_1 _) (by decide) (pm_c1b rfl) rfl ?_
                refine pm_goto (tgt := 121) hG dX12_person_140 rfl ?_
                refine pm_iloadi hG dX12_person_121 rfl ?_
                refine pm_bipush (v := nI 14) hG dX12_person_123 (by decide) ?_
                refine pm_icmpN_ge (tgt := 143) hG dX12_person_125 rfl (by omega) (by omega) (fun q => absurd q (by omega)) (fun _ => ?_)
                refine pm_aloadn hG dX12_person_128 rfl ?_
                refine pm_iloadi hG dX12_person_129 rfl ?_
                refine pm_iloadi hG dX12_person_131 rfl ?_
                refine pm_iconst (v := nI 0) hG dX12_person_133 (by decide) ?_
                refine pm_callV (As := [.int (nI kc2), .int (nI 3), .int (nI 0)]) (rest := []) hG hR dX12_person_134 (lkX12_97 _ rfl) okV_X12_sets rfl rfl (m_sets (d := 2) (e := 14 * kc2 + 113) (by omega) (by omega) (by omega)) rfl rfl hdd (Nat.le_refl _) (Nat.le_refl _) (by decide) (pm_kv (fun σ' cnt' hq => ?_))
                obtain ⟨rfl, rfl⟩ := hq
                obtain ⟨n_555, en_555⟩ : ∃ f : Nat → Int32, f = upd n_548 (14 * kc2 + 113) (nI 0) := ⟨_, rfl⟩
                rw [← en_555]
                have hnn_555 := KI.w en_555 hnn_548 (okv_o (show kd (14 * kc2 + 113) = (2, 20, false) from (kd_P (k := kc2) (c := 3) (by omega) (by omega) (by decide))) (by omega))
                have hrn_555 := NRx.w en_555 hrn_548 (by rw [(show kd (14 * kc2 + 113) = (2, 20, false) from (kd_P (k := kc2) (c := 3) (by omega) (by omega) (by decide)))])
                have ksn_555 := KSh.w (h := 14 * kc2 + 110) en_555 ksn_548 (by unfold tS; omega)
                have e556 : n_555 0 = nI kc0 := by rw [en_555, pk_un (by omega)]; exact e549
                have e557 : n_555 8 = nI kc8 := by rw [en_555, pk_un (by omega)]; exact e550
                have e558 : n_555 2 = nI (kc2 + 1) := by rw [en_555, pk_un (by omega)]; exact e551
                have e559 : n_555 (14 * kc2 + 110) = nI 0 := by rw [en_555, pk_un (by omega)]; exact e552
                have e560 : n_555 (14 * kc2 + 111) = nI 0 := by rw [en_555, pk_un (by omega)]; exact e553
                have e561 : n_555 (14 * kc2 + 113) = nI 0 := by rw [en_555, pk_us]
                refine pm_iincX (v := nI 4) (loc' := [some (.ref (B + 54)), some (.int za), some (.int zb), some (.int zc), some (.int zd), some (.int (nI 1)), some (.int (nI kc2)), some (.int (nI 4))]) hG dX12_person_137 rfl (nI_1 _) (by decide) (pm_c1b rfl) rfl ?_
                refine pm_goto (tgt := 121) hG dX12_person_140 rfl ?_
                refine pm_iloadi hG dX12_person_121 rfl ?_
                refine pm_bipush (v := nI 14) hG dX12_person_123 (by decide) ?_
                refine pm_icmpN_ge (tgt := 143) hG dX12_person_125 rfl (by omega) (by omega) (fun q => absurd q (by omega)) (fun _ => ?_)
                refine pm_aloadn hG dX12_person_128 rfl ?_
                refine pm_iloadi hG dX12_person_129 rfl ?_
                refine pm_iloadi hG dX12_person_131 rfl ?_
                refine pm_iconst (v := nI 0) hG dX12_person_133 (by decide) ?_
                refine pm_callV (As := [.int (nI kc2), .int (nI 4), .int (nI 0)]) (rest := []) hG hR dX12_person_134 (lkX12_97 _ rfl) okV_X12_sets rfl rfl (m_sets (d := 2) (e := 14 * kc2 + 114) (by omega) (by omega) (by omega)) rfl rfl hdd (Nat.le_refl _) (Nat.le_refl _) (by decide) (pm_kv (fun σ' cnt' hq => ?_))
                obtain ⟨rfl, rfl⟩ := hq
                obtain ⟨n_562, en_562⟩ : ∃ f : Nat → Int32, f = upd n_555 (14 * kc2 + 114) (nI 0) := ⟨_, rfl⟩
                rw [← en_562]
                have hnn_562 := KI.w en_562 hnn_555 (okv_o (show kd (14 * kc2 + 114) = (2, 10, false) from (kd_P (k := kc2) (c := 4) (by omega) (by omega) (by decide))) (by omega))
                have hrn_562 := NRx.w en_562 hrn_555 (by rw [(show kd (14 * kc2 + 114) = (2, 10, false) from (kd_P (k := kc2) (c := 4) (by omega) (by omega) (by decide)))])
                have ksn_562 := KSh.w (h := 14 * kc2 + 110) en_562 ksn_555 (by unfold tS; omega)
                have e563 : n_562 0 = nI kc0 := by rw [en_562, pk_un (by omega)]; exact e556
                have e564 : n_562 8 = nI kc8 := by rw [en_562, pk_un (by omega)]; exact e557
                have e565 : n_562 2 = nI (kc2 + 1) := by rw [en_562, pk_un (by omega)]; exact e558
                have e566 : n_562 (14 * kc2 + 110) = nI 0 := by rw [en_562, pk_un (by omega)]; exact e559
                have e567 : n_562 (14 * kc2 + 111) = nI 0 := by rw [en_562, pk_un (by omega)]; exact e560
                have e568 : n_562 (14 * kc2 + 114) = nI 0 := by rw [en_562, pk_us]
                refine pm_iincX (v := nI 5) (loc' := [some (.ref (B + 54)), some (.int za), some (.int zb), some (.int zc), some (.int zd), some (.int (nI 1)), some (.int (nI kc2)), some (.int (nI 5))]) hG dX12_person_137 rfl (nI_1 _) (by decide) (pm_c1b rfl) rfl ?_
                refine pm_goto (tgt := 121) hG dX12_person_140 rfl ?_
                refine pm_iloadi hG dX12_person_121 rfl ?_
                refine pm_bipush (v := nI 14) hG dX12_person_123 (by decide) ?_
                refine pm_icmpN_ge (tgt := 143) hG dX12_person_125 rfl (by omega) (by omega) (fun q => absurd q (by omega)) (fun _ => ?_)
                refine pm_aloadn hG dX12_person_128 rfl ?_
                refine pm_iloadi hG dX12_person_129 rfl ?_
                refine pm_iloadi hG dX12_person_131 rfl ?_
                refine pm_iconst (v := nI 0) hG dX12_person_133 (by decide) ?_
                refine pm_callV (As := [.int (nI kc2), .int (nI 5), .int (nI 0)]) (rest := []) hG hR dX12_person_134 (lkX12_97 _ rfl) okV_X12_sets rfl rfl (m_sets (d := 2) (e := 14 * kc2 + 115) (by omega) (by omega) (by omega)) rfl rfl hdd (Nat.le_refl _) (Nat.le_refl _) (by decide) (pm_kv (fun σ' cnt' hq => ?_))
                obtain ⟨rfl, rfl⟩ := hq
                obtain ⟨n_569, en_569⟩ : ∃ f : Nat → Int32, f = upd n_562 (14 * kc2 + 115) (nI 0) := ⟨_, rfl⟩
                rw [← en_569]
                have hnn_569 := KI.w en_569 hnn_562 (okv_n (show kd (14 * kc2 + 115) = (1, 10, false) from (kd_P (k := kc2) (c := 5) (by omega) (by omega) (by decide))) (by omega))
                have hrn_569 := NRx.w en_569 hrn_562 (by rw [(show kd (14 * kc2 + 115) = (1, 10, false) from (kd_P (k := kc2) (c := 5) (by omega) (by omega) (by decide)))])
                have ksn_569 := KSh.w (h := 14 * kc2 + 110) en_569 ksn_562 (by unfold tS; omega)
                have e570 : n_569 0 = nI kc0 := by rw [en_569, pk_un (by omega)]; exact e563
                have e571 : n_569 8 = nI kc8 := by rw [en_569, pk_un (by omega)]; exact e564
                have e572 : n_569 2 = nI (kc2 + 1) := by rw [en_569, pk_un (by omega)]; exact e565
                have e573 : n_569 (14 * kc2 + 110) = nI 0 := by rw [en_569, pk_un (by omega)]; exact e566
                have e574 : n_569 (14 * kc2 + 111) = nI 0 := by rw [en_569, pk_un (by omega)]; exact e567
                have e575 : n_569 (14 * kc2 + 115) = nI 0 := by rw [en_569, pk_us]
                refine pm_iincX (v := nI 6) (loc' := [some (.ref (B + 54)), some (.int za), some (.int zb), some (.int zc), some (.int zd), some (.int (nI 1)), some (.int (nI kc2)), some (.int (nI 6))]) hG dX12_person_137 rfl (nI_1 _) (by decide) (pm_c1b rfl) rfl ?_
                refine pm_goto (tgt := 121) hG dX12_person_140 rfl ?_
                refine pm_iloadi hG dX12_person_121 rfl ?_
                refine pm_bipush (v := nI 14) hG dX12_person_123 (by decide) ?_
                refine pm_icmpN_ge (tgt := 143) hG dX12_person_125 rfl (by omega) (by omega) (fun q => absurd q (by omega)) (fun _ => ?_)
                refine pm_aloadn hG dX12_person_128 rfl ?_
                refine pm_iloadi hG dX12_person_129 rfl ?_
                refine pm_iloadi hG dX12_person_131 rfl ?_
                refine pm_iconst (v := nI 0) hG dX12_person_133 (by decide) ?_
                refine pm_callV (As := [.int (nI kc2), .int (nI 6), .int (nI 0)]) (rest := []) hG hR dX12_person_134 (lkX12_97 _ rfl) okV_X12_sets rfl rfl (m_sets (d := 2) (e := 14 * kc2 + 116) (by omega) (by omega) (by omega)) rfl rfl hdd (Nat.le_refl _) (Nat.le_refl _) (by decide) (pm_kv (fun σ' cnt' hq => ?_))
                obtain ⟨rfl, rfl⟩ := hq
                obtain ⟨n_576, en_576⟩ : ∃ f : Nat → Int32, f = upd n_569 (14 * kc2 + 116) (nI 0) := ⟨_, rfl⟩
                rw [← en_576]
                have hnn_576 := KI.w en_576 hnn_569 (okv_f (show kd (14 * kc2 + 116) = (0, 0, false) from (kd_P (k := kc2) (c := 6) (by omega) (by omega) (by decide))))
                have hrn_576 := NRx.w en_576 hrn_569 (by rw [(show kd (14 * kc2 + 116) = (0, 0, false) from (kd_P (k := kc2) (c := 6) (by omega) (by omega) (by decide)))])
                have ksn_576 := KSh.w (h := 14 * kc2 + 110) en_576 ksn_569 (by unfold tS; omega)
                have e577 : n_576 0 = nI kc0 := by rw [en_576, pk_un (by omega)]; exact e570
                have e578 : n_576 8 = nI kc8 := by rw [en_576, pk_un (by omega)]; exact e571
                have e579 : n_576 2 = nI (kc2 + 1) := by rw [en_576, pk_un (by omega)]; exact e572
                have e580 : n_576 (14 * kc2 + 110) = nI 0 := by rw [en_576, pk_un (by omega)]; exact e573
                have e581 : n_576 (14 * kc2 + 111) = nI 0 := by rw [en_576, pk_un (by omega)]; exact e574
                have e582 : n_576 (14 * kc2 + 116) = nI 0 := by rw [en_576, pk_us]
                refine pm_iincX (v := nI 7) (loc' := [some (.ref (B + 54)), some (.int za), some (.int zb), some (.int zc), some (.int zd), some (.int (nI 1)), some (.int (nI kc2)), some (.int (nI 7))]) hG dX12_person_137 rfl (nI_1 _) (by decide) (pm_c1b rfl) rfl ?_
                refine pm_goto (tgt := 121) hG dX12_person_140 rfl ?_
                refine pm_iloadi hG dX12_person_121 rfl ?_
                refine pm_bipush (v := nI 14) hG dX12_person_123 (by decide) ?_
                refine pm_icmpN_ge (tgt := 143) hG dX12_person_125 rfl (by omega) (by omega) (fun q => absurd q (by omega)) (fun _ => ?_)
                refine pm_aloadn hG dX12_person_128 rfl ?_
                refine pm_iloadi hG dX12_person_129 rfl ?_
                refine pm_iloadi hG dX12_person_131 rfl ?_
                refine pm_iconst (v := nI 0) hG dX12_person_133 (by decide) ?_
                refine pm_callV (As := [.int (nI kc2), .int (nI 7), .int (nI 0)]) (rest := []) hG hR dX12_person_134 (lkX12_97 _ rfl) okV_X12_sets rfl rfl (m_sets (d := 2) (e := 14 * kc2 + 117) (by omega) (by omega) (by omega)) rfl rfl hdd (Nat.le_refl _) (Nat.le_refl _) (by decide) (pm_kv (fun σ' cnt' hq => ?_))
                obtain ⟨rfl, rfl⟩ := hq
                obtain ⟨n_583, en_583⟩ : ∃ f : Nat → Int32, f = upd n_576 (14 * kc2 + 117) (nI 0) := ⟨_, rfl⟩
                rw [← en_583]
                have hnn_583 := KI.w en_583 hnn_576 (okv_f (show kd (14 * kc2 + 117) = (0, 0, false) from (kd_P (k := kc2) (c := 7) (by omega) (by omega) (by decide))))
                have hrn_583 := NRx.w en_583 hrn_576 (by rw [(show kd (14 * kc2 + 117) = (0, 0, false) from (kd_P (k := kc2) (c := 7) (by omega) (by omega) (by decide)))])
                have ksn_583 := KSh.w (h := 14 * kc2 + 110) en_583 ksn_576 (by unfold tS; omega)
                have e584 : n_583 0 = nI kc0 := by rw [en_583, pk_un (by omega)]; exact e577
                have e585 : n_583 8 = nI kc8 := by rw [en_583, pk_un (by omega)]; exact e578
                have e586 : n_583 2 = nI (kc2 + 1) := by rw [en_583, pk_un (by omega)]; exact e579
                have e587 : n_583 (14 * kc2 + 110) = nI 0 := by rw [en_583, pk_un (by omega)]; exact e580
                have e588 : n_583 (14 * kc2 + 111) = nI 0 := by rw [en_583, pk_un (by omega)]; exact e581
                have e589 : n_583 (14 * kc2 + 117) = nI 0 := by rw [en_583, pk_us]
                refine pm_iincX (v := nI 8) (loc' := [some (.ref (B + 54)), some (.int za), some (.int zb), some (.int zc), some (.int zd), some (.int (nI 1)), some (.int (nI kc2)), some (.int (nI 8))]) hG dX12_person_137 rfl (nI_1 _) (by decide) (pm_c1b rfl) rfl ?_
                refine pm_goto (tgt := 121) hG dX12_person_140 rfl ?_
                refine pm_iloadi hG dX12_person_121 rfl ?_
                refine pm_bipush (v := nI 14) hG dX12_person_123 (by decide) ?_
                refine pm_icmpN_ge (tgt := 143) hG dX12_person_125 rfl (by omega) (by omega) (fun q => absurd q (by omega)) (fun _ => ?_)
                refine pm_aloadn hG dX12_person_128 rfl ?_
                refine pm_iloadi hG dX12_person_129 rfl ?_
                refine pm_iloadi hG dX12_person_131 rfl ?_
                refine pm_iconst (v := nI 0) hG dX12_person_133 (by decide) ?_
                refine pm_callV (As := [.int (nI kc2), .int (nI 8), .int (nI 0)]) (rest := []) hG hR dX12_person_134 (lkX12_97 _ rfl) okV_X12_sets rfl rfl (m_sets (d := 2) (e := 14 * kc2 + 118) (by omega) (by omega) (by omega)) rfl rfl hdd (Nat.le_refl _) (Nat.le_refl _) (by decide) (pm_kv (fun σ' cnt' hq => ?_))
                obtain ⟨rfl, rfl⟩ := hq
                obtain ⟨n_590, en_590⟩ : ∃ f : Nat → Int32, f = upd n_583 (14 * kc2 + 118) (nI 0) := ⟨_, rfl⟩
                rw [← en_590]
                have hnn_590 := KI.w en_590 hnn_583 (okv_f (show kd (14 * kc2 + 118) = (0, 0, false) from (kd_P (k := kc2) (c := 8) (by omega) (by omega) (by decide))))
                have hrn_590 := NRx.w en_590 hrn_583 (by rw [(show kd (14 * kc2 + 118) = (0, 0, false) from (kd_P (k := kc2) (c := 8) (by omega) (by omega) (by decide)))])
                have ksn_590 := KSh.w (h := 14 * kc2 + 110) en_590 ksn_583 (by unfold tS; omega)
                have e591 : n_590 0 = nI kc0 := by rw [en_590, pk_un (by omega)]; exact e584
                have e592 : n_590 8 = nI kc8 := by rw [en_590, pk_un (by omega)]; exact e585
                have e593 : n_590 2 = nI (kc2 + 1) := by rw [en_590, pk_un (by omega)]; exact e586
                have e594 : n_590 (14 * kc2 + 110) = nI 0 := by rw [en_590, pk_un (by omega)]; exact e587
                have e595 : n_590 (14 * kc2 + 111) = nI 0 := by rw [en_590, pk_un (by omega)]; exact e588
                have e596 : n_590 (14 * kc2 + 118) = nI 0 := by rw [en_590, pk_us]
                refine pm_iincX (v := nI 9) (loc' := [some (.ref (B + 54)), some (.int za), some (.int zb), some (.int zc), some (.int zd), some (.int (nI 1)), some (.int (nI kc2)), some (.int (nI 9))]) hG dX12_person_137 rfl (nI_1 _) (by decide) (pm_c1b rfl) rfl ?_
                refine pm_goto (tgt := 121) hG dX12_person_140 rfl ?_
                refine pm_iloadi hG dX12_person_121 rfl ?_
                refine pm_bipush (v := nI 14) hG dX12_person_123 (by decide) ?_
                refine pm_icmpN_ge (tgt := 143) hG dX12_person_125 rfl (by omega) (by omega) (fun q => absurd q (by omega)) (fun _ => ?_)
                refine pm_aloadn hG dX12_person_128 rfl ?_
                refine pm_iloadi hG dX12_person_129 rfl ?_
                refine pm_iloadi hG dX12_person_131 rfl ?_
                refine pm_iconst (v := nI 0) hG dX12_person_133 (by decide) ?_
                refine pm_callV (As := [.int (nI kc2), .int (nI 9), .int (nI 0)]) (rest := []) hG hR dX12_person_134 (lkX12_97 _ rfl) okV_X12_sets rfl rfl (m_sets (d := 2) (e := 14 * kc2 + 119) (by omega) (by omega) (by omega)) rfl rfl hdd (Nat.le_refl _) (Nat.le_refl _) (by decide) (pm_kv (fun σ' cnt' hq => ?_))
                obtain ⟨rfl, rfl⟩ := hq
                obtain ⟨n_597, en_597⟩ : ∃ f : Nat → Int32, f = upd n_590 (14 * kc2 + 119) (nI 0) := ⟨_, rfl⟩
                rw [← en_597]
                have hnn_597 := KI.w en_597 hnn_590 (okv_o (show kd (14 * kc2 + 119) = (2, 2001, false) from (kd_P (k := kc2) (c := 9) (by omega) (by omega) (by decide))) (by omega))
                have hrn_597 := NRx.w en_597 hrn_590 (by rw [(show kd (14 * kc2 + 119) = (2, 2001, false) from (kd_P (k := kc2) (c := 9) (by omega) (by omega) (by decide)))])
                have ksn_597 := KSh.w (h := 14 * kc2 + 110) en_597 ksn_590 (by unfold tS; omega)
                have e598 : n_597 0 = nI kc0 := by rw [en_597, pk_un (by omega)]; exact e591
                have e599 : n_597 8 = nI kc8 := by rw [en_597, pk_un (by omega)]; exact e592
                have e600 : n_597 2 = nI (kc2 + 1) := by rw [en_597, pk_un (by omega)]; exact e593
                have e601 : n_597 (14 * kc2 + 110) = nI 0 := by rw [en_597, pk_un (by omega)]; exact e594
                have e602 : n_597 (14 * kc2 + 111) = nI 0 := by rw [en_597, pk_un (by omega)]; exact e595
                have e603 : n_597 (14 * kc2 + 119) = nI 0 := by rw [en_597, pk_us]
                refine pm_iincX (v := nI 10) (loc' := [some (.ref (B + 54)), some (.int za), some (.int zb), some (.int zc), some (.int zd), some (.int (nI 1)), some (.int (nI kc2)), some (.int (nI 10))]) hG dX12_person_137 rfl (nI_1 _) (by decide) (pm_c1b rfl) rfl ?_
                refine pm_goto (tgt := 121) hG dX12_person_140 rfl ?_
                refine pm_iloadi hG dX12_person_121 rfl ?_
                refine pm_bipush (v := nI 14) hG dX12_person_123 (by decide) ?_
                refine pm_icmpN_ge (tgt := 143) hG dX12_person_125 rfl (by omega) (by omega) (fun q => absurd q (by omega)) (fun _ => ?_)
                refine pm_aloadn hG dX12_person_128 rfl ?_
                refine pm_iloadi hG dX12_person_129 rfl ?_
                refine pm_iloadi hG dX12_person_131 rfl ?_
                refine pm_iconst (v := nI 0) hG dX12_person_133 (by decide) ?_
                refine pm_callV (As := [.int (nI kc2), .int (nI 10), .int (nI 0)]) (rest := []) hG hR dX12_person_134 (lkX12_97 _ rfl) okV_X12_sets rfl rfl (m_sets (d := 2) (e := 14 * kc2 + 120) (by omega) (by omega) (by omega)) rfl rfl hdd (Nat.le_refl _) (Nat.le_refl _) (by decide) (pm_kv (fun σ' cnt' hq => ?_))
                obtain ⟨rfl, rfl⟩ := hq
                obtain ⟨n_604, en_604⟩ : ∃ f : Nat → Int32, f = upd n_597 (14 * kc2 + 120) (nI 0) := ⟨_, rfl⟩
                rw [← en_604]
                have hnn_604 := KI.w en_604 hnn_597 (okv_f (show kd (14 * kc2 + 120) = (0, 0, false) from (kd_P (k := kc2) (c := 10) (by omega) (by omega) (by decide))))
                have hrn_604 := NRx.w en_604 hrn_597 (by rw [(show kd (14 * kc2 + 120) = (0, 0, false) from (kd_P (k := kc2) (c := 10) (by omega) (by omega) (by decide)))])
                have ksn_604 := KSh.w (h := 14 * kc2 + 110) en_604 ksn_597 (by unfold tS; omega)
                have e605 : n_604 0 = nI kc0 := by rw [en_604, pk_un (by omega)]; exact e598
                have e606 : n_604 8 = nI kc8 := by rw [en_604, pk_un (by omega)]; exact e599
                have e607 : n_604 2 = nI (kc2 + 1) := by rw [en_604, pk_un (by omega)]; exact e600
                have e608 : n_604 (14 * kc2 + 110) = nI 0 := by rw [en_604, pk_un (by omega)]; exact e601
                have e609 : n_604 (14 * kc2 + 111) = nI 0 := by rw [en_604, pk_un (by omega)]; exact e602
                have e610 : n_604 (14 * kc2 + 120) = nI 0 := by rw [en_604, pk_us]
                refine pm_iincX (v := nI 11) (loc' := [some (.ref (B + 54)), some (.int za), some (.int zb), some (.int zc), some (.int zd), some (.int (nI 1)), some (.int (nI kc2)), some (.int (nI 11))]) hG dX12_person_137 rfl (nI_1 _) (by decide) (pm_c1b rfl) rfl ?_
                refine pm_goto (tgt := 121) hG dX12_person_140 rfl ?_
                refine pm_iloadi hG dX12_person_121 rfl ?_
                refine pm_bipush (v := nI 14) hG dX12_person_123 (by decide) ?_
                refine pm_icmpN_ge (tgt := 143) hG dX12_person_125 rfl (by omega) (by omega) (fun q => absurd q (by omega)) (fun _ => ?_)
                refine pm_aloadn hG dX12_person_128 rfl ?_
                refine pm_iloadi hG dX12_person_129 rfl ?_
                refine pm_iloadi hG dX12_person_131 rfl ?_
                refine pm_iconst (v := nI 0) hG dX12_person_133 (by decide) ?_
                refine pm_callV (As := [.int (nI kc2), .int (nI 11), .int (nI 0)]) (rest := []) hG hR dX12_person_134 (lkX12_97 _ rfl) okV_X12_sets rfl rfl (m_sets (d := 2) (e := 14 * kc2 + 121) (by omega) (by omega) (by omega)) rfl rfl hdd (Nat.le_refl _) (Nat.le_refl _) (by decide) (pm_kv (fun σ' cnt' hq => ?_))
                obtain ⟨rfl, rfl⟩ := hq
                obtain ⟨n_611, en_611⟩ : ∃ f : Nat → Int32, f = upd n_604 (14 * kc2 + 121) (nI 0) := ⟨_, rfl⟩
                rw [← en_611]
                have hnn_611 := KI.w en_611 hnn_604 (okv_n (show kd (14 * kc2 + 121) = (1, 2, true) from (kd_P (k := kc2) (c := 11) (by omega) (by omega) (by decide))) (by omega))
                have hrn_611 := NRx.unseat (p := kc2) en_611 hrn_604 (by omega)
                have ksn_611 := KSh.w (h := 14 * kc2 + 110) en_611 ksn_604 (by unfold tS; omega)
                have e612 : n_611 0 = nI kc0 := by rw [en_611, pk_un (by omega)]; exact e605
                have e613 : n_611 8 = nI kc8 := by rw [en_611, pk_un (by omega)]; exact e606
                have e614 : n_611 2 = nI (kc2 + 1) := by rw [en_611, pk_un (by omega)]; exact e607
                have e615 : n_611 (14 * kc2 + 110) = nI 0 := by rw [en_611, pk_un (by omega)]; exact e608
                have e616 : n_611 (14 * kc2 + 111) = nI 0 := by rw [en_611, pk_un (by omega)]; exact e609
                have e617 : n_611 (14 * kc2 + 121) = nI 0 := by rw [en_611, pk_us]
                refine pm_iincX (v := nI 12) (loc' := [some (.ref (B + 54)), some (.int za), some (.int zb), some (.int zc), some (.int zd), some (.int (nI 1)), some (.int (nI kc2)), some (.int (nI 12))]) hG dX12_person_137 rfl (nI_1 _) (by decide) (pm_c1b rfl) rfl ?_
                refine pm_goto (tgt := 121) hG dX12_person_140 rfl ?_
                refine pm_iloadi hG dX12_person_121 rfl ?_
                refine pm_bipush (v := nI 14) hG dX12_person_123 (by decide) ?_
                refine pm_icmpN_ge (tgt := 143) hG dX12_person_125 rfl (by omega) (by omega) (fun q => absurd q (by omega)) (fun _ => ?_)
                refine pm_aloadn hG dX12_person_128 rfl ?_
                refine pm_iloadi hG dX12_person_129 rfl ?_
                refine pm_iloadi hG dX12_person_131 rfl ?_
                refine pm_iconst (v := nI 0) hG dX12_person_133 (by decide) ?_
                refine pm_callV (As := [.int (nI kc2), .int (nI 12), .int (nI 0)]) (rest := []) hG hR dX12_person_134 (lkX12_97 _ rfl) okV_X12_sets rfl rfl (m_sets (d := 2) (e := 14 * kc2 + 122) (by omega) (by omega) (by omega)) rfl rfl hdd (Nat.le_refl _) (Nat.le_refl _) (by decide) (pm_kv (fun σ' cnt' hq => ?_))
                obtain ⟨rfl, rfl⟩ := hq
                obtain ⟨n_618, en_618⟩ : ∃ f : Nat → Int32, f = upd n_611 (14 * kc2 + 122) (nI 0) := ⟨_, rfl⟩
                rw [← en_618]
                have hnn_618 := KI.w en_618 hnn_611 (okv_f (show kd (14 * kc2 + 122) = (0, 0, false) from (kd_P (k := kc2) (c := 12) (by omega) (by omega) (by decide))))
                have hrn_618 := NRx.w en_618 hrn_611 (by rw [(show kd (14 * kc2 + 122) = (0, 0, false) from (kd_P (k := kc2) (c := 12) (by omega) (by omega) (by decide)))])
                have ksn_618 := KSh.w (h := 14 * kc2 + 110) en_618 ksn_611 (by unfold tS; omega)
                have e619 : n_618 0 = nI kc0 := by rw [en_618, pk_un (by omega)]; exact e612
                have e620 : n_618 8 = nI kc8 := by rw [en_618, pk_un (by omega)]; exact e613
                have e621 : n_618 2 = nI (kc2 + 1) := by rw [en_618, pk_un (by omega)]; exact e614
                have e622 : n_618 (14 * kc2 + 110) = nI 0 := by rw [en_618, pk_un (by omega)]; exact e615
                have e623 : n_618 (14 * kc2 + 111) = nI 0 := by rw [en_618, pk_un (by omega)]; exact e616
                have e624 : n_618 (14 * kc2 + 122) = nI 0 := by rw [en_618, pk_us]
                refine pm_iincX (v := nI 13) (loc' := [some (.ref (B + 54)), some (.int za), some (.int zb), some (.int zc), some (.int zd), some (.int (nI 1)), some (.int (nI kc2)), some (.int (nI 13))]) hG dX12_person_137 rfl (nI_1 _) (by decide) (pm_c1b rfl) rfl ?_
                refine pm_goto (tgt := 121) hG dX12_person_140 rfl ?_
                refine pm_iloadi hG dX12_person_121 rfl ?_
                refine pm_bipush (v := nI 14) hG dX12_person_123 (by decide) ?_
                refine pm_icmpN_ge (tgt := 143) hG dX12_person_125 rfl (by omega) (by omega) (fun q => absurd q (by omega)) (fun _ => ?_)
                refine pm_aloadn hG dX12_person_128 rfl ?_
                refine pm_iloadi hG dX12_person_129 rfl ?_
                refine pm_iloadi hG dX12_person_131 rfl ?_
                refine pm_iconst (v := nI 0) hG dX12_person_133 (by decide) ?_
                refine pm_callV (As := [.int (nI kc2), .int (nI 13), .int (nI 0)]) (rest := []) hG hR dX12_person_134 (lkX12_97 _ rfl) okV_X12_sets rfl rfl (m_sets (d := 2) (e := 14 * kc2 + 123) (by omega) (by omega) (by omega)) rfl rfl hdd (Nat.le_refl _) (Nat.le_refl _) (by decide) (pm_kv (fun σ' cnt' hq => ?_))
                obtain ⟨rfl, rfl⟩ := hq
                obtain ⟨n_625, en_625⟩ : ∃ f : Nat → Int32, f = upd n_618 (14 * kc2 + 123) (nI 0) := ⟨_, rfl⟩
                rw [← en_625]
                have hnn_625 := KI.w en_625 hnn_618 (okv_f (show kd (14 * kc2 + 123) = (0, 0, false) from (kd_P (k := kc2) (c := 13) (by omega) (by omega) (by decide))))
                have hrn_625 := NRx.w en_625 hrn_618 (by rw [(show kd (14 * kc2 + 123) = (0, 0, false) from (kd_P (k := kc2) (c := 13) (by omega) (by omega) (by decide)))])
                have ksn_625 := KSh.w (h := 14 * kc2 + 110) en_625 ksn_618 (by unfold tS; omega)
                have e626 : n_625 0 = nI kc0 := by rw [en_625, pk_un (by omega)]; exact e619
                have e627 : n_625 8 = nI kc8 := by rw [en_625, pk_un (by omega)]; exact e620
                have e628 : n_625 2 = nI (kc2 + 1) := by rw [en_625, pk_un (by omega)]; exact e621
                have e629 : n_625 (14 * kc2 + 110) = nI 0 := by rw [en_625, pk_un (by omega)]; exact e622
                have e630 : n_625 (14 * kc2 + 111) = nI 0 := by rw [en_625, pk_un (by omega)]; exact e623
                have e631 : n_625 (14 * kc2 + 122) = nI 0 := by rw [en_625, pk_un (by omega)]; exact e624
                have e632 : n_625 (14 * kc2 + 123) = nI 0 := by rw [en_625, pk_us]
                refine pm_iincX (v := nI 14) (loc' := [some (.ref (B + 54)), some (.int za), some (.int zb), some (.int zc), some (.int zd), some (.int (nI 1)), some (.int (nI kc2)), some (.int (nI 14))]) hG dX12_person_137 rfl (nI_1 _) (by decide) (pm_c1b rfl) rfl ?_
                refine pm_goto (tgt := 121) hG dX12_person_140 rfl ?_
                refine pm_iloadi hG dX12_person_121 rfl ?_
                refine pm_bipush (v := nI 14) hG dX12_person_123 (by decide) ?_
                refine pm_icmpN_ge (tgt := 143) hG dX12_person_125 rfl (by omega) (by omega) (fun _ => ?_) (fun q => absurd q (by omega))
                refine pm_aloadn hG dX12_person_143 rfl ?_
                refine pm_iloadi hG dX12_person_144 rfl ?_
                refine pm_iconst (v := nI 0) hG dX12_person_146 (by decide) ?_
                refine pm_iloadn hG dX12_person_147 rfl ?_
                refine pm_top (v := nI k3) ek3 ?_
                refine pm_callV (As := [.int (nI kc2), .int (nI 0), .int (nI k3)]) (rest := []) hG hR dX12_person_148 (lkX12_97 _ rfl) okV_X12_sets rfl rfl (m_sets (d := 2) (e := 14 * kc2 + 110) (by omega) (by omega) (by omega)) rfl rfl hdd (Nat.le_refl _) (Nat.le_refl _) (by decide) (pm_kv (fun σ' cnt' hq => ?_))
                obtain ⟨rfl, rfl⟩ := hq
                obtain ⟨n_633, en_633⟩ : ∃ f : Nat → Int32, f = upd n_625 (14 * kc2 + 110) (nI k3) := ⟨_, rfl⟩
                rw [← en_633]
                have hnn_633 := KI.w en_633 hnn_625 (okv_f (show kd (14 * kc2 + 110) = (0, 0, false) from (kd_P (k := kc2) (c := 0) (by omega) (by omega) (by decide))))
                have hrn_633 := NRx.w en_633 hrn_625 (by rw [(show kd (14 * kc2 + 110) = (0, 0, false) from (kd_P (k := kc2) (c := 0) (by omega) (by omega) (by decide)))])
                have ksn_633 := KSh.w (h := 14 * kc2 + 110) en_633 ksn_625 (by unfold tS; omega)
                have e634 : n_633 0 = nI kc0 := by rw [en_633, pk_un (by omega)]; exact e626
                have e635 : n_633 8 = nI kc8 := by rw [en_633, pk_un (by omega)]; exact e627
                have e636 : n_633 2 = nI (kc2 + 1) := by rw [en_633, pk_un (by omega)]; exact e628
                have e637 : n_633 (14 * kc2 + 111) = nI 0 := by rw [en_633, pk_un (by omega)]; exact e630
                have e638 : n_633 (14 * kc2 + 122) = nI 0 := by rw [en_633, pk_un (by omega)]; exact e631
                have e639 : n_633 (14 * kc2 + 110) = nI k3 := by rw [en_633, pk_us]
                refine pm_aloadn hG dX12_person_151 rfl ?_
                refine pm_iloadi hG dX12_person_152 rfl ?_
                refine pm_iconst (v := nI 1) hG dX12_person_154 (by decide) ?_
                refine pm_iloadn hG dX12_person_155 rfl ?_
                refine pm_callV (As := [.int (nI kc2), .int (nI 1), .int zb]) (rest := []) hG hR dX12_person_156 (lkX12_97 _ rfl) okV_X12_sets rfl rfl (m_sets (d := 2) (e := 14 * kc2 + 111) (by omega) (by omega) (by omega)) rfl rfl hdd (Nat.le_refl _) (Nat.le_refl _) (by decide) (pm_kv (fun σ' cnt' hq => ?_))
                obtain ⟨rfl, rfl⟩ := hq
                obtain ⟨n_640, en_640⟩ : ∃ f : Nat → Int32, f = upd n_633 (14 * kc2 + 111) zb := ⟨_, rfl⟩
                rw [← en_640]
                have hnn_640 := KI.w en_640 hnn_633 (okv_f (show kd (14 * kc2 + 111) = (0, 0, false) from (kd_P (k := kc2) (c := 1) (by omega) (by omega) (by decide))))
                have hrn_640 := NRx.w en_640 hrn_633 (by rw [(show kd (14 * kc2 + 111) = (0, 0, false) from (kd_P (k := kc2) (c := 1) (by omega) (by omega) (by decide)))])
                have ksn_640 := KSh.w (h := 14 * kc2 + 110) en_640 ksn_633 (by unfold tS; omega)
                have e641 : n_640 0 = nI kc0 := by rw [en_640, pk_un (by omega)]; exact e634
                have e642 : n_640 8 = nI kc8 := by rw [en_640, pk_un (by omega)]; exact e635
                have e643 : n_640 2 = nI (kc2 + 1) := by rw [en_640, pk_un (by omega)]; exact e636
                have e644 : n_640 (14 * kc2 + 122) = nI 0 := by rw [en_640, pk_un (by omega)]; exact e638
                have e645 : n_640 (14 * kc2 + 110) = nI k3 := by rw [en_640, pk_un (by omega)]; exact e639
                have e646 : n_640 (14 * kc2 + 111) = zb := by rw [en_640, pk_us]
                refine pm_aloadn hG dX12_person_159 rfl ?_
                refine pm_iloadi hG dX12_person_160 rfl ?_
                refine pm_iconst (v := nI 2) hG dX12_person_162 (by decide) ?_
                refine pm_iloadn hG dX12_person_163 rfl ?_
                refine pm_top (v := nI k9) ek9 ?_
                refine pm_bipush (v := nI 100) hG dX12_person_164 (by decide) ?_
                refine pm_idivN hG dX12_person_166 (by omega) (by decide) (by decide) ?_
                refine pm_iconst (v := nI 1) hG dX12_person_167 (by decide) ?_
                refine pm_isub hG dX12_person_168 ?_
                refine pm_top (v := nI k11) ek11 ?_
                refine pm_callV (As := [.int (nI kc2), .int (nI 2), .int (nI k11)]) (rest := []) hG hR dX12_person_169 (lkX12_97 _ rfl) okV_X12_sets rfl rfl (m_sets (d := 2) (e := 14 * kc2 + 112) (by omega) (by omega) (by omega)) rfl rfl hdd (Nat.le_refl _) (Nat.le_refl _) (by decide) (pm_kv (fun σ' cnt' hq => ?_))
                obtain ⟨rfl, rfl⟩ := hq
                obtain ⟨n_647, en_647⟩ : ∃ f : Nat → Int32, f = upd n_640 (14 * kc2 + 112) (nI k11) := ⟨_, rfl⟩
                rw [← en_647]
                have hnn_647 := KI.w en_647 hnn_640 (okv_o (show kd (14 * kc2 + 112) = (2, 20, false) from (kd_P (k := kc2) (c := 2) (by omega) (by omega) (by decide))) (by omega))
                have hrn_647 := NRx.w en_647 hrn_640 (by rw [(show kd (14 * kc2 + 112) = (2, 20, false) from (kd_P (k := kc2) (c := 2) (by omega) (by omega) (by decide)))])
                have ksn_647 := KSh.w (h := 14 * kc2 + 110) en_647 ksn_640 (by unfold tS; omega)
                have e648 : n_647 0 = nI kc0 := by rw [en_647, pk_un (by omega)]; exact e641
                have e649 : n_647 8 = nI kc8 := by rw [en_647, pk_un (by omega)]; exact e642
                have e650 : n_647 2 = nI (kc2 + 1) := by rw [en_647, pk_un (by omega)]; exact e643
                have e651 : n_647 (14 * kc2 + 122) = nI 0 := by rw [en_647, pk_un (by omega)]; exact e644
                have e652 : n_647 (14 * kc2 + 110) = nI k3 := by rw [en_647, pk_un (by omega)]; exact e645
                have e653 : n_647 (14 * kc2 + 111) = zb := by rw [en_647, pk_un (by omega)]; exact e646
                have e654 : n_647 (14 * kc2 + 112) = nI k11 := by rw [en_647, pk_us]
                refine pm_aloadn hG dX12_person_172 rfl ?_
                refine pm_iloadi hG dX12_person_173 rfl ?_
                refine pm_iconst (v := nI 3) hG dX12_person_175 (by decide) ?_
                refine pm_iloadn hG dX12_person_176 rfl ?_
                refine pm_top (v := nI k9) ek9 ?_
                refine pm_bipush (v := nI 100) hG dX12_person_177 (by decide) ?_
                refine pm_iremM hG dX12_person_179 (by omega) (by decide) (by decide) ?_
                refine pm_iconst (v := nI 1) hG dX12_person_180 (by decide) ?_
                refine pm_isub hG dX12_person_181 ?_
                refine pm_top (v := nI k357) ek357 ?_
                refine pm_callV (As := [.int (nI kc2), .int (nI 3), .int (nI k357)]) (rest := []) hG hR dX12_person_182 (lkX12_97 _ rfl) okV_X12_sets rfl rfl (m_sets (d := 2) (e := 14 * kc2 + 113) (by omega) (by omega) (by omega)) rfl rfl hdd (Nat.le_refl _) (Nat.le_refl _) (by decide) (pm_kv (fun σ' cnt' hq => ?_))
                obtain ⟨rfl, rfl⟩ := hq
                obtain ⟨n_655, en_655⟩ : ∃ f : Nat → Int32, f = upd n_647 (14 * kc2 + 113) (nI k357) := ⟨_, rfl⟩
                rw [← en_655]
                have hnn_655 := KI.w en_655 hnn_647 (okv_o (show kd (14 * kc2 + 113) = (2, 20, false) from (kd_P (k := kc2) (c := 3) (by omega) (by omega) (by decide))) (by omega))
                have hrn_655 := NRx.w en_655 hrn_647 (by rw [(show kd (14 * kc2 + 113) = (2, 20, false) from (kd_P (k := kc2) (c := 3) (by omega) (by omega) (by decide)))])
                have ksn_655 := KSh.w (h := 14 * kc2 + 110) en_655 ksn_647 (by unfold tS; omega)
                have e656 : n_655 0 = nI kc0 := by rw [en_655, pk_un (by omega)]; exact e648
                have e657 : n_655 8 = nI kc8 := by rw [en_655, pk_un (by omega)]; exact e649
                have e658 : n_655 2 = nI (kc2 + 1) := by rw [en_655, pk_un (by omega)]; exact e650
                have e659 : n_655 (14 * kc2 + 122) = nI 0 := by rw [en_655, pk_un (by omega)]; exact e651
                have e660 : n_655 (14 * kc2 + 110) = nI k3 := by rw [en_655, pk_un (by omega)]; exact e652
                have e661 : n_655 (14 * kc2 + 111) = zb := by rw [en_655, pk_un (by omega)]; exact e653
                have e662 : n_655 (14 * kc2 + 113) = nI k357 := by rw [en_655, pk_us]
                refine pm_aloadn hG dX12_person_185 rfl ?_
                refine pm_iloadi hG dX12_person_186 rfl ?_
                refine pm_iconst (v := nI 4) hG dX12_person_188 (by decide) ?_
                refine pm_iloadi hG dX12_person_189 rfl ?_
                refine pm_top (v := nI k531) ek531 ?_
                refine pm_callV (As := [.int (nI kc2), .int (nI 4), .int (nI k531)]) (rest := []) hG hR dX12_person_191 (lkX12_97 _ rfl) okV_X12_sets rfl rfl (m_sets (d := 2) (e := 14 * kc2 + 114) (by omega) (by omega) (by omega)) rfl rfl hdd (Nat.le_refl _) (Nat.le_refl _) (by decide) (pm_kv (fun σ' cnt' hq => ?_))
                obtain ⟨rfl, rfl⟩ := hq
                obtain ⟨n_663, en_663⟩ : ∃ f : Nat → Int32, f = upd n_655 (14 * kc2 + 114) (nI k531) := ⟨_, rfl⟩
                rw [← en_663]
                have hnn_663 := KI.w en_663 hnn_655 (okv_o (show kd (14 * kc2 + 114) = (2, 10, false) from (kd_P (k := kc2) (c := 4) (by omega) (by omega) (by decide))) (by omega))
                have hrn_663 := NRx.w en_663 hrn_655 (by rw [(show kd (14 * kc2 + 114) = (2, 10, false) from (kd_P (k := kc2) (c := 4) (by omega) (by omega) (by decide)))])
                have ksn_663 := KSh.w (h := 14 * kc2 + 110) en_663 ksn_655 (by unfold tS; omega)
                have e664 : n_663 0 = nI kc0 := by rw [en_663, pk_un (by omega)]; exact e656
                have e665 : n_663 8 = nI kc8 := by rw [en_663, pk_un (by omega)]; exact e657
                have e666 : n_663 2 = nI (kc2 + 1) := by rw [en_663, pk_un (by omega)]; exact e658
                have e667 : n_663 (14 * kc2 + 122) = nI 0 := by rw [en_663, pk_un (by omega)]; exact e659
                have e668 : n_663 (14 * kc2 + 110) = nI k3 := by rw [en_663, pk_un (by omega)]; exact e660
                have e669 : n_663 (14 * kc2 + 111) = zb := by rw [en_663, pk_un (by omega)]; exact e661
                have e670 : n_663 (14 * kc2 + 114) = nI k531 := by rw [en_663, pk_us]
                refine pm_aloadn hG dX12_person_194 rfl ?_
                refine pm_iloadi hG dX12_person_195 rfl ?_
                refine pm_bipush (v := nI 9) hG dX12_person_197 (by decide) ?_
                refine pm_iconst (v := (-1)) hG dX12_person_199 (by decide) ?_
                refine pm_callV (As := [.int (nI kc2), .int (nI 9), .int (-1)]) (rest := []) hG hR dX12_person_200 (lkX12_97 _ rfl) okV_X12_sets rfl rfl (m_sets (d := 2) (e := 14 * kc2 + 119) (by omega) (by omega) (by omega)) rfl rfl hdd (Nat.le_refl _) (Nat.le_refl _) (by decide) (pm_kv (fun σ' cnt' hq => ?_))
                obtain ⟨rfl, rfl⟩ := hq
                obtain ⟨n_671, en_671⟩ : ∃ f : Nat → Int32, f = upd n_663 (14 * kc2 + 119) (-1) := ⟨_, rfl⟩
                rw [← en_671]
                have hnn_671 := KI.w en_671 hnn_663 (okv_m (show kd (14 * kc2 + 119) = (2, 2001, false) from (kd_P (k := kc2) (c := 9) (by omega) (by omega) (by decide))))
                have hrn_671 := NRx.w en_671 hrn_663 (by rw [(show kd (14 * kc2 + 119) = (2, 2001, false) from (kd_P (k := kc2) (c := 9) (by omega) (by omega) (by decide)))])
                have ksn_671 := KSh.w (h := 14 * kc2 + 110) en_671 ksn_663 (by unfold tS; omega)
                have e672 : n_671 0 = nI kc0 := by rw [en_671, pk_un (by omega)]; exact e664
                have e673 : n_671 8 = nI kc8 := by rw [en_671, pk_un (by omega)]; exact e665
                have e674 : n_671 2 = nI (kc2 + 1) := by rw [en_671, pk_un (by omega)]; exact e666
                have e675 : n_671 (14 * kc2 + 122) = nI 0 := by rw [en_671, pk_un (by omega)]; exact e667
                have e676 : n_671 (14 * kc2 + 110) = nI k3 := by rw [en_671, pk_un (by omega)]; exact e668
                have e677 : n_671 (14 * kc2 + 111) = zb := by rw [en_671, pk_un (by omega)]; exact e669
                have e678 : n_671 (14 * kc2 + 119) = (-1) := by rw [en_671, pk_us]
                refine pm_aloadn hG dX12_person_203 rfl ?_
                refine pm_iloadi hG dX12_person_204 rfl ?_
                refine pm_bipush (v := nI 10) hG dX12_person_206 (by decide) ?_
                refine pm_iconst (v := (-1)) hG dX12_person_208 (by decide) ?_
                refine pm_callV (As := [.int (nI kc2), .int (nI 10), .int (-1)]) (rest := []) hG hR dX12_person_209 (lkX12_97 _ rfl) okV_X12_sets rfl rfl (m_sets (d := 2) (e := 14 * kc2 + 120) (by omega) (by omega) (by omega)) rfl rfl hdd (Nat.le_refl _) (Nat.le_refl _) (by decide) (pm_kv (fun σ' cnt' hq => ?_))
                obtain ⟨rfl, rfl⟩ := hq
                obtain ⟨n_679, en_679⟩ : ∃ f : Nat → Int32, f = upd n_671 (14 * kc2 + 120) (-1) := ⟨_, rfl⟩
                rw [← en_679]
                have hnn_679 := KI.w en_679 hnn_671 (okv_f (show kd (14 * kc2 + 120) = (0, 0, false) from (kd_P (k := kc2) (c := 10) (by omega) (by omega) (by decide))))
                have hrn_679 := NRx.w en_679 hrn_671 (by rw [(show kd (14 * kc2 + 120) = (0, 0, false) from (kd_P (k := kc2) (c := 10) (by omega) (by omega) (by decide)))])
                have ksn_679 := KSh.w (h := 14 * kc2 + 110) en_679 ksn_671 (by unfold tS; omega)
                have e680 : n_679 0 = nI kc0 := by rw [en_679, pk_un (by omega)]; exact e672
                have e681 : n_679 8 = nI kc8 := by rw [en_679, pk_un (by omega)]; exact e673
                have e682 : n_679 2 = nI (kc2 + 1) := by rw [en_679, pk_un (by omega)]; exact e674
                have e683 : n_679 (14 * kc2 + 122) = nI 0 := by rw [en_679, pk_un (by omega)]; exact e675
                have e684 : n_679 (14 * kc2 + 110) = nI k3 := by rw [en_679, pk_un (by omega)]; exact e676
                have e685 : n_679 (14 * kc2 + 111) = zb := by rw [en_679, pk_un (by omega)]; exact e677
                have e686 : n_679 (14 * kc2 + 120) = (-1) := by rw [en_679, pk_us]
                refine pm_aloadn hG dX12_person_212 rfl ?_
                refine pm_iloadi hG dX12_person_213 rfl ?_
                refine pm_bipush (v := nI 12) hG dX12_person_215 (by decide) ?_
                refine pm_iconst (v := nI 1) hG dX12_person_217 (by decide) ?_
                refine pm_callV (As := [.int (nI kc2), .int (nI 12), .int (nI 1)]) (rest := []) hG hR dX12_person_218 (lkX12_97 _ rfl) okV_X12_sets rfl rfl (m_sets (d := 2) (e := 14 * kc2 + 122) (by omega) (by omega) (by omega)) rfl rfl hdd (Nat.le_refl _) (Nat.le_refl _) (by decide) (pm_kv (fun σ' cnt' hq => ?_))
                obtain ⟨rfl, rfl⟩ := hq
                obtain ⟨n_687, en_687⟩ : ∃ f : Nat → Int32, f = upd n_679 (14 * kc2 + 122) (nI 1) := ⟨_, rfl⟩
                rw [← en_687]
                have hnn_687 := KI.w en_687 hnn_679 (okv_f (show kd (14 * kc2 + 122) = (0, 0, false) from (kd_P (k := kc2) (c := 12) (by omega) (by omega) (by decide))))
                have hrn_687 := NRx.w en_687 hrn_679 (by rw [(show kd (14 * kc2 + 122) = (0, 0, false) from (kd_P (k := kc2) (c := 12) (by omega) (by omega) (by decide)))])
                have ksn_687 := KSh.w (h := 14 * kc2 + 110) en_687 ksn_679 (by unfold tS; omega)
                have e688 : n_687 0 = nI kc0 := by rw [en_687, pk_un (by omega)]; exact e680
                have e689 : n_687 8 = nI kc8 := by rw [en_687, pk_un (by omega)]; exact e681
                have e690 : n_687 2 = nI (kc2 + 1) := by rw [en_687, pk_un (by omega)]; exact e682
                have e691 : n_687 (14 * kc2 + 110) = nI k3 := by rw [en_687, pk_un (by omega)]; exact e684
                have e692 : n_687 (14 * kc2 + 111) = zb := by rw [en_687, pk_un (by omega)]; exact e685
                have e693 : n_687 (14 * kc2 + 122) = nI 1 := by rw [en_687, pk_us]
                refine pm_iloadi hG dX12_person_221 rfl ?_
                exact pm_iret hG hF dX12_person_223 rfl (Nat.le_refl _) (Nat.le_refl _) ⟨_, rfl, ⟨_, _, _, rfl, hnn_687, hrn_687, e688.trans ekc0.symm, e689.trans ekc8.symm, ⟨(vE_y (T := pN n) (d := n 8) (t := n 0) (p := n 2) (a := za) (b := zb) (c := zc) (e := zd) (not6 (rg_in (a := 0) (b := 1) (by omega) ek3 (by omega) (by omega)) (fun q => q.elim ac5 (by rw [ekc8]; exact bc5)) (by rw [ek9]; exact nI_pos (by omega)) (nt_in ekc0 (by omega) ek531 (by omega)) (fun q => q (by rw [dv1 ek9 (by omega)]; exact pk11)) (fun q => q (by rw [rm1 ek9 (by omega)]; exact pk357))) ekc2 (by omega)).1, e690.trans (vE_y (T := pN n) (d := n 8) (t := n 0) (p := n 2) (a := za) (b := zb) (c := zc) (e := zd) (not6 (rg_in (a := 0) (b := 1) (by omega) ek3 (by omega) (by omega)) (fun q => q.elim ac5 (by rw [ekc8]; exact bc5)) (by rw [ek9]; exact nI_pos (by omega)) (nt_in ekc0 (by omega) ek531 (by omega)) (fun q => q (by rw [dv1 ek9 (by omega)]; exact pk11)) (fun q => q (by rw [rm1 ek9 (by omega)]; exact pk357))) ekc2 (by omega)).2.1, fun j hj => by rw [(vE_y (T := pN n) (d := n 8) (t := n 0) (p := n 2) (a := za) (b := zb) (c := zc) (e := zd) (not6 (rg_in (a := 0) (b := 1) (by omega) ek3 (by omega) (by omega)) (fun q => q.elim ac5 (by rw [ekc8]; exact bc5)) (by rw [ek9]; exact nI_pos (by omega)) (nt_in ekc0 (by omega) ek531 (by omega)) (fun q => q (by rw [dv1 ek9 (by omega)]; exact pk11)) (fun q => q (by rw [rm1 ek9 (by omega)]; exact pk357))) ekc2 (by omega)).2.2]; exact tP_ok ksn_687 (e691.trans ek3.symm) e692 e693 (by omega) j hj⟩⟩, rfl⟩
              · refine pm_aloadn hG dX12_person_102 rfl ?_
                refine pm_iconst (v := nI 4) hG dX12_person_103 (by decide) ?_
                refine pm_callV (As := [.int (nI 4)]) (rest := []) hG hR dX12_person_104 (lkX12_80 _ rfl) okV_X12_finds rfl rfl (m_finds (d := 2) (by decide) hn hz (by omega)) rfl rfl hdd (Nat.le_refl _) (Nat.le_refl _) (by decide) (pm_ki (fun v694 σ' cnt' hq => ?_))
                obtain ⟨⟨I695, A695, rfl⟩, rfl, fv694⟩ := hq
                exact pm_iret hG hF dX12_person_107 rfl (Nat.le_refl _) (Nat.le_refl _) ⟨_, rfl, ⟨_, _, _, rfl, hn, hr, ekc0.trans ekc0.symm, ekc8.trans ekc8.symm, ⟨fv694.trans ((by decide : (-1000000 : Int32) - nI 4 = -1000004).trans (vE_f (T := pN n) (d := n 8) (t := n 0) (p := n 2) (a := za) (b := zb) (c := zc) (e := zd) (not6 (rg_in (a := 0) (b := 1) (by omega) ek3 (by omega) (by omega)) (fun q => q.elim ac5 (by rw [ekc8]; exact bc5)) (by rw [ek9]; exact nI_pos (by omega)) (nt_in ekc0 (by omega) ek531 (by omega)) (fun q => q (by rw [dv1 ek9 (by omega)]; exact pk11)) (fun q => q (by rw [rm1 ek9 (by omega)]; exact pk357))) (ekc2.trans (congrArg nI (by omega)))).1), (vE_f (T := pN n) (d := n 8) (t := n 0) (p := n 2) (a := za) (b := zb) (c := zc) (e := zd) (not6 (rg_in (a := 0) (b := 1) (by omega) ek3 (by omega) (by omega)) (fun q => q.elim ac5 (by rw [ekc8]; exact bc5)) (by rw [ek9]; exact nI_pos (by omega)) (nt_in ekc0 (by omega) ek531 (by omega)) (fun q => q (by rw [dv1 ek9 (by omega)]; exact pk11)) (fun q => q (by rw [rm1 ek9 (by omega)]; exact pk357))) (ekc2.trans (congrArg nI (by omega)))).2.1, fun j _ => by rw [(vE_f (T := pN n) (d := n 8) (t := n 0) (p := n 2) (a := za) (b := zb) (c := zc) (e := zd) (not6 (rg_in (a := 0) (b := 1) (by omega) ek3 (by omega) (by omega)) (fun q => q.elim ac5 (by rw [ekc8]; exact bc5)) (by rw [ek9]; exact nI_pos (by omega)) (nt_in ekc0 (by omega) ek531 (by omega)) (fun q => q (by rw [dv1 ek9 (by omega)]; exact pk11)) (fun q => q (by rw [rm1 ek9 (by omega)]; exact pk357))) (ekc2.trans (congrArg nI (by omega)))).2.2]⟩⟩, rfl⟩
            · refine pm_ifN_eq (tgt := 73) hG dX12_person_66 rfl (by omega) (fun _ => ?_) (fun q => absurd q (by omega))
              refine pm_iconst (v := nI 0) hG dX12_person_73 (by decide) ?_
              refine pm_istoreXi (loc' := [some (.ref (B + 54)), some (.int za), some (.int zb), some (.int zc), some (.int zd), some (.int (nI 0)), none, none]) hG dX12_person_74 (by decide) (pm_c1b rfl) rfl ?_
              refine pm_iloadi hG dX12_person_76 rfl ?_
              refine pm_ifN_ne (tgt := 87) hG dX12_person_78 rfl (by omega) (fun q => absurd q (by omega)) (fun _ => ?_)
              refine pm_aloadn hG dX12_person_81 rfl ?_
              refine pm_iconst (v := nI 1) hG dX12_person_82 (by decide) ?_
              refine pm_callV (As := [.int (nI 1)]) (rest := []) hG hR dX12_person_83 (lkX12_80 _ rfl) okV_X12_finds rfl rfl (m_finds (d := 2) (by decide) hn hz (by omega)) rfl rfl hdd (Nat.le_refl _) (Nat.le_refl _) (by decide) (pm_ki (fun v696 σ' cnt' hq => ?_))
              obtain ⟨⟨I697, A697, rfl⟩, rfl, fv696⟩ := hq
              exact pm_iret hG hF dX12_person_86 rfl (Nat.le_refl _) (Nat.le_refl _) ⟨_, rfl, ⟨_, _, _, rfl, hn, hr, ekc0.trans ekc0.symm, ekc8.trans ekc8.symm, ⟨fv696.trans ((by decide : (-1000000 : Int32) - nI 1 = -1000001).trans (vE_n (T := pN n) (d := n 8) (t := n 0) (p := n 2) (a := za) (b := zb) (c := zc) (e := zd) (Or.inr (Or.inr (Or.inr (Or.inl (nt_out ekc0 (by omega) ntk531)))))).1), (vE_n (T := pN n) (d := n 8) (t := n 0) (p := n 2) (a := za) (b := zb) (c := zc) (e := zd) (Or.inr (Or.inr (Or.inr (Or.inl (nt_out ekc0 (by omega) ntk531)))))).2.1, fun j _ => by rw [(vE_n (T := pN n) (d := n 8) (t := n 0) (p := n 2) (a := za) (b := zb) (c := zc) (e := zd) (Or.inr (Or.inr (Or.inr (Or.inl (nt_out ekc0 (by omega) ntk531)))))).2.2]⟩⟩, rfl⟩
    · refine pm_ifN_eq (tgt := 73) hG dX12_person_23 rfl (by omega) (fun _ => ?_) (fun q => absurd q (by omega))
      refine pm_iconst (v := nI 0) hG dX12_person_73 (by decide) ?_
      refine pm_istoreXi (loc' := [some (.ref (B + 54)), some (.int za), some (.int zb), some (.int zc), some (.int zd), some (.int (nI 0)), none, none]) hG dX12_person_74 (by decide) (pm_c1b rfl) rfl ?_
      refine pm_iloadi hG dX12_person_76 rfl ?_
      refine pm_ifN_ne (tgt := 87) hG dX12_person_78 rfl (by omega) (fun q => absurd q (by omega)) (fun _ => ?_)
      refine pm_aloadn hG dX12_person_81 rfl ?_
      refine pm_iconst (v := nI 1) hG dX12_person_82 (by decide) ?_
      refine pm_callV (As := [.int (nI 1)]) (rest := []) hG hR dX12_person_83 (lkX12_80 _ rfl) okV_X12_finds rfl rfl (m_finds (d := 2) (by decide) hn hz (by omega)) rfl rfl hdd (Nat.le_refl _) (Nat.le_refl _) (by decide) (pm_ki (fun v698 σ' cnt' hq => ?_))
      obtain ⟨⟨I699, A699, rfl⟩, rfl, fv698⟩ := hq
      exact pm_iret hG hF dX12_person_86 rfl (Nat.le_refl _) (Nat.le_refl _) ⟨_, rfl, ⟨_, _, _, rfl, hn, hr, ekc0.trans ekc0.symm, ekc8.trans ekc8.symm, ⟨fv698.trans ((by decide : (-1000000 : Int32) - nI 1 = -1000001).trans (vE_n (T := pN n) (d := n 8) (t := n 0) (p := n 2) (a := za) (b := zb) (c := zc) (e := zd) (Or.inr (Or.inl (by rw [ekc8]; exact c5)))).1), (vE_n (T := pN n) (d := n 8) (t := n 0) (p := n 2) (a := za) (b := zb) (c := zc) (e := zd) (Or.inr (Or.inl (by rw [ekc8]; exact c5)))).2.1, fun j _ => by rw [(vE_n (T := pN n) (d := n 8) (t := n 0) (p := n 2) (a := za) (b := zb) (c := zc) (e := zd) (Or.inr (Or.inl (by rw [ekc8]; exact c5)))).2.2]⟩⟩, rfl⟩
  · refine pm_ifN_eq (tgt := 73) hG dX12_person_6 rfl (by omega) (fun _ => ?_) (fun q => absurd q (by omega))
    refine pm_iconst (v := nI 0) hG dX12_person_73 (by decide) ?_
    refine pm_istoreXi (loc' := [some (.ref (B + 54)), some (.int za), some (.int zb), some (.int zc), some (.int zd), some (.int (nI 0)), none, none]) hG dX12_person_74 (by decide) (pm_c1b rfl) rfl ?_
    refine pm_iloadi hG dX12_person_76 rfl ?_
    refine pm_ifN_ne (tgt := 87) hG dX12_person_78 rfl (by omega) (fun q => absurd q (by omega)) (fun _ => ?_)
    refine pm_aloadn hG dX12_person_81 rfl ?_
    refine pm_iconst (v := nI 1) hG dX12_person_82 (by decide) ?_
    refine pm_callV (As := [.int (nI 1)]) (rest := []) hG hR dX12_person_83 (lkX12_80 _ rfl) okV_X12_finds rfl rfl (m_finds (d := 2) (by decide) hn hz (by omega)) rfl rfl hdd (Nat.le_refl _) (Nat.le_refl _) (by decide) (pm_ki (fun v700 σ' cnt' hq => ?_))
    obtain ⟨⟨I701, A701, rfl⟩, rfl, fv700⟩ := hq
    exact pm_iret hG hF dX12_person_86 rfl (Nat.le_refl _) (Nat.le_refl _) ⟨_, rfl, ⟨_, _, _, rfl, hn, hr, ekc0.trans ekc0.symm, ekc8.trans ekc8.symm, ⟨fv700.trans ((by decide : (-1000000 : Int32) - nI 1 = -1000001).trans (vE_n (T := pN n) (d := n 8) (t := n 0) (p := n 2) (a := za) (b := zb) (c := zc) (e := zd) (Or.inl c2)).1), (vE_n (T := pN n) (d := n 8) (t := n 0) (p := n 2) (a := za) (b := zb) (c := zc) (e := zd) (Or.inl c2)).2.1, fun j _ => by rw [(vE_n (T := pN n) (d := n 8) (t := n 0) (p := n 2) (a := za) (b := zb) (c := zc) (e := zd) (Or.inl c2)).2.2]⟩⟩, rfl⟩
