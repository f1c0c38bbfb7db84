set_option maxRecDepth 100000 in
set_option maxHeartbeats 4000000 in
theorem m_own {d B cnt p0 t0 : Nat} {σ : pm_S} {I : Nat → Int32} {A : Nat → Nat → Int32} {n k z : Nat → Int32} {ac wt pl im : Int32} {za zb : Int32} (hdd : 2 ≤ d) (hn : KI n) (hr : NR n) (hz : SZ z)  : pm_met mX12_own d 0 0 B [.ref (B + 54), .int za, .int zb] cnt (pm_mid σ (md_L B I A n k z ac wt pl (nI p0) (nI t0) im)) (pm_Qi (fun v σ' cnt' => (∃ (I' : Nat → Int32) (A' : Nat → Nat → Int32) (n' : Nat → Int32), σ' = pm_mid σ (md_L B I' A' n' k z ac wt pl (nI p0) (nI t0) im) ∧ KI n' ∧ NR n' ∧ n' 0 = n 0 ∧ n' 2 = n 2 ∧ n' 8 = n 8 ∧ KS n' n) ∧ cnt = cnt')) := by
  obtain ⟨kc0, hkc0, ekc0⟩ := KI.nat hn (show kd 0 = (1, 11, true) by decide)
  obtain ⟨kc2, hkc2, ekc2⟩ := KI.nat hn (show kd 2 = (1, 21, true) by decide)
  obtain ⟨kc8, hkc8, ekc8⟩ := KI.nat hn (show kd 8 = (1, 2001, false) by decide)
  refine pm_enter 1 (by decide) (Nat.le_of_ble_eq_true rfl) rfl (fun G hG hR hF => ?_)
  refine pm_aloadn hG dX12_own_0 rfl ?_
  refine pm_iloadn hG dX12_own_1 rfl ?_
  refine pm_callV (As := [.int za]) (rest := []) hG hR dX12_own_2 (lkX12_84 _ rfl) okV_X12_isTown rfl rfl (m_isTown (d := 1) (by decide) ekc0 (by omega)) rfl rfl hdd (Nat.le_refl _) (Nat.le_refl _) (by decide) (pm_ki (fun v1 σ' cnt' hq => ?_))
  obtain ⟨hq, rfl, rfl⟩ := hq
  rcases hq with ⟨rfl, k3, hk3, ek3⟩ | ⟨rfl, ntk3⟩
  · refine pm_ifN_eq (tgt := 29) hG dX12_own_5 rfl (by omega) (fun q => absurd q (by omega)) (fun _ => ?_)
    refine pm_iloadn hG dX12_own_8 rfl ?_
    refine pm_iconst (v := (-1)) hG dX12_own_9 (by decide) ?_
    refine pm_icmp_eq (tgt := 35) hG dX12_own_10 rfl (fun c4 => ?_) (fun c4 => ?_)
    · refine pm_aloadn hG dX12_own_35 rfl ?_
      refine pm_getf hG dX12_own_36 (flX12_7 _ rfl) rfl rfl ?_
      refine pm_bipush (v := nI 20) hG dX12_own_39 (by decide) ?_
      refine pm_iconst (v := nI 3) hG dX12_own_41 (by decide) ?_
      refine pm_iloadn hG dX12_own_42 rfl ?_
      refine pm_top (v := nI k3) ek3 ?_
      refine pm_imulN (c := 3 * k3) hG dX12_own_43 (by omega) ?_
      refine pm_iaddN (c := 3 * k3 + 20) hG dX12_own_44 (by omega) ?_
      refine pm_iconst (v := nI 2) hG dX12_own_45 (by decide) ?_
      refine pm_iaddN (c := 3 * k3 + 22) hG dX12_own_46 (by omega) ?_
      refine pm_ialdN hG dX12_own_47 rfl (by decide) (by omega) ?_
      refine pm_gen (fun x5 ex5 => ?_)
      refine pm_iconst (v := nI 1) hG dX12_own_48 (by decide) ?_
      refine pm_icmp_ne (tgt := 58) hG dX12_own_49 rfl (fun c6 => ?_) (fun c6 => ?_)
      · refine pm_aloadn hG dX12_own_58 rfl ?_
        refine pm_getf hG dX12_own_59 (flX12_7 _ rfl) rfl rfl ?_
        refine pm_bipush (v := nI 20) hG dX12_own_62 (by decide) ?_
        refine pm_iconst (v := nI 3) hG dX12_own_64 (by decide) ?_
        refine pm_iloadn hG dX12_own_65 rfl ?_
        refine pm_top (v := nI k3) ek3 ?_
        refine pm_imulN (c := 3 * k3) hG dX12_own_66 (by omega) ?_
        refine pm_iaddN (c := 3 * k3 + 20) hG dX12_own_67 (by omega) ?_
        refine pm_iconst (v := nI 1) hG dX12_own_68 (by decide) ?_
        refine pm_iaddN (c := 3 * k3 + 21) hG dX12_own_69 (by omega) ?_
        refine pm_ialdN hG dX12_own_70 rfl (by decide) (by omega) ?_
        rcases KI.opt hn (show kd (3 * k3 + 21) = (2, 20, false) from (kd_T (k := k3) (c := 1) (by omega) (by omega) (by decide))) with ek7 | ⟨k7, hk7, ek7⟩
        · refine pm_top (v := (-1)) ek7 ?_
          refine pm_istoreXn (loc' := [some (.ref (B + 54)), some (.int za), some (.int zb), some (.int (-1))]) hG dX12_own_71 (by decide) (pm_c1b rfl) rfl ?_
          refine pm_aloadn hG dX12_own_72 rfl ?_
          refine pm_getf hG dX12_own_73 (flX12_7 _ rfl) rfl rfl ?_
          refine pm_bipush (v := nI 20) hG dX12_own_76 (by decide) ?_
          refine pm_iconst (v := nI 3) hG dX12_own_78 (by decide) ?_
          refine pm_iloadn hG dX12_own_79 rfl ?_
          refine pm_top (v := nI k3) ek3 ?_
          refine pm_imulN (c := 3 * k3) hG dX12_own_80 (by omega) ?_
          refine pm_iaddN (c := 3 * k3 + 20) hG dX12_own_81 (by omega) ?_
          refine pm_iconst (v := nI 1) hG dX12_own_82 (by decide) ?_
          refine pm_iaddN (c := 3 * k3 + 21) hG dX12_own_83 (by omega) ?_
          refine pm_iloadn hG dX12_own_84 rfl ?_
          refine pm_top (v := (-1)) c4 ?_
          refine pm_iastN hG dX12_own_85 rfl (by decide) (by omega) ?_
          refine mdn_now (fun n_8 en_8 => ?_)
          have hnn_8 := KI.w en_8 hn (okv_m (show kd (3 * k3 + 21) = (2, 20, false) from (kd_T (k := k3) (c := 1) (by omega) (by omega) (by decide))))
          have hrn_8 := NRx.w en_8 hr (by rw [(show kd (3 * k3 + 21) = (2, 20, false) from (kd_T (k := k3) (c := 1) (by omega) (by omega) (by decide)))])
          have ksn_8 := KS.w en_8 KS.rf (by unfold tS; omega)
          have e9 : n_8 0 = nI kc0 := by rw [en_8, pk_un (by omega)]; exact ekc0
          have e10 : n_8 2 = nI kc2 := by rw [en_8, pk_un (by omega)]; exact ekc2
          have e11 : n_8 8 = nI kc8 := by rw [en_8, pk_un (by omega)]; exact ekc8
          have e12 : n_8 (3 * k3 + 22) = x5 := by rw [en_8, pk_un (by omega)]; exact ex5
          have e13 : n_8 (3 * k3 + 21) = (-1) := by rw [en_8, pk_us]
          refine pm_iloadn hG dX12_own_86 rfl ?_
          exact pm_iret hG hF dX12_own_87 rfl (Nat.le_refl _) (Nat.le_refl _) ⟨_, rfl, ⟨_, _, _, rfl, hnn_8, hrn_8, e9.trans ekc0.symm, e10.trans ekc2.symm, e11.trans ekc8.symm, ksn_8⟩, rfl⟩
        · refine pm_top (v := nI k7) ek7 ?_
          refine pm_istoreXn (loc' := [some (.ref (B + 54)), some (.int za), some (.int zb), some (.int (nI k7))]) hG dX12_own_71 (by decide) (pm_c1b rfl) rfl ?_
          refine pm_aloadn hG dX12_own_72 rfl ?_
          refine pm_getf hG dX12_own_73 (flX12_7 _ rfl) rfl rfl ?_
          refine pm_bipush (v := nI 20) hG dX12_own_76 (by decide) ?_
          refine pm_iconst (v := nI 3) hG dX12_own_78 (by decide) ?_
          refine pm_iloadn hG dX12_own_79 rfl ?_
          refine pm_top (v := nI k3) ek3 ?_
          refine pm_imulN (c := 3 * k3) hG dX12_own_80 (by omega) ?_
          refine pm_iaddN (c := 3 * k3 + 20) hG dX12_own_81 (by omega) ?_
          refine pm_iconst (v := nI 1) hG dX12_own_82 (by decide) ?_
          refine pm_iaddN (c := 3 * k3 + 21) hG dX12_own_83 (by omega) ?_
          refine pm_iloadn hG dX12_own_84 rfl ?_
          refine pm_top (v := (-1)) c4 ?_
          refine pm_iastN hG dX12_own_85 rfl (by decide) (by omega) ?_
          refine mdn_now (fun n_14 en_14 => ?_)
          have hnn_14 := KI.w en_14 hn (okv_m (show kd (3 * k3 + 21) = (2, 20, false) from (kd_T (k := k3) (c := 1) (by omega) (by omega) (by decide))))
          have hrn_14 := NRx.w en_14 hr (by rw [(show kd (3 * k3 + 21) = (2, 20, false) from (kd_T (k := k3) (c := 1) (by omega) (by omega) (by decide)))])
          have ksn_14 := KS.w en_14 KS.rf (by unfold tS; omega)
          have e15 : n_14 0 = nI kc0 := by rw [en_14, pk_un (by omega)]; exact ekc0
          have e16 : n_14 2 = nI kc2 := by rw [en_14, pk_un (by omega)]; exact ekc2
          have e17 : n_14 8 = nI kc8 := by rw [en_14, pk_un (by omega)]; exact ekc8
          have e18 : n_14 (3 * k3 + 22) = x5 := by rw [en_14, pk_un (by omega)]; exact ex5
          have e19 : n_14 (3 * k3 + 21) = (-1) := by rw [en_14, pk_us]
          refine pm_iloadn hG dX12_own_86 rfl ?_
          exact pm_iret hG hF dX12_own_87 rfl (Nat.le_refl _) (Nat.le_refl _) ⟨_, rfl, ⟨_, _, _, rfl, hnn_14, hrn_14, e15.trans ekc0.symm, e16.trans ekc2.symm, e17.trans ekc8.symm, ksn_14⟩, rfl⟩
      · refine pm_aloadn hG dX12_own_52 rfl ?_
        refine pm_iconst (v := nI 3) hG dX12_own_53 (by decide) ?_
        refine pm_callV (As := [.int (nI 3)]) (rest := []) hG hR dX12_own_54 (lkX12_80 _ rfl) okV_X12_finds rfl rfl (m_finds (d := 1) (by decide) hn hz (by omega)) rfl rfl hdd (Nat.le_refl _) (Nat.le_refl _) (by decide) (pm_ki (fun v20 σ' cnt' hq => ?_))
        obtain ⟨⟨I21, A21, rfl⟩, rfl, fv20⟩ := hq
        exact pm_iret hG hF dX12_own_57 rfl (Nat.le_refl _) (Nat.le_refl _) ⟨_, rfl, ⟨_, _, _, rfl, hn, hr, ekc0.trans ekc0.symm, ekc2.trans ekc2.symm, ekc8.trans ekc8.symm, KS.rf⟩, rfl⟩
    · refine pm_aloadn hG dX12_own_13 rfl ?_
      refine pm_iloadn hG dX12_own_14 rfl ?_
      refine pm_callV (As := [.int zb]) (rest := []) hG hR dX12_own_15 (lkX12_91 _ rfl) okV_X12_isPerson rfl rfl (m_isPerson (d := 1) (by decide) ekc2 (by omega)) rfl rfl hdd (Nat.le_refl _) (Nat.le_refl _) (by decide) (pm_ki (fun v22 σ' cnt' hq => ?_))
      obtain ⟨hq, rfl, rfl⟩ := hq
      rcases hq with ⟨rfl, k24, hk24, ek24⟩ | ⟨rfl, ntk24⟩
      · refine pm_ifN_eq (tgt := 29) hG dX12_own_18 rfl (by omega) (fun q => absurd q (by omega)) (fun _ => ?_)
        refine pm_aloadn hG dX12_own_21 rfl ?_
        refine pm_iloadn hG dX12_own_22 rfl ?_
        refine pm_top (v := nI k24) ek24 ?_
        rcases KI.opt hn (show kd (14 * k24 + 119) = (2, 2001, false) from (kd_P (k := k24) (c := 9) (by omega) (by omega) (by decide))) with ek25 | ⟨k25, hk25, ek25⟩
        · refine pm_callV (As := [.int (nI k24)]) (rest := []) hG hR dX12_own_23 (lkX12_101 _ rfl) okV_X12_lives rfl rfl (m_lives1 (d := 1) (by decide) (by omega) (by omega : 14 * k24 + 119 = 14 * k24 + 119) ek25) rfl rfl hdd (Nat.le_refl _) (Nat.le_refl _) (by decide) (pm_ki (fun v26 σ' cnt' hq => ?_))
          obtain ⟨rfl, rfl, rfl⟩ := hq
          refine pm_ifN_ne (tgt := 35) hG dX12_own_26 rfl (by omega) (fun _ => ?_) (fun q => absurd q (by omega))
          refine pm_aloadn hG dX12_own_35 rfl ?_
          refine pm_getf hG dX12_own_36 (flX12_7 _ rfl) rfl rfl ?_
          refine pm_bipush (v := nI 20) hG dX12_own_39 (by decide) ?_
          refine pm_iconst (v := nI 3) hG dX12_own_41 (by decide) ?_
          refine pm_iloadn hG dX12_own_42 rfl ?_
          refine pm_top (v := nI k3) ek3 ?_
          refine pm_imulN (c := 3 * k3) hG dX12_own_43 (by omega) ?_
          refine pm_iaddN (c := 3 * k3 + 20) hG dX12_own_44 (by omega) ?_
          refine pm_iconst (v := nI 2) hG dX12_own_45 (by decide) ?_
          refine pm_iaddN (c := 3 * k3 + 22) hG dX12_own_46 (by omega) ?_
          refine pm_ialdN hG dX12_own_47 rfl (by decide) (by omega) ?_
          refine pm_gen (fun x27 ex27 => ?_)
          refine pm_iconst (v := nI 1) hG dX12_own_48 (by decide) ?_
          refine pm_icmp_ne (tgt := 58) hG dX12_own_49 rfl (fun c28 => ?_) (fun c28 => ?_)
          · refine pm_aloadn hG dX12_own_58 rfl ?_
            refine pm_getf hG dX12_own_59 (flX12_7 _ rfl) rfl rfl ?_
            refine pm_bipush (v := nI 20) hG dX12_own_62 (by decide) ?_
            refine pm_iconst (v := nI 3) hG dX12_own_64 (by decide) ?_
            refine pm_iloadn hG dX12_own_65 rfl ?_
            refine pm_top (v := nI k3) ek3 ?_
            refine pm_imulN (c := 3 * k3) hG dX12_own_66 (by omega) ?_
            refine pm_iaddN (c := 3 * k3 + 20) hG dX12_own_67 (by omega) ?_
            refine pm_iconst (v := nI 1) hG dX12_own_68 (by decide) ?_
            refine pm_iaddN (c := 3 * k3 + 21) hG dX12_own_69 (by omega) ?_
            refine pm_ialdN hG dX12_own_70 rfl (by decide) (by omega) ?_
            rcases KI.opt hn (show kd (3 * k3 + 21) = (2, 20, false) from (kd_T (k := k3) (c := 1) (by omega) (by omega) (by decide))) with ek29 | ⟨k29, hk29, ek29⟩
            · refine pm_top (v := (-1)) ek29 ?_
              refine pm_istoreXn (loc' := [some (.ref (B + 54)), some (.int za), some (.int zb), some (.int (-1))]) hG dX12_own_71 (by decide) (pm_c1b rfl) rfl ?_
              refine pm_aloadn hG dX12_own_72 rfl ?_
              refine pm_getf hG dX12_own_73 (flX12_7 _ rfl) rfl rfl ?_
              refine pm_bipush (v := nI 20) hG dX12_own_76 (by decide) ?_
              refine pm_iconst (v := nI 3) hG dX12_own_78 (by decide) ?_
              refine pm_iloadn hG dX12_own_79 rfl ?_
              refine pm_top (v := nI k3) ek3 ?_
              refine pm_imulN (c := 3 * k3) hG dX12_own_80 (by omega) ?_
              refine pm_iaddN (c := 3 * k3 + 20) hG dX12_own_81 (by omega) ?_
              refine pm_iconst (v := nI 1) hG dX12_own_82 (by decide) ?_
              refine pm_iaddN (c := 3 * k3 + 21) hG dX12_own_83 (by omega) ?_
              refine pm_iloadn hG dX12_own_84 rfl ?_
              refine pm_top (v := nI k24) ek24 ?_
              refine pm_iastN hG dX12_own_85 rfl (by decide) (by omega) ?_
              refine mdn_now (fun n_30 en_30 => ?_)
              have hnn_30 := KI.w en_30 hn (okv_o (show kd (3 * k3 + 21) = (2, 20, false) from (kd_T (k := k3) (c := 1) (by omega) (by omega) (by decide))) (by omega))
              have hrn_30 := NRx.w en_30 hr (by rw [(show kd (3 * k3 + 21) = (2, 20, false) from (kd_T (k := k3) (c := 1) (by omega) (by omega) (by decide)))])
              have ksn_30 := KS.w en_30 KS.rf (by unfold tS; omega)
              have e31 : n_30 0 = nI kc0 := by rw [en_30, pk_un (by omega)]; exact ekc0
              have e32 : n_30 2 = nI kc2 := by rw [en_30, pk_un (by omega)]; exact ekc2
              have e33 : n_30 8 = nI kc8 := by rw [en_30, pk_un (by omega)]; exact ekc8
              have e34 : n_30 (14 * k24 + 119) = (-1) := by rw [en_30, pk_un (by omega)]; exact ek25
              have e35 : n_30 (3 * k3 + 22) = x27 := by rw [en_30, pk_un (by omega)]; exact ex27
              have e36 : n_30 (3 * k3 + 21) = nI k24 := by rw [en_30, pk_us]
              refine pm_iloadn hG dX12_own_86 rfl ?_
              exact pm_iret hG hF dX12_own_87 rfl (Nat.le_refl _) (Nat.le_refl _) ⟨_, rfl, ⟨_, _, _, rfl, hnn_30, hrn_30, e31.trans ekc0.symm, e32.trans ekc2.symm, e33.trans ekc8.symm, ksn_30⟩, rfl⟩
            · refine pm_top (v := nI k29) ek29 ?_
              refine pm_istoreXn (loc' := [some (.ref (B + 54)), some (.int za), some (.int zb), some (.int (nI k29))]) hG dX12_own_71 (by decide) (pm_c1b rfl) rfl ?_
              refine pm_aloadn hG dX12_own_72 rfl ?_
              refine pm_getf hG dX12_own_73 (flX12_7 _ rfl) rfl rfl ?_
              refine pm_bipush (v := nI 20) hG dX12_own_76 (by decide) ?_
              refine pm_iconst (v := nI 3) hG dX12_own_78 (by decide) ?_
              refine pm_iloadn hG dX12_own_79 rfl ?_
              refine pm_top (v := nI k3) ek3 ?_
              refine pm_imulN (c := 3 * k3) hG dX12_own_80 (by omega) ?_
              refine pm_iaddN (c := 3 * k3 + 20) hG dX12_own_81 (by omega) ?_
              refine pm_iconst (v := nI 1) hG dX12_own_82 (by decide) ?_
              refine pm_iaddN (c := 3 * k3 + 21) hG dX12_own_83 (by omega) ?_
              refine pm_iloadn hG dX12_own_84 rfl ?_
              refine pm_top (v := nI k24) ek24 ?_
              refine pm_iastN hG dX12_own_85 rfl (by decide) (by omega) ?_
              refine mdn_now (fun n_37 en_37 => ?_)
              have hnn_37 := KI.w en_37 hn (okv_o (show kd (3 * k3 + 21) = (2, 20, false) from (kd_T (k := k3) (c := 1) (by omega) (by omega) (by decide))) (by omega))
              have hrn_37 := NRx.w en_37 hr (by rw [(show kd (3 * k3 + 21) = (2, 20, false) from (kd_T (k := k3) (c := 1) (by omega) (by omega) (by decide)))])
              have ksn_37 := KS.w en_37 KS.rf (by unfold tS; omega)
              have e38 : n_37 0 = nI kc0 := by rw [en_37, pk_un (by omega)]; exact ekc0
              have e39 : n_37 2 = nI kc2 := by rw [en_37, pk_un (by omega)]; exact ekc2
              have e40 : n_37 8 = nI kc8 := by rw [en_37, pk_un (by omega)]; exact ekc8
              have e41 : n_37 (14 * k24 + 119) = (-1) := by rw [en_37, pk_un (by omega)]; exact ek25
              have e42 : n_37 (3 * k3 + 22) = x27 := by rw [en_37, pk_un (by omega)]; exact ex27
              have e43 : n_37 (3 * k3 + 21) = nI k24 := by rw [en_37, pk_us]
              refine pm_iloadn hG dX12_own_86 rfl ?_
              exact pm_iret hG hF dX12_own_87 rfl (Nat.le_refl _) (Nat.le_refl _) ⟨_, rfl, ⟨_, _, _, rfl, hnn_37, hrn_37, e38.trans ekc0.symm, e39.trans ekc2.symm, e40.trans ekc8.symm, ksn_37⟩, rfl⟩
          · refine pm_aloadn hG dX12_own_52 rfl ?_
            refine pm_iconst (v := nI 3) hG dX12_own_53 (by decide) ?_
            refine pm_callV (As := [.int (nI 3)]) (rest := []) hG hR dX12_own_54 (lkX12_80 _ rfl) okV_X12_finds rfl rfl (m_finds (d := 1) (by decide) hn hz (by omega)) rfl rfl hdd (Nat.le_refl _) (Nat.le_refl _) (by decide) (pm_ki (fun v44 σ' cnt' hq => ?_))
            obtain ⟨⟨I45, A45, rfl⟩, rfl, fv44⟩ := hq
            exact pm_iret hG hF dX12_own_57 rfl (Nat.le_refl _) (Nat.le_refl _) ⟨_, rfl, ⟨_, _, _, rfl, hn, hr, ekc0.trans ekc0.symm, ekc2.trans ekc2.symm, ekc8.trans ekc8.symm, KS.rf⟩, rfl⟩
        · refine pm_callV (As := [.int (nI k24)]) (rest := []) hG hR dX12_own_23 (lkX12_101 _ rfl) okV_X12_lives rfl rfl (m_lives0 (d := 1) (by decide) (by omega) (by omega : 14 * k24 + 119 = 14 * k24 + 119) ek25 (by omega)) rfl rfl hdd (Nat.le_refl _) (Nat.le_refl _) (by decide) (pm_ki (fun v46 σ' cnt' hq => ?_))
          obtain ⟨rfl, rfl, rfl⟩ := hq
          refine pm_ifN_ne (tgt := 35) hG dX12_own_26 rfl (by omega) (fun q => absurd q (by omega)) (fun _ => ?_)
          refine pm_aloadn hG dX12_own_29 rfl ?_
          refine pm_iconst (v := nI 1) hG dX12_own_30 (by decide) ?_
          refine pm_callV (As := [.int (nI 1)]) (rest := []) hG hR dX12_own_31 (lkX12_80 _ rfl) okV_X12_finds rfl rfl (m_finds (d := 1) (by decide) hn hz (by omega)) rfl rfl hdd (Nat.le_refl _) (Nat.le_refl _) (by decide) (pm_ki (fun v47 σ' cnt' hq => ?_))
          obtain ⟨⟨I48, A48, rfl⟩, rfl, fv47⟩ := hq
          exact pm_iret hG hF dX12_own_34 rfl (Nat.le_refl _) (Nat.le_refl _) ⟨_, rfl, ⟨_, _, _, rfl, hn, hr, ekc0.trans ekc0.symm, ekc2.trans ekc2.symm, ekc8.trans ekc8.symm, KS.rf⟩, rfl⟩
      · refine pm_ifN_eq (tgt := 29) hG dX12_own_18 rfl (by omega) (fun _ => ?_) (fun q => absurd q (by omega))
        refine pm_aloadn hG dX12_own_29 rfl ?_
        refine pm_iconst (v := nI 1) hG dX12_own_30 (by decide) ?_
        refine pm_callV (As := [.int (nI 1)]) (rest := []) hG hR dX12_own_31 (lkX12_80 _ rfl) okV_X12_finds rfl rfl (m_finds (d := 1) (by decide) hn hz (by omega)) rfl rfl hdd (Nat.le_refl _) (Nat.le_refl _) (by decide) (pm_ki (fun v49 σ' cnt' hq => ?_))
        obtain ⟨⟨I50, A50, rfl⟩, rfl, fv49⟩ := hq
        exact pm_iret hG hF dX12_own_34 rfl (Nat.le_refl _) (Nat.le_refl _) ⟨_, rfl, ⟨_, _, _, rfl, hn, hr, ekc0.trans ekc0.symm, ekc2.trans ekc2.symm, ekc8.trans ekc8.symm, KS.rf⟩, rfl⟩
  · refine pm_ifN_eq (tgt := 29) hG dX12_own_5 rfl (by omega) (fun _ => ?_) (fun q => absurd q (by omega))
    refine pm_aloadn hG dX12_own_29 rfl ?_
    refine pm_iconst (v := nI 1) hG dX12_own_30 (by decide) ?_
    refine pm_callV (As := [.int (nI 1)]) (rest := []) hG hR dX12_own_31 (lkX12_80 _ rfl) okV_X12_finds rfl rfl (m_finds (d := 1) (by decide) hn hz (by omega)) rfl rfl hdd (Nat.le_refl _) (Nat.le_refl _) (by decide) (pm_ki (fun v51 σ' cnt' hq => ?_))
    obtain ⟨⟨I52, A52, rfl⟩, rfl, fv51⟩ := hq
    exact pm_iret hG hF dX12_own_34 rfl (Nat.le_refl _) (Nat.le_refl _) ⟨_, rfl, ⟨_, _, _, rfl, hn, hr, ekc0.trans ekc0.symm, ekc2.trans ekc2.symm, ekc8.trans ekc8.symm, KS.rf⟩, rfl⟩

set_option maxRecDepth 100000 in
set_option maxHeartbeats 4000000 in
theorem m_pay {d B cnt p0 t0 : Nat} {σ : pm_S} {I : Nat → Int32} {A : Nat → Nat → Int32} {n k z : Nat → Int32} {ac wt pl im : Int32} {za zb : Int32} (hdd : 2 ≤ d) (hn : KI n) (hr : NR n) (hz : SZ z)  : pm_met mX12_pay d 0 0 B [.ref (B + 54), .int za, .int zb] cnt (pm_mid σ (md_L B I A n k z ac wt pl (nI p0) (nI t0) im)) (pm_Qi (fun v σ' cnt' => (∃ (I' : Nat → Int32) (A' : Nat → Nat → Int32) (n' : Nat → Int32), σ' = pm_mid σ (md_L B I' A' n' k z ac wt pl (nI p0) (nI t0) im) ∧ KI n' ∧ NR n' ∧ n' 0 = n 0 ∧ n' 2 = n 2 ∧ n' 8 = n 8 ∧ KS n' n) ∧ cnt = cnt')) := by
  obtain ⟨kc0, hkc0, ekc0⟩ := KI.nat hn (show kd 0 = (1, 11, true) by decide)
  obtain ⟨kc2, hkc2, ekc2⟩ := KI.nat hn (show kd 2 = (1, 21, true) by decide)
  obtain ⟨kc8, hkc8, ekc8⟩ := KI.nat hn (show kd 8 = (1, 2001, false) by decide)
  refine pm_enter 0 (by decide) (Nat.le_of_ble_eq_true rfl) rfl (fun G hG hR hF => ?_)
  refine pm_aloadn hG dX12_pay_0 rfl ?_
  refine pm_iloadn hG dX12_pay_1 rfl ?_
  refine pm_callV (As := [.int za]) (rest := []) hG hR dX12_pay_2 (lkX12_91 _ rfl) okV_X12_isPerson rfl rfl (m_isPerson (d := 1) (by decide) ekc2 (by omega)) rfl rfl hdd (Nat.le_refl _) (Nat.le_refl _) (by decide) (pm_ki (fun v1 σ' cnt' hq => ?_))
  obtain ⟨hq, rfl, rfl⟩ := hq
  rcases hq with ⟨rfl, k3, hk3, ek3⟩ | ⟨rfl, ntk3⟩
  · refine pm_ifN_eq (tgt := 19) hG dX12_pay_5 rfl (by omega) (fun q => absurd q (by omega)) (fun _ => ?_)
    refine pm_iloadn hG dX12_pay_8 rfl ?_
    refine pm_iconst (v := nI 1) hG dX12_pay_9 (by decide) ?_
    refine pm_sipush (v := nI 9999) hG dX12_pay_10 (by decide) ?_
    refine pm_callS (As := [.int zb, .int (nI 1), .int (nI 9999)]) (rest := []) hG hR dX12_pay_13 (lkX12_68 _ rfl) okS_X12_in (m_in (d := 1)) rfl rfl hdd (Nat.le_refl _) (Nat.le_refl _) (by decide) (pm_ki (fun v4 σ' cnt' hq => ?_))
    obtain ⟨hq, rfl, rfl⟩ := hq
    rcases hq with ⟨rfl, ac5, bc5⟩ | ⟨rfl, c5⟩
    · obtain ⟨k6, hk6, ek6⟩ := in_nat (by omega) (by omega) ac5 bc5
      refine pm_ifN_ne (tgt := 25) hG dX12_pay_16 rfl (by omega) (fun _ => ?_) (fun q => absurd q (by omega))
      refine pm_aloadn hG dX12_pay_25 rfl ?_
      refine pm_iloadn hG dX12_pay_26 rfl ?_
      refine pm_top (v := nI k3) ek3 ?_
      rcases KI.opt hn (show kd (14 * k3 + 119) = (2, 2001, false) from (kd_P (k := k3) (c := 9) (by omega) (by omega) (by decide))) with ek7 | ⟨k7, hk7, ek7⟩
      · refine pm_callV (As := [.int (nI k3)]) (rest := []) hG hR dX12_pay_27 (lkX12_101 _ rfl) okV_X12_lives rfl rfl (m_lives1 (d := 1) (by decide) (by omega) (by omega : 14 * k3 + 119 = 14 * k3 + 119) ek7) rfl rfl hdd (Nat.le_refl _) (Nat.le_refl _) (by decide) (pm_ki (fun v8 σ' cnt' hq => ?_))
        obtain ⟨rfl, rfl, rfl⟩ := hq
        refine pm_ifN_ne (tgt := 39) hG dX12_pay_30 rfl (by omega) (fun _ => ?_) (fun q => absurd q (by omega))
        refine pm_aloadn hG dX12_pay_39 rfl ?_
        refine pm_getf hG dX12_pay_40 (flX12_7 _ rfl) rfl rfl ?_
        refine pm_bipush (v := nI 9) hG dX12_pay_43 (by decide) ?_
        refine pm_ialdN hG dX12_pay_45 rfl (by decide) (by omega) ?_
        refine pm_gen (fun x9 ex9 => ?_)
        refine pm_iloadn hG dX12_pay_46 rfl ?_
        refine pm_top (v := nI k6) ek6 ?_
        refine pm_icmp_ge (tgt := 56) hG dX12_pay_47 rfl (fun c10 => ?_) (fun c10 => ?_)
        · refine pm_aloadn hG dX12_pay_56 rfl ?_
          refine pm_getf hG dX12_pay_57 (flX12_7 _ rfl) rfl rfl ?_
          refine pm_bipush (v := nI 9) hG dX12_pay_60 (by decide) ?_
          refine pm_dup2 hG dX12_pay_62 rfl rfl ?_
          refine pm_ialdN hG dX12_pay_63 rfl (by decide) (by omega) ?_
          refine pm_top (v := x9) ex9 ?_
          refine pm_iloadn hG dX12_pay_64 rfl ?_
          refine pm_top (v := nI k6) ek6 ?_
          refine pm_isub hG dX12_pay_65 ?_
          refine pm_iastN hG dX12_pay_66 rfl (by decide) (by omega) ?_
          refine mdn_now (fun n_11 en_11 => ?_)
          have hnn_11 := KI.w en_11 hn (okv_f (show kd 9 = (0, 0, false) by decide))
          have hrn_11 := NRx.w en_11 hr (by rw [(show kd 9 = (0, 0, false) by decide)])
          have ksn_11 := KS.w en_11 KS.rf (by unfold tS; omega)
          have e12 : n_11 0 = nI kc0 := by rw [en_11, pk_un (by omega)]; exact ekc0
          have e13 : n_11 2 = nI kc2 := by rw [en_11, pk_un (by omega)]; exact ekc2
          have e14 : n_11 8 = nI kc8 := by rw [en_11, pk_un (by omega)]; exact ekc8
          have e15 : n_11 (14 * k3 + 119) = (-1) := by rw [en_11, pk_un (by omega)]; exact ek7
          have e16 : n_11 9 = x9 - (nI k6) := by rw [en_11, pk_us]
          refine pm_aloadn hG dX12_pay_67 rfl ?_
          refine pm_iloadn hG dX12_pay_68 rfl ?_
          refine pm_top (v := nI k3) ek3 ?_
          refine pm_bipush (v := nI 7) hG dX12_pay_69 (by decide) ?_
          refine pm_aloadn hG dX12_pay_71 rfl ?_
          refine pm_iloadn hG dX12_pay_72 rfl ?_
          refine pm_top (v := nI k3) ek3 ?_
          refine pm_bipush (v := nI 7) hG dX12_pay_73 (by decide) ?_
          refine pm_callV (As := [.int (nI k3), .int (nI 7)]) (rest := [.int (nI 7), .int (nI k3), .ref (B + 54)]) hG hR dX12_pay_75 (lkX12_72 _ rfl) okV_X12_man rfl rfl (m_man (d := 1) (e := 14 * k3 + 117) (by omega) (by omega) (by omega)) rfl rfl hdd (Nat.le_refl _) (Nat.le_refl _) (Nat.le_of_ble_eq_true rfl) (pm_ki (fun v17 σ' cnt' hq => ?_))
          obtain ⟨rfl, rfl, rfl⟩ := hq
          refine pm_gen (fun x18 ex18 => ?_)
          refine pm_iloadn hG dX12_pay_78 rfl ?_
          refine pm_top (v := nI k6) ek6 ?_
          refine pm_iadd hG dX12_pay_79 ?_
          refine pm_callV (As := [.int (nI k3), .int (nI 7), .int (x18 + (nI k6))]) (rest := []) hG hR dX12_pay_80 (lkX12_97 _ rfl) okV_X12_sets rfl rfl (m_sets (d := 1) (e := 14 * k3 + 117) (by omega) (by omega) (by omega)) rfl rfl hdd (Nat.le_refl _) (Nat.le_refl _) (by decide) (pm_kv (fun σ' cnt' hq => ?_))
          obtain ⟨rfl, rfl⟩ := hq
          obtain ⟨n_19, en_19⟩ : ∃ f : Nat → Int32, f = upd n_11 (14 * k3 + 117) (x18 + (nI k6)) := ⟨_, rfl⟩
          rw [← en_19]
          have hnn_19 := KI.w en_19 hnn_11 (okv_f (show kd (14 * k3 + 117) = (0, 0, false) from (kd_P (k := k3) (c := 7) (by omega) (by omega) (by decide))))
          have hrn_19 := NRx.w en_19 hrn_11 (by rw [(show kd (14 * k3 + 117) = (0, 0, false) from (kd_P (k := k3) (c := 7) (by omega) (by omega) (by decide)))])
          have ksn_19 := KS.w en_19 ksn_11 (by unfold tS; omega)
          have e20 : n_19 0 = nI kc0 := by rw [en_19, pk_un (by omega)]; exact e12
          have e21 : n_19 2 = nI kc2 := by rw [en_19, pk_un (by omega)]; exact e13
          have e22 : n_19 8 = nI kc8 := by rw [en_19, pk_un (by omega)]; exact e14
          have e23 : n_19 (14 * k3 + 119) = (-1) := by rw [en_19, pk_un (by omega)]; exact e15
          have e24 : n_19 9 = x9 - (nI k6) := by rw [en_19, pk_un (by omega)]; exact e16
          have e25 : n_19 (14 * k3 + 117) = x18 + (nI k6) := by rw [en_19, pk_us]
          refine pm_aloadn hG dX12_pay_83 rfl ?_
          refine pm_getf hG dX12_pay_84 (flX12_7 _ rfl) rfl rfl ?_
          refine pm_bipush (v := nI 9) hG dX12_pay_87 (by decide) ?_
          refine pm_ialdN hG dX12_pay_89 rfl (by decide) (by omega) ?_
          refine pm_top (v := x9 - (nI k6)) e24 ?_
          exact pm_iret hG hF dX12_pay_90 rfl (Nat.le_refl _) (Nat.le_refl _) ⟨_, rfl, ⟨_, _, _, rfl, hnn_19, hrn_19, e20.trans ekc0.symm, e21.trans ekc2.symm, e22.trans ekc8.symm, ksn_19⟩, rfl⟩
        · refine pm_aloadn hG dX12_pay_50 rfl ?_
          refine pm_iconst (v := nI 2) hG dX12_pay_51 (by decide) ?_
          refine pm_callV (As := [.int (nI 2)]) (rest := []) hG hR dX12_pay_52 (lkX12_80 _ rfl) okV_X12_finds rfl rfl (m_finds (d := 1) (by decide) hn hz (by omega)) rfl rfl hdd (Nat.le_refl _) (Nat.le_refl _) (by decide) (pm_ki (fun v26 σ' cnt' hq => ?_))
          obtain ⟨⟨I27, A27, rfl⟩, rfl, fv26⟩ := hq
          exact pm_iret hG hF dX12_pay_55 rfl (Nat.le_refl _) (Nat.le_refl _) ⟨_, rfl, ⟨_, _, _, rfl, hn, hr, ekc0.trans ekc0.symm, ekc2.trans ekc2.symm, ekc8.trans ekc8.symm, KS.rf⟩, rfl⟩
      · refine pm_callV (As := [.int (nI k3)]) (rest := []) hG hR dX12_pay_27 (lkX12_101 _ rfl) okV_X12_lives rfl rfl (m_lives0 (d := 1) (by decide) (by omega) (by omega : 14 * k3 + 119 = 14 * k3 + 119) ek7 (by omega)) rfl rfl hdd (Nat.le_refl _) (Nat.le_refl _) (by decide) (pm_ki (fun v28 σ' cnt' hq => ?_))
        obtain ⟨rfl, rfl, rfl⟩ := hq
        refine pm_ifN_ne (tgt := 39) hG dX12_pay_30 rfl (by omega) (fun q => absurd q (by omega)) (fun _ => ?_)
        refine pm_aloadn hG dX12_pay_33 rfl ?_
        refine pm_iconst (v := nI 3) hG dX12_pay_34 (by decide) ?_
        refine pm_callV (As := [.int (nI 3)]) (rest := []) hG hR dX12_pay_35 (lkX12_80 _ rfl) okV_X12_finds rfl rfl (m_finds (d := 1) (by decide) hn hz (by omega)) rfl rfl hdd (Nat.le_refl _) (Nat.le_refl _) (by decide) (pm_ki (fun v29 σ' cnt' hq => ?_))
        obtain ⟨⟨I30, A30, rfl⟩, rfl, fv29⟩ := hq
        exact pm_iret hG hF dX12_pay_38 rfl (Nat.le_refl _) (Nat.le_refl _) ⟨_, rfl, ⟨_, _, _, rfl, hn, hr, ekc0.trans ekc0.symm, ekc2.trans ekc2.symm, ekc8.trans ekc8.symm, KS.rf⟩, rfl⟩
    · refine pm_ifN_ne (tgt := 25) hG dX12_pay_16 rfl (by omega) (fun q => absurd q (by omega)) (fun _ => ?_)
      refine pm_aloadn hG dX12_pay_19 rfl ?_
      refine pm_iconst (v := nI 1) hG dX12_pay_20 (by decide) ?_
      refine pm_callV (As := [.int (nI 1)]) (rest := []) hG hR dX12_pay_21 (lkX12_80 _ rfl) okV_X12_finds rfl rfl (m_finds (d := 1) (by decide) hn hz (by omega)) rfl rfl hdd (Nat.le_refl _) (Nat.le_refl _) (by decide) (pm_ki (fun v31 σ' cnt' hq => ?_))
      obtain ⟨⟨I32, A32, rfl⟩, rfl, fv31⟩ := hq
      exact pm_iret hG hF dX12_pay_24 rfl (Nat.le_refl _) (Nat.le_refl _) ⟨_, rfl, ⟨_, _, _, rfl, hn, hr, ekc0.trans ekc0.symm, ekc2.trans ekc2.symm, ekc8.trans ekc8.symm, KS.rf⟩, rfl⟩
  · refine pm_ifN_eq (tgt := 19) hG dX12_pay_5 rfl (by omega) (fun _ => ?_) (fun q => absurd q (by omega))
    refine pm_aloadn hG dX12_pay_19 rfl ?_
    refine pm_iconst (v := nI 1) hG dX12_pay_20 (by decide) ?_
    refine pm_callV (As := [.int (nI 1)]) (rest := []) hG hR dX12_pay_21 (lkX12_80 _ rfl) okV_X12_finds rfl rfl (m_finds (d := 1) (by decide) hn hz (by omega)) rfl rfl hdd (Nat.le_refl _) (Nat.le_refl _) (by decide) (pm_ki (fun v33 σ' cnt' hq => ?_))
    obtain ⟨⟨I34, A34, rfl⟩, rfl, fv33⟩ := hq
    exact pm_iret hG hF dX12_pay_24 rfl (Nat.le_refl _) (Nat.le_refl _) ⟨_, rfl, ⟨_, _, _, rfl, hn, hr, ekc0.trans ekc0.symm, ekc2.trans ekc2.symm, ekc8.trans ekc8.symm, KS.rf⟩, rfl⟩

set_option maxRecDepth 100000 in
set_option maxHeartbeats 4000000 in
theorem m_person {d B cnt p0 t0 : Nat} {σ : pm_S} {I : Nat → Int32} {A : Nat → Nat → Int32} {n k z : Nat → Int32} {ac wt pl im : Int32} {za zb zc zd : Int32} (hdd : 3 ≤ d) (hn : KI n) (hr : NR n) (hz : SZ z)  : pm_met mX12_person d 0 0 B [.ref (B + 54), .int za, .int zb, .int zc, .int zd] cnt (pm_mid σ (md_L B I A n k z ac wt pl (nI p0) (nI t0) im)) (pm_Qi (fun v σ' cnt' => (∃ (I' : Nat → Int32) (A' : Nat → Nat → Int32) (n' : Nat → Int32), σ' = pm_mid σ (md_L B I' A' n' k z ac wt pl (nI p0) (nI t0) im) ∧ KI n' ∧ NR n' ∧ n' 0 = n 0 ∧ n' 8 = n 8 ∧ v = vE (pN n) (n 8) (n 0) (n 2) za zb zc zd ∧ n' 2 = pE (pN n) (n 8) (n 0) (n 2) za zb zc zd ∧ ∀ j : Nat, t7 j = true → n' (110 + j) = TE (pN n) (n 8) (n 0) (n 2) za zb zc zd j) ∧ cnt = cnt')) := by
  obtain ⟨kc0, hkc0, ekc0⟩ := KI.nat hn (show kd 0 = (1, 11, true) by decide)
  obtain ⟨kc2, hkc2, ekc2⟩ := KI.nat hn (show kd 2 = (1, 21, true) by decide)
  obtain ⟨kc8, hkc8, ekc8⟩ := KI.nat hn (show kd 8 = (1, 2001, false) by decide)
  refine pm_enter 3 (by decide) (Nat.le_of_ble_eq_true rfl) rfl (fun G hG hR hF => ?_)
  refine pm_iloadn hG dX12_person_0 rfl ?_
  refine pm_iconst (v := nI 0) hG dX12_person_1 (by decide) ?_
  refine pm_iconst (v := nI 1) hG dX12_person_2 (by decide) ?_
  refine pm_callS (As := [.int za, .int (nI 0), .int (nI 1)]) (rest := []) hG hR dX12_person_3 (lkX12_68 _ rfl) okS_X12_in (m_in (d := 2)) rfl rfl hdd (Nat.le_refl _) (Nat.le_refl _) (by decide) (pm_ki (fun v1 σ' cnt' hq => ?_))
  obtain ⟨hq, rfl, rfl⟩ := hq
  rcases hq with ⟨rfl, ac2, bc2⟩ | ⟨rfl, c2⟩
  · obtain ⟨k3, hk3, ek3⟩ := in_nat (by omega) (by omega) ac2 bc2
    refine pm_ifN_eq (tgt := 73) hG dX12_person_6 rfl (by omega) (fun q => absurd q (by omega)) (fun _ => ?_)
    refine pm_iloadn hG dX12_person_9 rfl ?_
    refine pm_sipush (v := (-20000)) hG dX12_person_10 (by decide) ?_
    refine pm_aloadn hG dX12_person_13 rfl ?_
    refine pm_getf hG dX12_person_14 (flX12_7 _ rfl) rfl rfl ?_
    refine pm_bipush (v := nI 8) hG dX12_person_17 (by decide) ?_
    refine pm_ialdN hG dX12_person_19 rfl (by decide) (by omega) ?_
    refine pm_top (v := nI kc8) ekc8 ?_
    refine pm_callS (As := [.int zb, .int (-20000), .int (nI kc8)]) (rest := []) hG hR dX12_person_20 (lkX12_68 _ rfl) okS_X12_in (m_in (d := 2)) rfl rfl hdd (Nat.le_refl _) (Nat.le_refl _) (by decide) (pm_ki (fun v4 σ' cnt' hq => ?_))
    obtain ⟨hq, rfl, rfl⟩ := hq
    rcases hq with ⟨rfl, ac5, bc5⟩ | ⟨rfl, c5⟩
    · refine pm_ifN_eq (tgt := 73) hG dX12_person_23 rfl (by omega) (fun q => absurd q (by omega)) (fun _ => ?_)
      refine pm_iloadn hG dX12_person_26 rfl ?_
      refine pm_if_lt (tgt := 73) hG dX12_person_27 rfl (fun c6 => ?_) (fun c6 => ?_)
      · refine pm_iconst (v := nI 0) hG dX12_person_73 (by decide) ?_
        refine pm_istoreXi (loc' := [some (.ref (B + 54)), some (.int za), some (.int zb), some (.int zc), some (.int zd), some (.int (nI 0)), none, none]) hG dX12_person_74 (by decide) (pm_c1b rfl) rfl ?_
        refine pm_iloadi hG dX12_person_76 rfl ?_
        refine pm_ifN_ne (tgt := 87) hG dX12_person_78 rfl (by omega) (fun q => absurd q (by omega)) (fun _ => ?_)
        refine pm_aloadn hG dX12_person_81 rfl ?_
        refine pm_iconst (v := nI 1) hG dX12_person_82 (by decide) ?_
        refine pm_callV (As := [.int (nI 1)]) (rest := []) hG hR dX12_person_83 (lkX12_80 _ rfl) okV_X12_finds rfl rfl (m_finds (d := 2) (by decide) hn hz (by omega)) rfl rfl hdd (Nat.le_refl _) (Nat.le_refl _) (by decide) (pm_ki (fun v7 σ' cnt' hq => ?_))
        obtain ⟨⟨I8, A8, rfl⟩, rfl, fv7⟩ := hq
        exact pm_iret hG hF dX12_person_86 rfl (Nat.le_refl _) (Nat.le_refl _) ⟨_, rfl, ⟨_, _, _, rfl, hn, hr, ekc0.trans ekc0.symm, ekc8.trans ekc8.symm, ⟨fv7.trans ((by decide : (-1000000 : Int32) - nI 1 = -1000001).trans (vE_n (T := pN n) (d := n 8) (t := n 0) (p := n 2) (a := za) (b := zb) (c := zc) (e := zd) (Or.inr (Or.inr (Or.inl c6)))).1), (vE_n (T := pN n) (d := n 8) (t := n 0) (p := n 2) (a := za) (b := zb) (c := zc) (e := zd) (Or.inr (Or.inr (Or.inl c6)))).2.1, fun j _ => by rw [(vE_n (T := pN n) (d := n 8) (t := n 0) (p := n 2) (a := za) (b := zb) (c := zc) (e := zd) (Or.inr (Or.inr (Or.inl c6)))).2.2]⟩⟩, rfl⟩
      · obtain ⟨k9, hk9, ek9⟩ := nI_of c6
        refine pm_aloadn hG dX12_person_30 rfl ?_
        refine pm_iloadn hG dX12_person_31 rfl ?_
        refine pm_top (v := nI k9) ek9 ?_
        refine pm_bipush (v := nI 100) hG dX12_person_32 (by decide) ?_
        refine pm_idivN hG dX12_person_34 (by omega) (by decide) (by decide) ?_
        refine pm_iconst (v := nI 1) hG dX12_person_35 (by decide) ?_
        refine pm_isub hG dX12_person_36 ?_
        refine pm_iconst (v := nI 1) hG dX12_person_37 (by decide) ?_
        refine pm_iloadn hG dX12_person_38 rfl ?_
        refine pm_callV (As := [.int ((nI ((k9 / 100))) - (nI 1)), .int (nI 1), .int zb]) (rest := []) hG hR dX12_person_39 (lkX12_94 _ rfl) okV_X12_isParent rfl rfl (m_isParent (d := 2) (by decide) hn hz) rfl rfl hdd (Nat.le_refl _) (Nat.le_refl _) (by decide) (pm_ki (fun v10 σ' cnt' hq => ?_))
        obtain ⟨rfl, rfl, hq⟩ := hq
        rcases hq with ⟨rfl, pk11⟩ | ⟨rfl, pk11, ek11 | ⟨k11, hk11, ek11⟩⟩
        · refine pm_ifN_eq (tgt := 73) hG dX12_person_42 rfl (by omega) (fun _ => ?_) (fun q => absurd q (by omega))
          refine pm_iconst (v := nI 0) hG dX12_person_73 (by decide) ?_
          refine pm_istoreXi (loc' := [some (.ref (B + 54)), some (.int za), some (.int zb), some (.int zc), some (.int zd), some (.int (nI 0)), none, none]) hG dX12_person_74 (by decide) (pm_c1b rfl) rfl ?_
          refine pm_iloadi hG dX12_person_76 rfl ?_
          refine pm_ifN_ne (tgt := 87) hG dX12_person_78 rfl (by omega) (fun q => absurd q (by omega)) (fun _ => ?_)
          refine pm_aloadn hG dX12_person_81 rfl ?_
          refine pm_iconst (v := nI 1) hG dX12_person_82 (by decide) ?_
          refine pm_callV (As := [.int (nI 1)]) (rest := []) hG hR dX12_person_83 (lkX12_80 _ rfl) okV_X12_finds rfl rfl (m_finds (d := 2) (by decide) hn hz (by omega)) rfl rfl hdd (Nat.le_refl _) (Nat.le_refl _) (by decide) (pm_ki (fun v12 σ' cnt' hq => ?_))
          obtain ⟨⟨I13, A13, rfl⟩, rfl, fv12⟩ := hq
          exact pm_iret hG hF dX12_person_86 rfl (Nat.le_refl _) (Nat.le_refl _) ⟨_, rfl, ⟨_, _, _, rfl, hn, hr, ekc0.trans ekc0.symm, ekc8.trans ekc8.symm, ⟨fv12.trans ((by decide : (-1000000 : Int32) - nI 1 = -1000001).trans (vE_n (T := pN n) (d := n 8) (t := n 0) (p := n 2) (a := za) (b := zb) (c := zc) (e := zd) (Or.inr (Or.inr (Or.inr (Or.inr (Or.inl (by rw [dv1 ek9 (by omega)]; exact pk11))))))).1), (vE_n (T := pN n) (d := n 8) (t := n 0) (p := n 2) (a := za) (b := zb) (c := zc) (e := zd) (Or.inr (Or.inr (Or.inr (Or.inr (Or.inl (by rw [dv1 ek9 (by omega)]; exact pk11))))))).2.1, fun j _ => by rw [(vE_n (T := pN n) (d := n 8) (t := n 0) (p := n 2) (a := za) (b := zb) (c := zc) (e := zd) (Or.inr (Or.inr (Or.inr (Or.inr (Or.inl (by rw [dv1 ek9 (by omega)]; exact pk11))))))).2.2]⟩⟩, rfl⟩
        · refine pm_ifN_eq (tgt := 73) hG dX12_person_42 rfl (by omega) (fun q => absurd q (by omega)) (fun _ => ?_)
          refine pm_aloadn hG dX12_person_45 rfl ?_
          refine pm_iloadn hG dX12_person_46 rfl ?_
          refine pm_top (v := nI k9) ek9 ?_
          refine pm_bipush (v := nI 100) hG dX12_person_47 (by decide) ?_
          refine pm_iremM hG dX12_person_49 (by omega) (by decide) (by decide) ?_
          refine pm_iconst (v := nI 1) hG dX12_person_50 (by decide) ?_
          refine pm_isub hG dX12_person_51 ?_
          refine pm_iconst (v := nI 0) hG dX12_person_52 (by decide) ?_
          refine pm_iloadn hG dX12_person_53 rfl ?_
          refine pm_callV (As := [.int ((nI ((k9 % 100))) - (nI 1)), .int (nI 0), .int zb]) (rest := []) hG hR dX12_person_54 (lkX12_94 _ rfl) okV_X12_isParent rfl rfl (m_isParent (d := 2) (by decide) hn hz) rfl rfl hdd (Nat.le_refl _) (Nat.le_refl _) (by decide) (pm_ki (fun v14 σ' cnt' hq => ?_))
          obtain ⟨rfl, rfl, hq⟩ := hq
          rcases hq with ⟨rfl, pk15⟩ | ⟨rfl, pk15, ek15 | ⟨k15, hk15, ek15⟩⟩
          · refine pm_ifN_eq (tgt := 73) hG dX12_person_57 rfl (by omega) (fun _ => ?_) (fun q => absurd q (by omega))
            refine pm_iconst (v := nI 0) hG dX12_person_73 (by decide) ?_
            refine pm_istoreXi (loc' := [some (.ref (B + 54)), some (.int za), some (.int zb), some (.int zc), some (.int zd), some (.int (nI 0)), none, none]) hG dX12_person_74 (by decide) (pm_c1b rfl) rfl ?_
            refine pm_iloadi hG dX12_person_76 rfl ?_
            refine pm_ifN_ne (tgt := 87) hG dX12_person_78 rfl (by omega) (fun q => absurd q (by omega)) (fun _ => ?_)
            refine pm_aloadn hG dX12_person_81 rfl ?_
            refine pm_iconst (v := nI 1) hG dX12_person_82 (by decide) ?_
            refine pm_callV (As := [.int (nI 1)]) (rest := []) hG hR dX12_person_83 (lkX12_80 _ rfl) okV_X12_finds rfl rfl (m_finds (d := 2) (by decide) hn hz (by omega)) rfl rfl hdd (Nat.le_refl _) (Nat.le_refl _) (by decide) (pm_ki (fun v16 σ' cnt' hq => ?_))
            obtain ⟨⟨I17, A17, rfl⟩, rfl, fv16⟩ := hq
            exact pm_iret hG hF dX12_person_86 rfl (Nat.le_refl _) (Nat.le_refl _) ⟨_, rfl, ⟨_, _, _, rfl, hn, hr, ekc0.trans ekc0.symm, ekc8.trans ekc8.symm, ⟨fv16.trans ((by decide : (-1000000 : Int32) - nI 1 = -1000001).trans (vE_n (T := pN n) (d := n 8) (t := n 0) (p := n 2) (a := za) (b := zb) (c := zc) (e := zd) (Or.inr (Or.inr (Or.inr (Or.inr (Or.inr (by rw [rm1 ek9 (by omega)]; exact pk15))))))).1), (vE_n (T := pN n) (d := n 8) (t := n 0) (p := n 2) (a := za) (b := zb) (c := zc) (e := zd) (Or.inr (Or.inr (Or.inr (Or.inr (Or.inr (by rw [rm1 ek9 (by omega)]; exact pk15))))))).2.1, fun j _ => by rw [(vE_n (T := pN n) (d := n 8) (t := n 0) (p := n 2) (a := za) (b := zb) (c := zc) (e := zd) (Or.inr (Or.inr (Or.inr (Or.inr (Or.inr (by rw [rm1 ek9 (by omega)]; exact pk15))))))).2.2]⟩⟩, rfl⟩
          · refine pm_ifN_eq (tgt := 73) hG dX12_person_57 rfl (by omega) (fun q => absurd q (by omega)) (fun _ => ?_)
            refine pm_aloadn hG dX12_person_60 rfl ?_
            refine pm_iloadi hG dX12_person_61 rfl ?_
            refine pm_callV (As := [.int zd]) (rest := []) hG hR dX12_person_63 (lkX12_84 _ rfl) okV_X12_isTown rfl rfl (m_isTown (d := 2) (by decide) ekc0 (by omega)) rfl rfl hdd (Nat.le_refl _) (Nat.le_refl _) (by decide) (pm_ki (fun v18 σ' cnt' hq => ?_))
            obtain ⟨hq, rfl, rfl⟩ := hq
            rcases hq with ⟨rfl, k20, hk20, ek20⟩ | ⟨rfl, ntk20⟩
            · refine pm_ifN_eq (tgt := 73) hG dX12_person_66 rfl (by omega) (fun q => absurd q (by omega)) (fun _ => ?_)
              refine pm_iconst (v := nI 1) hG dX12_person_69 (by decide) ?_
              refine pm_goto (tgt := 74) hG dX12_person_70 rfl ?_
              refine pm_istoreXi (loc' := [some (.ref (B + 54)), some (.int za), some (.int zb), some (.int zc), some (.int zd), some (.int (nI 1)), none, none]) hG dX12_person_74 (by decide) (pm_c1b rfl) rfl ?_
              refine pm_iloadi hG dX12_person_76 rfl ?_
              refine pm_ifN_ne (tgt := 87) hG dX12_person_78 rfl (by omega) (fun _ => ?_) (fun q => absurd q (by omega))
              refine pm_aloadn hG dX12_person_87 rfl ?_
              refine pm_getf hG dX12_person_88 (flX12_7 _ rfl) rfl rfl ?_
              refine pm_iconst (v := nI 2) hG dX12_person_91 (by decide) ?_
              refine pm_ialdN hG dX12_person_92 rfl (by decide) (by omega) ?_
              refine pm_top (v := nI kc2) ekc2 ?_
              refine pm_istoreXi (loc' := [some (.ref (B + 54)), some (.int za), some (.int zb), some (.int zc), some (.int zd), some (.int (nI 1)), some (.int (nI kc2)), none]) hG dX12_person_93 (by decide) (pm_c1b rfl) rfl ?_
              refine pm_iloadi hG dX12_person_95 rfl ?_
              refine pm_bipush (v := nI 20) hG dX12_person_97 (by decide) ?_
              refine pm_icmpN_ne (tgt := 108) hG dX12_person_99 rfl (by omega) (by omega) (fun c21 => ?_) (fun c21 => ?_)
              · refine pm_aloadn hG dX12_person_108 rfl ?_
                refine pm_getf hG dX12_person_109 (flX12_7 _ rfl) rfl rfl ?_
                refine pm_iconst (v := nI 2) hG dX12_person_112 (by decide) ?_
                refine pm_dup2 hG dX12_person_113 rfl rfl ?_
                refine pm_ialdN hG dX12_person_114 rfl (by decide) (by omega) ?_
                refine pm_top (v := nI kc2) ekc2 ?_
                refine pm_iconst (v := nI 1) hG dX12_person_115 (by decide) ?_
                refine pm_iaddN (c := kc2 + 1) hG dX12_person_116 (by omega) ?_
                refine pm_iastN hG dX12_person_117 rfl (by decide) (by omega) ?_
                refine mdn_now (fun n_22 en_22 => ?_)
                have hnn_22 := KI.w en_22 hn (okv_n (show kd 2 = (1, 21, true) by decide) (by omega))
                have hrn_22 := NRx.pers en_22 hr ekc0 (by omega) ekc2 (by omega)
                have ksn_22 := KSh.w (h := 14 * kc2 + 110) en_22 KSh.rf (by unfold tS; omega)
                have e23 : n_22 0 = nI kc0 := by rw [en_22, pk_un (by omega)]; exact ekc0
                have e24 : n_22 8 = nI kc8 := by rw [en_22, pk_un (by omega)]; exact ekc8
                have e25 : n_22 2 = nI (kc2 + 1) := by rw [en_22, pk_us]
                refine pm_iconst (v := nI 0) hG dX12_person_118 (by decide) ?_
                refine pm_istoreXi (loc' := [some (.ref (B + 54)), some (.int za), some (.int zb), some (.int zc), some (.int zd), some (.int (nI 1)), some (.int (nI kc2)), some (.int (nI 0))]) hG dX12_person_119 (by decide) (pm_c1b rfl) rfl ?_
                refine pm_iloadi hG dX12_person_121 rfl ?_
                refine pm_bipush (v := nI 14) hG dX12_person_123 (by decide) ?_
                refine pm_icmpN_ge (tgt := 143) hG dX12_person_125 rfl (by omega) (by omega) (fun q => absurd q (by omega)) (fun _ => ?_)
                refine pm_aloadn hG dX12_person_128 rfl ?_
                refine pm_iloadi hG dX12_person_129 rfl ?_
                refine pm_iloadi hG dX12_person_131 rfl ?_
                refine pm_iconst (v := nI 0) hG dX12_person_133 (by decide) ?_
                refine pm_callV (As := [.int (nI kc2), .int (nI 0), .int (nI 0)]) (rest := []) hG hR dX12_person_134 (lkX12_97 _ rfl) okV_X12_sets rfl rfl (m_sets (d := 2) (e := 14 * kc2 + 110) (by omega) (by omega) (by omega)) rfl rfl hdd (Nat.le_refl _) (Nat.le_refl _) (by decide) (pm_kv (fun σ' cnt' hq => ?_))
                obtain ⟨rfl, rfl⟩ := hq
                obtain ⟨n_26, en_26⟩ : ∃ f : Nat → Int32, f = upd n_22 (14 * kc2 + 110) (nI 0) := ⟨_, rfl⟩
                rw [← en_26]
                have hnn_26 := KI.w en_26 hnn_22 (okv_f (show kd (14 * kc2 + 110) = (0, 0, false) from (kd_P (k := kc2) (c := 0) (by omega) (by omega) (by decide))))
                have hrn_26 := NRx.w en_26 hrn_22 (by rw [(show kd (14 * kc2 + 110) = (0, 0, false) from (kd_P (k := kc2) (c := 0) (by omega) (by omega) (by decide)))])
                have ksn_26 := KSh.w (h := 14 * kc2 + 110) en_26 ksn_22 (by unfold tS; omega)
                have e27 : n_26 0 = nI kc0 := by rw [en_26, pk_un (by omega)]; exact e23
                have e28 : n_26 8 = nI kc8 := by rw [en_26, pk_un (by omega)]; exact e24
                have e29 : n_26 2 = nI (kc2 + 1) := by rw [en_26, pk_un (by omega)]; exact e25
                have e30 : n_26 (14 * kc2 + 110) = nI 0 := by rw [en_26, pk_us]
                refine pm_iincX (v := nI 1) (loc' := [some (.ref (B + 54)), some (.int za), some (.int zb), some (.int zc), some (.int zd), some (.int (nI 1)), some (.int (nI kc2)), some (.int (nI 1))]) hG dX12_person_137 rfl (nI_1 _) (by decide) (pm_c1b rfl) rfl ?_
                refine pm_goto (tgt := 121) hG dX12_person_140 rfl ?_
                refine pm_iloadi hG dX12_person_121 rfl ?_
                refine pm_bipush (v := nI 14) hG dX12_person_123 (by decide) ?_
                refine pm_icmpN_ge (tgt := 143) hG dX12_person_125 rfl (by omega) (by omega) (fun q => absurd q (by omega)) (fun _ => ?_)
                refine pm_aloadn hG dX12_person_128 rfl ?_
                refine pm_iloadi hG dX12_person_129 rfl ?_
                refine pm_iloadi hG dX12_person_131 rfl ?_
                refine pm_iconst (v := nI 0) hG dX12_person_133 (by decide) ?_
                refine pm_callV (As := [.int (nI kc2), .int (nI 1), .int (nI 0)]) (rest := []) hG hR dX12_person_134 (lkX12_97 _ rfl) okV_X12_sets rfl rfl (m_sets (d := 2) (e := 14 * kc2 + 111) (by omega) (by omega) (by omega)) rfl rfl hdd (Nat.le_refl _) (Nat.le_refl _) (by decide) (pm_kv (fun σ' cnt' hq => ?_))
                obtain ⟨rfl, rfl⟩ := hq
                obtain ⟨n_31, en_31⟩ : ∃ f : Nat → Int32, f = upd n_26 (14 * kc2 + 111) (nI 0) := ⟨_, rfl⟩
                rw [← en_31]
                have hnn_31 := KI.w en_31 hnn_26 (okv_f (show kd (14 * kc2 + 111) = (0, 0, false) from (kd_P (k := kc2) (c := 1) (by omega) (by omega) (by decide))))
                have hrn_31 := NRx.w en_31 hrn_26 (by rw [(show kd (14 * kc2 + 111) = (0, 0, false) from (kd_P (k := kc2) (c := 1) (by omega) (by omega) (by decide)))])
                have ksn_31 := KSh.w (h := 14 * kc2 + 110) en_31 ksn_26 (by unfold tS; omega)
                have e32 : n_31 0 = nI kc0 := by rw [en_31, pk_un (by omega)]; exact e27
                have e33 : n_31 8 = nI kc8 := by rw [en_31, pk_un (by omega)]; exact e28
                have e34 : n_31 2 = nI (kc2 + 1) := by rw [en_31, pk_un (by omega)]; exact e29
                have e35 : n_31 (14 * kc2 + 110) = nI 0 := by rw [en_31, pk_un (by omega)]; exact e30
                have e36 : n_31 (14 * kc2 + 111) = nI 0 := by rw [en_31, pk_us]
                refine pm_iincX (v := nI 2) (loc' := [some (.ref (B + 54)), some (.int za), some (.int zb), some (.int zc), some (.int zd), some (.int (nI 1)), some (.int (nI kc2)), some (.int (nI 2))]) hG dX12_person_137 rfl (nI_1 _) (by decide) (pm_c1b rfl) rfl ?_
                refine pm_goto (tgt := 121) hG dX12_person_140 rfl ?_
                refine pm_iloadi hG dX12_person_121 rfl ?_
                refine pm_bipush (v := nI 14) hG dX12_person_123 (by decide) ?_
                refine pm_icmpN_ge (tgt := 143) hG dX12_person_125 rfl (by omega) (by omega) (fun q => absurd q (by omega)) (fun _ => ?_)
                refine pm_aloadn hG dX12_person_128 rfl ?_
                refine pm_iloadi hG dX12_person_129 rfl ?_
                refine pm_iloadi hG dX12_person_131 rfl ?_
                refine pm_iconst (v := nI 0) hG dX12_person_133 (by decide) ?_
                refine pm_callV (As := [.int (nI kc2), .int (nI 2), .int (nI 0)]) (rest := []) hG hR dX12_person_134 (lkX12_97 _ rfl) okV_X12_sets rfl rfl (m_sets (d := 2) (e := 14 * kc2 + 112) (by omega) (by omega) (by omega)) rfl rfl hdd (Nat.le_refl _) (Nat.le_refl _) (by decide) (pm_kv (fun σ' cnt' hq => ?_))
                obtain ⟨rfl, rfl⟩ := hq
                obtain ⟨n_37, en_37⟩ : ∃ f : Nat → Int32, f = upd n_31 (14 * kc2 + 112) (nI 0) := ⟨_, rfl⟩
                rw [← en_37]
                have hnn_37 := KI.w en_37 hnn_31 (okv_o (show kd (14 * kc2 + 112) = (2, 20, false) from (kd_P (k := kc2) (c := 2) (by omega) (by omega) (by decide))) (by omega))
                have hrn_37 := NRx.w en_37 hrn_31 (by rw [(show kd (14 * kc2 + 112) = (2, 20, false) from (kd_P (k := kc2) (c := 2) (by omega) (by omega) (by decide)))])
                have ksn_37 := KSh.w (h := 14 * kc2 + 110) en_37 ksn_31 (by unfold tS; omega)
                have e38 : n_37 0 = nI kc0 := by rw [en_37, pk_un (by omega)]; exact e32
                have e39 : n_37 8 = nI kc8 := by rw [en_37, pk_un (by omega)]; exact e33
                have e40 : n_37 2 = nI (kc2 + 1) := by rw [en_37, pk_un (by omega)]; exact e34
                have e41 : n_37 (14 * kc2 + 110) = nI 0 := by rw [en_37, pk_un (by omega)]; exact e35
                have e42 : n_37 (14 * kc2 + 111) = nI 0 := by rw [en_37, pk_un (by omega)]; exact e36
                have e43 : n_37 (14 * kc2 + 112) = nI 0 := by rw [en_37, pk_us]
                refine pm_iincX (v := nI 3) (loc' := [some (.ref (B + 54)), some (.int za), some (.int zb), some (.int zc), some (.int zd), some (.int (nI 1)), some (.int (nI kc2)), some (.int (nI 3))]) hG dX12_person_137 rfl (nI_1 _) (by decide) (pm_c1b rfl) rfl ?_
                refine pm_goto (tgt := 121) hG dX12_person_140 rfl ?_
                refine pm_iloadi hG dX12_person_121 rfl ?_
                refine pm_bipush (v := nI 14) hG dX12_person_123 (by decide) ?_
                refine pm_icmpN_ge (tgt := 143) hG dX12_person_125 rfl (by omega) (by omega) (fun q => absurd q (by omega)) (fun _ => ?_)
                refine pm_aloadn hG dX12_person_128 rfl ?_
                refine pm_iloadi hG dX12_person_129 rfl ?_
                refine pm_iloadi hG dX12_person_131 rfl ?_
                refine pm_iconst (v := nI 0) hG dX12_person_133 (by decide) ?_
                refine pm_callV (As := [.int (nI kc2), .int (nI 3), .int (nI 0)]) (rest := []) hG hR dX12_person_134 (lkX12_97 _ rfl) okV_X12_sets rfl rfl (m_sets (d := 2) (e := 14 * kc2 + 113) (by omega) (by omega) (by omega)) rfl rfl hdd (Nat.le_refl _) (Nat.le_refl _) (by decide) (pm_kv (fun σ' cnt' hq => ?_))
                obtain ⟨rfl, rfl⟩ := hq
                obtain ⟨n_44, en_44⟩ : ∃ f : Nat → Int32, f = upd n_37 (14 * kc2 + 113) (nI 0) := ⟨_, rfl⟩
                rw [← en_44]
                have hnn_44 := KI.w en_44 hnn_37 (okv_o (show kd (14 * kc2 + 113) = (2, 20, false) from (kd_P (k := kc2) (c := 3) (by omega) (by omega) (by decide))) (by omega))
                have hrn_44 := NRx.w en_44 hrn_37 (by rw [(show kd (14 * kc2 + 113) = (2, 20, false) from (kd_P (k := kc2) (c := 3) (by omega) (by omega) (by decide)))])
                have ksn_44 := KSh.w (h := 14 * kc2 + 110) en_44 ksn_37 (by unfold tS; omega)
                have e45 : n_44 0 = nI kc0 := by rw [en_44, pk_un (by omega)]; exact e38
                have e46 : n_44 8 = nI kc8 := by rw [en_44, pk_un (by omega)]; exact e39
                have e47 : n_44 2 = nI (kc2 + 1) := by rw [en_44, pk_un (by omega)]; exact e40
                have e48 : n_44 (14 * kc2 + 110) = nI 0 := by rw [en_44, pk_un (by omega)]; exact e41
                have e49 : n_44 (14 * kc2 + 111) = nI 0 := by rw [en_44, pk_un (by omega)]; exact e42
                have e50 : n_44 (14 * kc2 + 113) = nI 0 := by rw [en_44, pk_us]
                refine pm_iincX (v := nI 4) (loc' := [some (.ref (B + 54)), some (.int za), some (.int zb), some (.int zc), some (.int zd), some (.int (nI 1)), some (.int (nI kc2)), some (.int (nI 4))]) hG dX12_person_137 rfl (nI_1 _) (by decide) (pm_c1b rfl) rfl ?_
                refine pm_goto (tgt := 121) hG dX12_person_140 rfl ?_
                refine pm_iloadi hG dX12_person_121 rfl ?_
                refine pm_bipush (v := nI 14) hG dX12_person_123 (by decide) ?_
                refine pm_icmpN_ge (tgt := 143) hG dX12_person_125 rfl (by omega) (by omega) (fun q => absurd q (by omega)) (fun _ => ?_)
                refine pm_aloadn hG dX12_person_128 rfl ?_
                refine pm_iloadi hG dX12_person_129 rfl ?_
                refine pm_iloadi hG dX12_person_131 rfl ?_
                refine pm_iconst (v := nI 0) hG dX12_person_133 (by decide) ?_
                refine pm_callV (As := [.int (nI kc2), .int (nI 4), .int (nI 0)]) (rest := []) hG hR dX12_person_134 (lkX12_97 _ rfl) okV_X12_sets rfl rfl (m_sets (d := 2) (e := 14 * kc2 + 114) (by omega) (by omega) (by omega)) rfl rfl hdd (Nat.le_refl _) (Nat.le_refl _) (by decide) (pm_kv (fun σ' cnt' hq => ?_))
                obtain ⟨rfl, rfl⟩ := hq
                obtain ⟨n_51, en_51⟩ : ∃ f : Nat → Int32, f = upd n_44 (14 * kc2 + 114) (nI 0) := ⟨_, rfl⟩
                rw [← en_51]
                have hnn_51 := KI.w en_51 hnn_44 (okv_o (show kd (14 * kc2 + 114) = (2, 10, false) from (kd_P (k := kc2) (c := 4) (by omega) (by omega) (by decide))) (by omega))
                have hrn_51 := NRx.w en_51 hrn_44 (by rw [(show kd (14 * kc2 + 114) = (2, 10, false) from (kd_P (k := kc2) (c := 4) (by omega) (by omega) (by decide)))])
                have ksn_51 := KSh.w (h := 14 * kc2 + 110) en_51 ksn_44 (by unfold tS; omega)
                have e52 : n_51 0 = nI kc0 := by rw [en_51, pk_un (by omega)]; exact e45
                have e53 : n_51 8 = nI kc8 := by rw [en_51, pk_un (by omega)]; exact e46
                have e54 : n_51 2 = nI (kc2 + 1) := by rw [en_51, pk_un (by omega)]; exact e47
                have e55 : n_51 (14 * kc2 + 110) = nI 0 := by rw [en_51, pk_un (by omega)]; exact e48
                have e56 : n_51 (14 * kc2 + 111) = nI 0 := by rw [en_51, pk_un (by omega)]; exact e49
                have e57 : n_51 (14 * kc2 + 114) = nI 0 := by rw [en_51, pk_us]
                refine pm_iincX (v := nI 5) (loc' := [some (.ref (B + 54)), some (.int za), some (.int zb), some (.int zc), some (.int zd), some (.int (nI 1)), some (.int (nI kc2)), some (.int (nI 5))]) hG dX12_person_137 rfl (nI_1 _) (by decide) (pm_c1b rfl) rfl ?_
                refine pm_goto (tgt := 121) hG dX12_person_140 rfl ?_
                refine pm_iloadi hG dX12_person_121 rfl ?_
                refine pm_bipush (v := nI 14) hG dX12_person_123 (by decide) ?_
                refine pm_icmpN_ge (tgt := 143) hG dX12_person_125 rfl (by omega) (by omega) (fun q => absurd q (by omega)) (fun _ => ?_)
                refine pm_aloadn hG dX12_person_128 rfl ?_
                refine pm_iloadi hG dX12_person_129 rfl ?_
                refine pm_iloadi hG dX12_person_131 rfl ?_
                refine pm_iconst (v := nI 0) hG dX12_person_133 (by decide) ?_
                refine pm_callV (As := [.int (nI kc2), .int (nI 5), .int (nI 0)]) (rest := []) hG hR dX12_person_134 (lkX12_97 _ rfl) okV_X12_sets rfl rfl (m_sets (d := 2) (e := 14 * kc2 + 115) (by omega) (by omega) (by omega)) rfl rfl hdd (Nat.le_refl _) (Nat.le_refl _) (by decide) (pm_kv (fun σ' cnt' hq => ?_))
                obtain ⟨rfl, rfl⟩ := hq
                obtain ⟨n_58, en_58⟩ : ∃ f : Nat → Int32, f = upd n_51 (14 * kc2 + 115) (nI 0) := ⟨_, rfl⟩
                rw [← en_58]
                have hnn_58 := KI.w en_58 hnn_51 (okv_n (show kd (14 * kc2 + 115) = (1, 10, false) from (kd_P (k := kc2) (c := 5) (by omega) (by omega) (by decide))) (by omega))
                have hrn_58 := NRx.w en_58 hrn_51 (by rw [(show kd (14 * kc2 + 115) = (1, 10, false) from (kd_P (k := kc2) (c := 5) (by omega) (by omega) (by decide)))])
                have ksn_58 := KSh.w (h := 14 * kc2 + 110) en_58 ksn_51 (by unfold tS; omega)
                have e59 : n_58 0 = nI kc0 := by rw [en_58, pk_un (by omega)]; exact e52
                have e60 : n_58 8 = nI kc8 := by rw [en_58, pk_un (by omega)]; exact e53
                have e61 : n_58 2 = nI (kc2 + 1) := by rw [en_58, pk_un (by omega)]; exact e54
                have e62 : n_58 (14 * kc2 + 110) = nI 0 := by rw [en_58, pk_un (by omega)]; exact e55
                have e63 : n_58 (14 * kc2 + 111) = nI 0 := by rw [en_58, pk_un (by omega)]; exact e56
                have e64 : n_58 (14 * kc2 + 115) = nI 0 := by rw [en_58, pk_us]
                refine pm_iincX (v := nI 6) (loc' := [some (.ref (B + 54)), some (.int za), some (.int zb), some (.int zc), some (.int zd), some (.int (nI 1)), some (.int (nI kc2)), some (.int (nI 6))]) hG dX12_person_137 rfl (nI_1 _) (by decide) (pm_c1b rfl) rfl ?_
                refine pm_goto (tgt := 121) hG dX12_person_140 rfl ?_
                refine pm_iloadi hG dX12_person_121 rfl ?_
                refine pm_bipush (v := nI 14) hG dX12_person_123 (by decide) ?_
                refine pm_icmpN_ge (tgt := 143) hG dX12_person_125 rfl (by omega) (by omega) (fun q => absurd q (by omega)) (fun _ => ?_)
                refine pm_aloadn hG dX12_person_128 rfl ?_
                refine pm_iloadi hG dX12_person_129 rfl ?_
                refine pm_iloadi hG dX12_person_131 rfl ?_
                refine pm_iconst (v := nI 0) hG dX12_person_133 (by decide) ?_
                refine pm_callV (As := [.int (nI kc2), .int (nI 6), .int (nI 0)]) (rest := []) hG hR dX12_person_134 (lkX12_97 _ rfl) okV_X12_sets rfl rfl (m_sets (d := 2) (e := 14 * kc2 + 116) (by omega) (by omega) (by omega)) rfl rfl hdd (Nat.le_refl _) (Nat.le_refl _) (by decide) (pm_kv (fun σ' cnt' hq => ?_))
                obtain ⟨rfl, rfl⟩ := hq
                obtain ⟨n_65, en_65⟩ : ∃ f : Nat → Int32, f = upd n_58 (14 * kc2 + 116) (nI 0) := ⟨_, rfl⟩
                rw [← en_65]
                have hnn_65 := KI.w en_65 hnn_58 (okv_f (show kd (14 * kc2 + 116) = (0, 0, false) from (kd_P (k := kc2) (c := 6) (by omega) (by omega) (by decide))))
                have hrn_65 := NRx.w en_65 hrn_58 (by rw [(show kd (14 * kc2 + 116) = (0, 0, false) from (kd_P (k := kc2) (c := 6) (by omega) (by omega) (by decide)))])
                have ksn_65 := KSh.w (h := 14 * kc2 + 110) en_65 ksn_58 (by unfold tS; omega)
                have e66 : n_65 0 = nI kc0 := by rw [en_65, pk_un (by omega)]; exact e59
                have e67 : n_65 8 = nI kc8 := by rw [en_65, pk_un (by omega)]; exact e60
                have e68 : n_65 2 = nI (kc2 + 1) := by rw [en_65, pk_un (by omega)]; exact e61
                have e69 : n_65 (14 * kc2 + 110) = nI 0 := by rw [en_65, pk_un (by omega)]; exact e62
                have e70 : n_65 (14 * kc2 + 111) = nI 0 := by rw [en_65, pk_un (by omega)]; exact e63
                have e71 : n_65 (14 * kc2 + 116) = nI 0 := by rw [en_65, pk_us]
                refine pm_iincX (v := nI 7) (loc' := [some (.ref (B + 54)), some (.int za), some (.int zb), some (.int zc), some (.int zd), some (.int (nI 1)), some (.int (nI kc2)), some (.int (nI 7))]) hG dX12_person_137 rfl (nI_1 _) (by decide) (pm_c1b rfl) rfl ?_
                refine pm_goto (tgt := 121) hG dX12_person_140 rfl ?_
                refine pm_iloadi hG dX12_person_121 rfl ?_
                refine pm_bipush (v := nI 14) hG dX12_person_123 (by decide) ?_
                refine pm_icmpN_ge (tgt := 143) hG dX12_person_125 rfl (by omega) (by omega) (fun q => absurd q (by omega)) (fun _ => ?_)
                refine pm_aloadn hG dX12_person_128 rfl ?_
                refine pm_iloadi hG dX12_person_129 rfl ?_
                refine pm_iloadi hG dX12_person_131 rfl ?_
                refine pm_iconst (v := nI 0) hG dX12_person_133 (by decide) ?_
                refine pm_callV (As := [.int (nI kc2), .int (nI 7), .int (nI 0)]) (rest := []) hG hR dX12_person_134 (lkX12_97 _ rfl) okV_X12_sets rfl rfl (m_sets (d := 2) (e := 14 * kc2 + 117) (by omega) (by omega) (by omega)) rfl rfl hdd (Nat.le_refl _) (Nat.le_refl _) (by decide) (pm_kv (fun σ' cnt' hq => ?_))
                obtain ⟨rfl, rfl⟩ := hq
                obtain ⟨n_72, en_72⟩ : ∃ f : Nat → Int32, f = upd n_65 (14 * kc2 + 117) (nI 0) := ⟨_, rfl⟩
                rw [← en_72]
                have hnn_72 := KI.w en_72 hnn_65 (okv_f (show kd (14 * kc2 + 117) = (0, 0, false) from (kd_P (k := kc2) (c := 7) (by omega) (by omega) (by decide))))
                have hrn_72 := NRx.w en_72 hrn_65 (by rw [(show kd (14 * kc2 + 117) = (0, 0, false) from (kd_P (k := kc2) (c := 7) (by omega) (by omega) (by decide)))])
                have ksn_72 := KSh.w (h := 14 * kc2 + 110) en_72 ksn_65 (by unfold tS; omega)
                have e73 : n_72 0 = nI kc0 := by rw [en_72, pk_un (by omega)]; exact e66
                have e74 : n_72 8 = nI kc8 := by rw [en_72, pk_un (by omega)]; exact e67
                have e75 : n_72 2 = nI (kc2 + 1) := by rw [en_72, pk_un (by omega)]; exact e68
                have e76 : n_72 (14 * kc2 + 110) = nI 0 := by rw [en_72, pk_un (by omega)]; exact e69
                have e77 : n_72 (14 * kc2 + 111) = nI 0 := by rw [en_72, pk_un (by omega)]; exact e70
                have e78 : n_72 (14 * kc2 + 117) = nI 0 := by rw [en_72, pk_us]
                refine pm_iincX (v := nI 8) (loc' := [some (.ref (B + 54)), some (.int za), some (.int zb), some (.int zc), some (.int zd), some (.int (nI 1)), some (.int (nI kc2)), some (.int (nI 8))]) hG dX12_person_137 rfl (nI_1 _) (by decide) (pm_c1b rfl) rfl ?_
                refine pm_goto (tgt := 121) hG dX12_person_140 rfl ?_
                refine pm_iloadi hG dX12_person_121 rfl ?_
                refine pm_bipush (v := nI 14) hG dX12_person_123 (by decide) ?_
                refine pm_icmpN_ge (tgt := 143) hG dX12_person_125 rfl (by omega) (by omega) (fun q => absurd q (by omega)) (fun _ => ?_)
                refine pm_aloadn hG dX12_person_128 rfl ?_
                refine pm_iloadi hG dX12_person_129 rfl ?_
                refine pm_iloadi hG dX12_person_131 rfl ?_
                refine pm_iconst (v := nI 0) hG dX12_person_133 (by decide) ?_
                refine pm_callV (As := [.int (nI kc2), .int (nI 8), .int (nI 0)]) (rest := []) hG hR dX12_person_134 (lkX12_97 _ rfl) okV_X12_sets rfl rfl (m_sets (d := 2) (e := 14 * kc2 + 118) (by omega) (by omega) (by omega)) rfl rfl hdd (Nat.le_refl _) (Nat.le_refl _) (by decide) (pm_kv (fun σ' cnt' hq => ?_))
                obtain ⟨rfl, rfl⟩ := hq
                obtain ⟨n_79, en_79⟩ : ∃ f : Nat → Int32, f = upd n_72 (14 * kc2 + 118) (nI 0) := ⟨_, rfl⟩
                rw [← en_79]
                have hnn_79 := KI.w en_79 hnn_72 (okv_f (show kd (14 * kc2 + 118) = (0, 0, false) from (kd_P (k := kc2) (c := 8) (by omega) (by omega) (by decide))))
                have hrn_79 := NRx.w en_79 hrn_72 (by rw [(show kd (14 * kc2 + 118) = (0, 0, false) from (kd_P (k := kc2) (c := 8) (by omega) (by omega) (by decide)))])
                have ksn_79 := KSh.w (h := 14 * kc2 + 110) en_79 ksn_72 (by unfold tS; omega)
                have e80 : n_79 0 = nI kc0 := by rw [en_79, pk_un (by omega)]; exact e73
                have e81 : n_79 8 = nI kc8 := by rw [en_79, pk_un (by omega)]; exact e74
                have e82 : n_79 2 = nI (kc2 + 1) := by rw [en_79, pk_un (by omega)]; exact e75
                have e83 : n_79 (14 * kc2 + 110) = nI 0 := by rw [en_79, pk_un (by omega)]; exact e76
                have e84 : n_79 (14 * kc2 + 111) = nI 0 := by rw [en_79, pk_un (by omega)]; exact e77
                have e85 : n_79 (14 * kc2 + 118) = nI 0 := by rw [en_79, pk_us]
                refine pm_iincX (v := nI 9) (loc' := [some (.ref (B + 54)), some (.int za), some (.int zb), some (.int zc), some (.int zd), some (.int (nI 1)), some (.int (nI kc2)), some (.int (nI 9))]) hG dX12_person_137 rfl (nI_1 _) (by decide) (pm_c1b rfl) rfl ?_
                refine pm_goto (tgt := 121) hG dX12_person_140 rfl ?_
                refine pm_iloadi hG dX12_person_121 rfl ?_
                refine pm_bipush (v := nI 14) hG dX12_person_123 (by decide) ?_
                refine pm_icmpN_ge (tgt := 143) hG dX12_person_125 rfl (by omega) (by omega) (fun q => absurd q (by omega)) (fun _ => ?_)
                refine pm_aloadn hG dX12_person_128 rfl ?_
                refine pm_iloadi hG dX12_person_129 rfl ?_
                refine pm_iloadi hG dX12_person_131 rfl ?_
                refine pm_iconst (v := nI 0) hG dX12_person_133 (by decide) ?_
                refine pm_callV (As := [.int (nI kc2), .int (nI 9), .int (nI 0)]) (rest := []) hG hR dX12_person_134 (lkX12_97 _ rfl) okV_X12_sets rfl rfl (m_sets (d := 2) (e := 14 * kc2 + 119) (by omega) (by omega) (by omega)) rfl rfl hdd (Nat.le_refl _) (Nat.le_refl _) (by decide) (pm_kv (fun σ' cnt' hq => ?_))
                obtain ⟨rfl, rfl⟩ := hq
                obtain ⟨n_86, en_86⟩ : ∃ f : Nat → Int32, f = upd n_79 (14 * kc2 + 119) (nI 0) := ⟨_, rfl⟩
                rw [← en_86]
                have hnn_86 := KI.w en_86 hnn_79 (okv_o (show kd (14 * kc2 + 119) = (2, 2001, false) from (kd_P (k := kc2) (c := 9) (by omega) (by omega) (by decide))) (by omega))
                have hrn_86 := NRx.w en_86 hrn_79 (by rw [(show kd (14 * kc2 + 119) = (2, 2001, false) from (kd_P (k := kc2) (c := 9) (by omega) (by omega) (by decide)))])
                have ksn_86 := KSh.w (h := 14 * kc2 + 110) en_86 ksn_79 (by unfold tS; omega)
                have e87 : n_86 0 = nI kc0 := by rw [en_86, pk_un (by omega)]; exact e80
                have e88 : n_86 8 = nI kc8 := by rw [en_86, pk_un (by omega)]; exact e81
                have e89 : n_86 2 = nI (kc2 + 1) := by rw [en_86, pk_un (by omega)]; exact e82
                have e90 : n_86 (14 * kc2 + 110) = nI 0 := by rw [en_86, pk_un (by omega)]; exact e83
                have e91 : n_86 (14 * kc2 + 111) = nI 0 := by rw [en_86, pk_un (by omega)]; exact e84
                have e92 : n_86 (14 * kc2 + 119) = nI 0 := by rw [en_86, pk_us]
                refine pm_iincX (v := nI 10) (loc' := [some (.ref (B + 54)), some (.int za), some (.int zb), some (.int zc), some (.int zd), some (.int (nI 1)), some (.int (nI kc2)), some (.int (nI 10))]) hG dX12_person_137 rfl (nI_1 _) (by decide) (pm_c1b rfl) rfl ?_
                refine pm_goto (tgt := 121) hG dX12_person_140 rfl ?_
                refine pm_iloadi hG dX12_person_121 rfl ?_
                refine pm_bipush (v := nI 14) hG dX12_person_123 (by decide) ?_
                refine pm_icmpN_ge (tgt := 143) hG dX12_person_125 rfl (by omega) (by omega) (fun q => absurd q (by omega)) (fun _ => ?_)
                refine pm_aloadn hG dX12_person_128 rfl ?_
                refine pm_iloadi hG dX12_person_129 rfl ?_
                refine pm_iloadi hG dX12_person_131 rfl ?_
                refine pm_iconst (v := nI 0) hG dX12_person_133 (by decide) ?_
                refine pm_callV (As := [.int (nI kc2), .int (nI 10), .int (nI 0)]) (rest := []) hG hR dX12_person_134 (lkX12_97 _ rfl) okV_X12_sets rfl rfl (m_sets (d := 2) (e := 14 * kc2 + 120) (by omega) (by omega) (by omega)) rfl rfl hdd (Nat.le_refl _) (Nat.le_refl _) (by decide) (pm_kv (fun σ' cnt' hq => ?_))
                obtain ⟨rfl, rfl⟩ := hq
                obtain ⟨n_93, en_93⟩ : ∃ f : Nat → Int32, f = upd n_86 (14 * kc2 + 120) (nI 0) := ⟨_, rfl⟩
                rw [← en_93]
                have hnn_93 := KI.w en_93 hnn_86 (okv_f (show kd (14 * kc2 + 120) = (0, 0, false) from (kd_P (k := kc2) (c := 10) (by omega) (by omega) (by decide))))
                have hrn_93 := NRx.w en_93 hrn_86 (by rw [(show kd (14 * kc2 + 120) = (0, 0, false) from (kd_P (k := kc2) (c := 10) (by omega) (by omega) (by decide)))])
                have ksn_93 := KSh.w (h := 14 * kc2 + 110) en_93 ksn_86 (by unfold tS; omega)
                have e94 : n_93 0 = nI kc0 := by rw [en_93, pk_un (by omega)]; exact e87
                have e95 : n_93 8 = nI kc8 := by rw [en_93, pk_un (by omega)]; exact e88
                have e96 : n_93 2 = nI (kc2 + 1) := by rw [en_93, pk_un (by omega)]; exact e89
                have e97 : n_93 (14 * kc2 + 110) = nI 0 := by rw [en_93, pk_un (by omega)]; exact e90
                have e98 : n_93 (14 * kc2 + 111) = nI 0 := by rw [en_93, pk_un (by omega)]; exact e91
                have e99 : n_93 (14 * kc2 + 120) = nI 0 := by rw [en_93, pk_us]
                refine pm_iincX (v := nI 11) (loc' := [some (.ref (B + 54)), some (.int za), some (.int zb), some (.int zc), some (.int zd), some (.int (nI 1)), some (.int (nI kc2)), some (.int (nI 11))]) hG dX12_person_137 rfl (nI_1 _) (by decide) (pm_c1b rfl) rfl ?_
                refine pm_goto (tgt := 121) hG dX12_person_140 rfl ?_
                refine pm_iloadi hG dX12_person_121 rfl ?_
                refine pm_bipush (v := nI 14) hG dX12_person_123 (by decide) ?_
                refine pm_icmpN_ge (tgt := 143) hG dX12_person_125 rfl (by omega) (by omega) (fun q => absurd q (by omega)) (fun _ => ?_)
                refine pm_aloadn hG dX12_person_128 rfl ?_
                refine pm_iloadi hG dX12_person_129 rfl ?_
                refine pm_iloadi hG dX12_person_131 rfl ?_
                refine pm_iconst (v := nI 0) hG dX12_person_133 (by decide) ?_
                refine pm_callV (As := [.int (nI kc2), .int (nI 11), .int (nI 0)]) (rest := []) hG hR dX12_person_134 (lkX12_97 _ rfl) okV_X12_sets rfl rfl (m_sets (d := 2) (e := 14 * kc2 + 121) (by omega) (by omega) (by omega)) rfl rfl hdd (Nat.le_refl _) (Nat.le_refl _) (by decide) (pm_kv (fun σ' cnt' hq => ?_))
                obtain ⟨rfl, rfl⟩ := hq
                obtain ⟨n_100, en_100⟩ : ∃ f : Nat → Int32, f = upd n_93 (14 * kc2 + 121) (nI 0) := ⟨_, rfl⟩
                rw [← en_100]
                have hnn_100 := KI.w en_100 hnn_93 (okv_n (show kd (14 * kc2 + 121) = (1, 2, true) from (kd_P (k := kc2) (c := 11) (by omega) (by omega) (by decide))) (by omega))
                have hrn_100 := NRx.unseat (p := kc2) en_100 hrn_93 (by omega)
                have ksn_100 := KSh.w (h := 14 * kc2 + 110) en_100 ksn_93 (by unfold tS; omega)
                have e101 : n_100 0 = nI kc0 := by rw [en_100, pk_un (by omega)]; exact e94
                have e102 : n_100 8 = nI kc8 := by rw [en_100, pk_un (by omega)]; exact e95
                have e103 : n_100 2 = nI (kc2 + 1) := by rw [en_100, pk_un (by omega)]; exact e96
                have e104 : n_100 (14 * kc2 + 110) = nI 0 := by rw [en_100, pk_un (by omega)]; exact e97
                have e105 : n_100 (14 * kc2 + 111) = nI 0 := by rw [en_100, pk_un (by omega)]; exact e98
                have e106 : n_100 (14 * kc2 + 121) = nI 0 := by rw [en_100, pk_us]
                refine pm_iincX (v := nI 12) (loc' := [some (.ref (B + 54)), some (.int za), some (.int zb), some (.int zc), some (.int zd), some (.int (nI 1)), some (.int (nI kc2)), some (.int (nI 12))]) hG dX12_person_137 rfl (nI_1 _) (by decide) (pm_c1b rfl) rfl ?_
                refine pm_goto (tgt := 121) hG dX12_person_140 rfl ?_
                refine pm_iloadi hG dX12_person_121 rfl ?_
                refine pm_bipush (v := nI 14) hG dX12_person_123 (by decide) ?_
                refine pm_icmpN_ge (tgt := 143) hG dX12_person_125 rfl (by omega) (by omega) (fun q => absurd q (by omega)) (fun _ => ?_)
                refine pm_aloadn hG dX12_person_128 rfl ?_
                refine pm_iloadi hG dX12_person_129 rfl ?_
                refine pm_iloadi hG dX12_person_131 rfl ?_
                refine pm_iconst (v := nI 0) hG dX12_person_133 (by decide) ?_
                refine pm_callV (As := [.int (nI kc2), .int (nI 12), .int (nI 0)]) (rest := []) hG hR dX12_person_134 (lkX12_97 _ rfl) okV_X12_sets rfl rfl (m_sets (d := 2) (e := 14 * kc2 + 122) (by omega) (by omega) (by omega)) rfl rfl hdd (Nat.le_refl _) (Nat.le_refl _) (by decide) (pm_kv (fun σ' cnt' hq => ?_))
                obtain ⟨rfl, rfl⟩ := hq
                obtain ⟨n_107, en_107⟩ : ∃ f : Nat → Int32, f = upd n_100 (14 * kc2 + 122) (nI 0) := ⟨_, rfl⟩
                rw [← en_107]
                have hnn_107 := KI.w en_107 hnn_100 (okv_f (show kd (14 * kc2 + 122) = (0, 0, false) from (kd_P (k := kc2) (c := 12) (by omega) (by omega) (by decide))))
                have hrn_107 := NRx.w en_107 hrn_100 (by rw [(show kd (14 * kc2 + 122) = (0, 0, false) from (kd_P (k := kc2) (c := 12) (by omega) (by omega) (by decide)))])
                have ksn_107 := KSh.w (h := 14 * kc2 + 110) en_107 ksn_100 (by unfold tS; omega)
                have e108 : n_107 0 = nI kc0 := by rw [en_107, pk_un (by omega)]; exact e101
                have e109 : n_107 8 = nI kc8 := by rw [en_107, pk_un (by omega)]; exact e102
                have e110 : n_107 2 = nI (kc2 + 1) := by rw [en_107, pk_un (by omega)]; exact e103
                have e111 : n_107 (14 * kc2 + 110) = nI 0 := by rw [en_107, pk_un (by omega)]; exact e104
                have e112 : n_107 (14 * kc2 + 111) = nI 0 := by rw [en_107, pk_un (by omega)]; exact e105
                have e113 : n_107 (14 * kc2 + 122) = nI 0 := by rw [en_107, pk_us]
                refine pm_iincX (v := nI 13) (loc' := [some (.ref (B + 54)), some (.int za), some (.int zb), some (.int zc), some (.int zd), some (.int (nI 1)), some (.int (nI kc2)), some (.int (nI 13))]) hG dX12_person_137 rfl (nI_1 _) (by decide) (pm_c1b rfl) rfl ?_
                refine pm_goto (tgt := 121) hG dX12_person_140 rfl ?_
                refine pm_iloadi hG dX12_person_121 rfl ?_
                refine pm_bipush (v := nI 14) hG dX12_person_123 (by decide) ?_
                refine pm_icmpN_ge (tgt := 143) hG dX12_person_125 rfl (by omega) (by omega) (fun q => absurd q (by omega)) (fun _ => ?_)
                refine pm_aloadn hG dX12_person_128 rfl ?_
                refine pm_iloadi hG dX12_person_129 rfl ?_
                refine pm_iloadi hG dX12_person_131 rfl ?_
                refine pm_iconst (v := nI 0) hG dX12_person_133 (by decide) ?_
                refine pm_callV (As := [.int (nI kc2), .int (nI 13), .int (nI 0)]) (rest := []) hG hR dX12_person_134 (lkX12_97 _ rfl) okV_X12_sets rfl rfl (m_sets (d := 2) (e := 14 * kc2 + 123) (by omega) (by omega) (by omega)) rfl rfl hdd (Nat.le_refl _) (Nat.le_refl _) (by decide) (pm_kv (fun σ' cnt' hq => ?_))
                obtain ⟨rfl, rfl⟩ := hq
                obtain ⟨n_114, en_114⟩ : ∃ f : Nat → Int32, f = upd n_107 (14 * kc2 + 123) (nI 0) := ⟨_, rfl⟩
                rw [← en_114]
                have hnn_114 := KI.w en_114 hnn_107 (okv_f (show kd (14 * kc2 + 123) = (0, 0, false) from (kd_P (k := kc2) (c := 13) (by omega) (by omega) (by decide))))
                have hrn_114 := NRx.w en_114 hrn_107 (by rw [(show kd (14 * kc2 + 123) = (0, 0, false) from (kd_P (k := kc2) (c := 13) (by omega) (by omega) (by decide)))])
                have ksn_114 := KSh.w (h := 14 * kc2 + 110) en_114 ksn_107 (by unfold tS; omega)
                have e115 : n_114 0 = nI kc0 := by rw [en_114, pk_un (by omega)]; exact e108
                have e116 : n_114 8 = nI kc8 := by rw [en_114, pk_un (by omega)]; exact e109
                have e117 : n_114 2 = nI (kc2 + 1) := by rw [en_114, pk_un (by omega)]; exact e110
                have e118 : n_114 (14 * kc2 + 110) = nI 0 := by rw [en_114, pk_un (by omega)]; exact e111
                have e119 : n_114 (14 * kc2 + 111) = nI 0 := by rw [en_114, pk_un (by omega)]; exact e112
                have e120 : n_114 (14 * kc2 + 123) = nI 0 := by rw [en_114, pk_us]
                refine pm_iincX (v := nI 14) (loc' := [some (.ref (B + 54)), some (.int za), some (.int zb), some (.int zc), some (.int zd), some (.int (nI 1)), some (.int (nI kc2)), some (.int (nI 14))]) hG dX12_person_137 rfl (nI_1 _) (by decide) (pm_c1b rfl) rfl ?_
                refine pm_goto (tgt := 121) hG dX12_person_140 rfl ?_
                refine pm_iloadi hG dX12_person_121 rfl ?_
                refine pm_bipush (v := nI 14) hG dX12_person_123 (by decide) ?_
                refine pm_icmpN_ge (tgt := 143) hG dX12_person_125 rfl (by omega) (by omega) (fun _ => ?_) (fun q => absurd q (by omega))
                refine pm_aloadn hG dX12_person_143 rfl ?_
                refine pm_iloadi hG dX12_person_144 rfl ?_
                refine pm_iconst (v := nI 0) hG dX12_person_146 (by decide) ?_
                refine pm_iloadn hG dX12_person_147 rfl ?_
                refine pm_top (v := nI k3) ek3 ?_
                refine pm_callV (As := [.int (nI kc2), .int (nI 0), .int (nI k3)]) (rest := []) hG hR dX12_person_148 (lkX12_97 _ rfl) okV_X12_sets rfl rfl (m_sets (d := 2) (e := 14 * kc2 + 110) (by omega) (by omega) (by omega)) rfl rfl hdd (Nat.le_refl _) (Nat.le_refl _) (by decide) (pm_kv (fun σ' cnt' hq => ?_))
                obtain ⟨rfl, rfl⟩ := hq
                obtain ⟨n_121, en_121⟩ : ∃ f : Nat → Int32, f = upd n_114 (14 * kc2 + 110) (nI k3) := ⟨_, rfl⟩
                rw [← en_121]
                have hnn_121 := KI.w en_121 hnn_114 (okv_f (show kd (14 * kc2 + 110) = (0, 0, false) from (kd_P (k := kc2) (c := 0) (by omega) (by omega) (by decide))))
                have hrn_121 := NRx.w en_121 hrn_114 (by rw [(show kd (14 * kc2 + 110) = (0, 0, false) from (kd_P (k := kc2) (c := 0) (by omega) (by omega) (by decide)))])
                have ksn_121 := KSh.w (h := 14 * kc2 + 110) en_121 ksn_114 (by unfold tS; omega)
                have e122 : n_121 0 = nI kc0 := by rw [en_121, pk_un (by omega)]; exact e115
                have e123 : n_121 8 = nI kc8 := by rw [en_121, pk_un (by omega)]; exact e116
                have e124 : n_121 2 = nI (kc2 + 1) := by rw [en_121, pk_un (by omega)]; exact e117
                have e125 : n_121 (14 * kc2 + 111) = nI 0 := by rw [en_121, pk_un (by omega)]; exact e119
                have e126 : n_121 (14 * kc2 + 110) = nI k3 := by rw [en_121, pk_us]
                refine pm_aloadn hG dX12_person_151 rfl ?_
                refine pm_iloadi hG dX12_person_152 rfl ?_
                refine pm_iconst (v := nI 1) hG dX12_person_154 (by decide) ?_
                refine pm_iloadn hG dX12_person_155 rfl ?_
                refine pm_callV (As := [.int (nI kc2), .int (nI 1), .int zb]) (rest := []) hG hR dX12_person_156 (lkX12_97 _ rfl) okV_X12_sets rfl rfl (m_sets (d := 2) (e := 14 * kc2 + 111) (by omega) (by omega) (by omega)) rfl rfl hdd (Nat.le_refl _) (Nat.le_refl _) (by decide) (pm_kv (fun σ' cnt' hq => ?_))
                obtain ⟨rfl, rfl⟩ := hq
                obtain ⟨n_127, en_127⟩ : ∃ f : Nat → Int32, f = upd n_121 (14 * kc2 + 111) zb := ⟨_, rfl⟩
                rw [← en_127]
                have hnn_127 := KI.w en_127 hnn_121 (okv_f (show kd (14 * kc2 + 111) = (0, 0, false) from (kd_P (k := kc2) (c := 1) (by omega) (by omega) (by decide))))
                have hrn_127 := NRx.w en_127 hrn_121 (by rw [(show kd (14 * kc2 + 111) = (0, 0, false) from (kd_P (k := kc2) (c := 1) (by omega) (by omega) (by decide)))])
                have ksn_127 := KSh.w (h := 14 * kc2 + 110) en_127 ksn_121 (by unfold tS; omega)
                have e128 : n_127 0 = nI kc0 := by rw [en_127, pk_un (by omega)]; exact e122
                have e129 : n_127 8 = nI kc8 := by rw [en_127, pk_un (by omega)]; exact e123
                have e130 : n_127 2 = nI (kc2 + 1) := by rw [en_127, pk_un (by omega)]; exact e124
                have e131 : n_127 (14 * kc2 + 110) = nI k3 := by rw [en_127, pk_un (by omega)]; exact e126
                have e132 : n_127 (14 * kc2 + 111) = zb := by rw [en_127, pk_us]
                refine pm_aloadn hG dX12_person_159 rfl ?_
                refine pm_iloadi hG dX12_person_160 rfl ?_
                refine pm_iconst (v := nI 2) hG dX12_person_162 (by decide) ?_
                refine pm_iloadn hG dX12_person_163 rfl ?_
                refine pm_top (v := nI k9) ek9 ?_
                refine pm_bipush (v := nI 100) hG dX12_person_164 (by decide) ?_
                refine pm_idivN hG dX12_person_166 (by omega) (by decide) (by decide) ?_
                refine pm_iconst (v := nI 1) hG dX12_person_167 (by decide) ?_
                refine pm_isub hG dX12_person_168 ?_
                refine pm_top (v := (-1)) ek11 ?_
                refine pm_callV (As := [.int (nI kc2), .int (nI 2), .int (-1)]) (rest := []) hG hR dX12_person_169 (lkX12_97 _ rfl) okV_X12_sets rfl rfl (m_sets (d := 2) (e := 14 * kc2 + 112) (by omega) (by omega) (by omega)) rfl rfl hdd (Nat.le_refl _) (Nat.le_refl _) (by decide) (pm_kv (fun σ' cnt' hq => ?_))
                obtain ⟨rfl, rfl⟩ := hq
                obtain ⟨n_133, en_133⟩ : ∃ f : Nat → Int32, f = upd n_127 (14 * kc2 + 112) (-1) := ⟨_, rfl⟩
                rw [← en_133]
                have hnn_133 := KI.w en_133 hnn_127 (okv_m (show kd (14 * kc2 + 112) = (2, 20, false) from (kd_P (k := kc2) (c := 2) (by omega) (by omega) (by decide))))
                have hrn_133 := NRx.w en_133 hrn_127 (by rw [(show kd (14 * kc2 + 112) = (2, 20, false) from (kd_P (k := kc2) (c := 2) (by omega) (by omega) (by decide)))])
                have ksn_133 := KSh.w (h := 14 * kc2 + 110) en_133 ksn_127 (by unfold tS; omega)
                have e134 : n_133 0 = nI kc0 := by rw [en_133, pk_un (by omega)]; exact e128
                have e135 : n_133 8 = nI kc8 := by rw [en_133, pk_un (by omega)]; exact e129
                have e136 : n_133 2 = nI (kc2 + 1) := by rw [en_133, pk_un (by omega)]; exact e130
                have e137 : n_133 (14 * kc2 + 110) = nI k3 := by rw [en_133, pk_un (by omega)]; exact e131
                have e138 : n_133 (14 * kc2 + 111) = zb := by rw [en_133, pk_un (by omega)]; exact e132
                have e139 : n_133 (14 * kc2 + 112) = (-1) := by rw [en_133, pk_us]
                refine pm_aloadn hG dX12_person_172 rfl ?_
                refine pm_iloadi hG dX12_person_173 rfl ?_
                refine pm_iconst (v := nI 3) hG dX12_person_175 (by decide) ?_
                refine pm_iloadn hG dX12_person_176 rfl ?_
                refine pm_top (v := nI k9) ek9 ?_
                refine pm_bipush (v := nI 100) hG dX12_person_177 (by decide) ?_
                refine pm_iremM hG dX12_person_179 (by omega) (by decide) (by decide) ?_
                refine pm_iconst (v := nI 1) hG dX12_person_180 (by decide) ?_
                refine pm_isub hG dX12_person_181 ?_
                refine pm_top (v := (-1)) ek15 ?_
                refine pm_callV (As := [.int (nI kc2), .int (nI 3), .int (-1)]) (rest := []) hG hR dX12_person_182 (lkX12_97 _ rfl) okV_X12_sets rfl rfl (m_sets (d := 2) (e := 14 * kc2 + 113) (by omega) (by omega) (by omega)) rfl rfl hdd (Nat.le_refl _) (Nat.le_refl _) (by decide) (pm_kv (fun σ' cnt' hq => ?_))
                obtain ⟨rfl, rfl⟩ := hq
                obtain ⟨n_140, en_140⟩ : ∃ f : Nat → Int32, f = upd n_133 (14 * kc2 + 113) (-1) := ⟨_, rfl⟩
                rw [← en_140]
                have hnn_140 := KI.w en_140 hnn_133 (okv_m (show kd (14 * kc2 + 113) = (2, 20, false) from (kd_P (k := kc2) (c := 3) (by omega) (by omega) (by decide))))
                have hrn_140 := NRx.w en_140 hrn_133 (by rw [(show kd (14 * kc2 + 113) = (2, 20, false) from (kd_P (k := kc2) (c := 3) (by omega) (by omega) (by decide)))])
                have ksn_140 := KSh.w (h := 14 * kc2 + 110) en_140 ksn_133 (by unfold tS; omega)
                have e141 : n_140 0 = nI kc0 := by rw [en_140, pk_un (by omega)]; exact e134
                have e142 : n_140 8 = nI kc8 := by rw [en_140, pk_un (by omega)]; exact e135
                have e143 : n_140 2 = nI (kc2 + 1) := by rw [en_140, pk_un (by omega)]; exact e136
                have e144 : n_140 (14 * kc2 + 110) = nI k3 := by rw [en_140, pk_un (by omega)]; exact e137
                have e145 : n_140 (14 * kc2 + 111) = zb := by rw [en_140, pk_un (by omega)]; exact e138
                have e146 : n_140 (14 * kc2 + 113) = (-1) := by rw [en_140, pk_us]
                refine pm_aloadn hG dX12_person_185 rfl ?_
                refine pm_iloadi hG dX12_person_186 rfl ?_
                refine pm_iconst (v := nI 4) hG dX12_person_188 (by decide) ?_
                refine pm_iloadi hG dX12_person_189 rfl ?_
                refine pm_top (v := nI k20) ek20 ?_
                refine pm_callV (As := [.int (nI kc2), .int (nI 4), .int (nI k20)]) (rest := []) hG hR dX12_person_191 (lkX12_97 _ rfl) okV_X12_sets rfl rfl (m_sets (d := 2) (e := 14 * kc2 + 114) (by omega) (by omega) (by omega)) rfl rfl hdd (Nat.le_refl _) (Nat.le_refl _) (by decide) (pm_kv (fun σ' cnt' hq => ?_))
                obtain ⟨rfl, rfl⟩ := hq
                obtain ⟨n_147, en_147⟩ : ∃ f : Nat → Int32, f = upd n_140 (14 * kc2 + 114) (nI k20) := ⟨_, rfl⟩
                rw [← en_147]
                have hnn_147 := KI.w en_147 hnn_140 (okv_o (show kd (14 * kc2 + 114) = (2, 10, false) from (kd_P (k := kc2) (c := 4) (by omega) (by omega) (by decide))) (by omega))
                have hrn_147 := NRx.w en_147 hrn_140 (by rw [(show kd (14 * kc2 + 114) = (2, 10, false) from (kd_P (k := kc2) (c := 4) (by omega) (by omega) (by decide)))])
                have ksn_147 := KSh.w (h := 14 * kc2 + 110) en_147 ksn_140 (by unfold tS; omega)
                have e148 : n_147 0 = nI kc0 := by rw [en_147, pk_un (by omega)]; exact e141
                have e149 : n_147 8 = nI kc8 := by rw [en_147, pk_un (by omega)]; exact e142
                have e150 : n_147 2 = nI (kc2 + 1) := by rw [en_147, pk_un (by omega)]; exact e143
                have e151 : n_147 (14 * kc2 + 110) = nI k3 := by rw [en_147, pk_un (by omega)]; exact e144
                have e152 : n_147 (14 * kc2 + 111) = zb := by rw [en_147, pk_un (by omega)]; exact e145
                have e153 : n_147 (14 * kc2 + 114) = nI k20 := by rw [en_147, pk_us]
                refine pm_aloadn hG dX12_person_194 rfl ?_
                refine pm_iloadi hG dX12_person_195 rfl ?_
                refine pm_bipush (v := nI 9) hG dX12_person_197 (by decide) ?_
                refine pm_iconst (v := (-1)) hG dX12_person_199 (by decide) ?_
                refine pm_callV (As := [.int (nI kc2), .int (nI 9), .int (-1)]) (rest := []) hG hR dX12_person_200 (lkX12_97 _ rfl) okV_X12_sets rfl rfl (m_sets (d := 2) (e := 14 * kc2 + 119) (by omega) (by omega) (by omega)) rfl rfl hdd (Nat.le_refl _) (Nat.le_refl _) (by decide) (pm_kv (fun σ' cnt' hq => ?_))
                obtain ⟨rfl, rfl⟩ := hq
                obtain ⟨n_154, en_154⟩ : ∃ f : Nat → Int32, f = upd n_147 (14 * kc2 + 119) (-1) := ⟨_, rfl⟩
                rw [← en_154]
                have hnn_154 := KI.w en_154 hnn_147 (okv_m (show kd (14 * kc2 + 119) = (2, 2001, false) from (kd_P (k := kc2) (c := 9) (by omega) (by omega) (by decide))))
                have hrn_154 := NRx.w en_154 hrn_147 (by rw [(show kd (14 * kc2 + 119) = (2, 2001, false) from (kd_P (k := kc2) (c := 9) (by omega) (by omega) (by decide)))])
                have ksn_154 := KSh.w (h := 14 * kc2 + 110) en_154 ksn_147 (by unfold tS; omega)
                have e155 : n_154 0 = nI kc0 := by rw [en_154, pk_un (by omega)]; exact e148
                have e156 : n_154 8 = nI kc8 := by rw [en_154, pk_un (by omega)]; exact e149
                have e157 : n_154 2 = nI (kc2 + 1) := by rw [en_154, pk_un (by omega)]; exact e150
                have e158 : n_154 (14 * kc2 + 110) = nI k3 := by rw [en_154, pk_un (by omega)]; exact e151
                have e159 : n_154 (14 * kc2 + 111) = zb := by rw [en_154, pk_un (by omega)]; exact e152
                have e160 : n_154 (14 * kc2 + 119) = (-1) := by rw [en_154, pk_us]
                refine pm_aloadn hG dX12_person_203 rfl ?_
                refine pm_iloadi hG dX12_person_204 rfl ?_
                refine pm_bipush (v := nI 10) hG dX12_person_206 (by decide) ?_
                refine pm_iconst (v := (-1)) hG dX12_person_208 (by decide) ?_
                refine pm_callV (As := [.int (nI kc2), .int (nI 10), .int (-1)]) (rest := []) hG hR dX12_person_209 (lkX12_97 _ rfl) okV_X12_sets rfl rfl (m_sets (d := 2) (e := 14 * kc2 + 120) (by omega) (by omega) (by omega)) rfl rfl hdd (Nat.le_refl _) (Nat.le_refl _) (by decide) (pm_kv (fun σ' cnt' hq => ?_))
                obtain ⟨rfl, rfl⟩ := hq
                obtain ⟨n_161, en_161⟩ : ∃ f : Nat → Int32, f = upd n_154 (14 * kc2 + 120) (-1) := ⟨_, rfl⟩
                rw [← en_161]
                have hnn_161 := KI.w en_161 hnn_154 (okv_f (show kd (14 * kc2 + 120) = (0, 0, false) from (kd_P (k := kc2) (c := 10) (by omega) (by omega) (by decide))))
                have hrn_161 := NRx.w en_161 hrn_154 (by rw [(show kd (14 * kc2 + 120) = (0, 0, false) from (kd_P (k := kc2) (c := 10) (by omega) (by omega) (by decide)))])
                have ksn_161 := KSh.w (h := 14 * kc2 + 110) en_161 ksn_154 (by unfold tS; omega)
                have e162 : n_161 0 = nI kc0 := by rw [en_161, pk_un (by omega)]; exact e155
                have e163 : n_161 8 = nI kc8 := by rw [en_161, pk_un (by omega)]; exact e156
                have e164 : n_161 2 = nI (kc2 + 1) := by rw [en_161, pk_un (by omega)]; exact e157
                have e165 : n_161 (14 * kc2 + 110) = nI k3 := by rw [en_161, pk_un (by omega)]; exact e158
                have e166 : n_161 (14 * kc2 + 111) = zb := by rw [en_161, pk_un (by omega)]; exact e159
                have e167 : n_161 (14 * kc2 + 120) = (-1) := by rw [en_161, pk_us]
                refine pm_aloadn hG dX12_person_212 rfl ?_
                refine pm_iloadi hG dX12_person_213 rfl ?_
                refine pm_bipush (v := nI 12) hG dX12_person_215 (by decide) ?_
                refine pm_iconst (v := nI 1) hG dX12_person_217 (by decide) ?_
                refine pm_callV (As := [.int (nI kc2), .int (nI 12), .int (nI 1)]) (rest := []) hG hR dX12_person_218 (lkX12_97 _ rfl) okV_X12_sets rfl rfl (m_sets (d := 2) (e := 14 * kc2 + 122) (by omega) (by omega) (by omega)) rfl rfl hdd (Nat.le_refl _) (Nat.le_refl _) (by decide) (pm_kv (fun σ' cnt' hq => ?_))
                obtain ⟨rfl, rfl⟩ := hq
                obtain ⟨n_168, en_168⟩ : ∃ f : Nat → Int32, f = upd n_161 (14 * kc2 + 122) (nI 1) := ⟨_, rfl⟩
                rw [← en_168]
                have hnn_168 := KI.w en_168 hnn_161 (okv_f (show kd (14 * kc2 + 122) = (0, 0, false) from (kd_P (k := kc2) (c := 12) (by omega) (by omega) (by decide))))
                have hrn_168 := NRx.w en_168 hrn_161 (by rw [(show kd (14 * kc2 + 122) = (0, 0, false) from (kd_P (k := kc2) (c := 12) (by omega) (by omega) (by decide)))])
                have ksn_168 := KSh.w (h := 14 * kc2 + 110) en_168 ksn_161 (by unfold tS; omega)
                have e169 : n_168 0 = nI kc0 := by rw [en_168, pk_un (by omega)]; exact e162
                have e170 : n_168 8 = nI kc8 := by rw [en_168, pk_un (by omega)]; exact e163
                have e171 : n_168 2 = nI (kc2 + 1) := by rw [en_168, pk_un (by omega)]; exact e164
                have e172 : n_168 (14 * kc2 + 110) = nI k3 := by rw [en_168, pk_un (by omega)]; exact e165
                have e173 : n_168 (14 * kc2 + 111) = zb := by rw [en_168, pk_un (by omega)]; exact e166
                have e174 : n_168 (14 * kc2 + 122) = nI 1 := by rw [en_168, pk_us]
                refine pm_iloadi hG dX12_person_221 rfl ?_
                exact pm_iret hG hF dX12_person_223 rfl (Nat.le_refl _) (Nat.le_refl _) ⟨_, rfl, ⟨_, _, _, rfl, hnn_168, hrn_168, e169.trans ekc0.symm, e170.trans ekc8.symm, ⟨(vE_y (T := pN n) (d := n 8) (t := n 0) (p := n 2) (a := za) (b := zb) (c := zc) (e := zd) (not6 (rg_in (a := 0) (b := 1) (by omega) ek3 (by omega) (by omega)) (fun q => q.elim ac5 (by rw [ekc8]; exact bc5)) (by rw [ek9]; exact nI_pos (by omega)) (nt_in ekc0 (by omega) ek20 (by omega)) (fun q => q (by rw [dv1 ek9 (by omega)]; exact pk11)) (fun q => q (by rw [rm1 ek9 (by omega)]; exact pk15))) ekc2 (by omega)).1, e171.trans (vE_y (T := pN n) (d := n 8) (t := n 0) (p := n 2) (a := za) (b := zb) (c := zc) (e := zd) (not6 (rg_in (a := 0) (b := 1) (by omega) ek3 (by omega) (by omega)) (fun q => q.elim ac5 (by rw [ekc8]; exact bc5)) (by rw [ek9]; exact nI_pos (by omega)) (nt_in ekc0 (by omega) ek20 (by omega)) (fun q => q (by rw [dv1 ek9 (by omega)]; exact pk11)) (fun q => q (by rw [rm1 ek9 (by omega)]; exact pk15))) ekc2 (by omega)).2.1, fun j hj => by rw [(vE_y (T := pN n) (d := n 8) (t := n 0) (p := n 2) (a := za) (b := zb) (c := zc) (e := zd) (not6 (rg_in (a := 0) (b := 1) (by omega) ek3 (by omega) (by omega)) (fun q => q.elim ac5 (by rw [ekc8]; exact bc5)) (by rw [ek9]; exact nI_pos (by omega)) (nt_in ekc0 (by omega) ek20 (by omega)) (fun q => q (by rw [dv1 ek9 (by omega)]; exact pk11)) (fun q => q (by rw [rm1 ek9 (by omega)]; exact pk15))) ekc2 (by omega)).2.2]; exact tP_ok ksn_168 (e172.trans ek3.symm) e173 (by omega) j hj⟩⟩, rfl⟩
              · refine pm_aloadn hG dX12_person_102 rfl ?_
                refine pm_iconst (v := nI 4) hG dX12_person_103 (by decide) ?_
                refine pm_callV (As := [.int (nI 4)]) (rest := []) hG hR dX12_person_104 (lkX12_80 _ rfl) okV_X12_finds rfl rfl (m_finds (d := 2) (by decide) hn hz (by omega)) rfl rfl hdd (Nat.le_refl _) (Nat.le_refl _) (by decide) (pm_ki (fun v175 σ' cnt' hq => ?_))
                obtain ⟨⟨I176, A176, rfl⟩, rfl, fv175⟩ := hq
                exact pm_iret hG hF dX12_person_107 rfl (Nat.le_refl _) (Nat.le_refl _) ⟨_, rfl, ⟨_, _, _, rfl, hn, hr, ekc0.trans ekc0.symm, ekc8.trans ekc8.symm, ⟨fv175.trans ((by decide : (-1000000 : Int32) - nI 4 = -1000004).trans (vE_f (T := pN n) (d := n 8) (t := n 0) (p := n 2) (a := za) (b := zb) (c := zc) (e := zd) (not6 (rg_in (a := 0) (b := 1) (by omega) ek3 (by omega) (by omega)) (fun q => q.elim ac5 (by rw [ekc8]; exact bc5)) (by rw [ek9]; exact nI_pos (by omega)) (nt_in ekc0 (by omega) ek20 (by omega)) (fun q => q (by rw [dv1 ek9 (by omega)]; exact pk11)) (fun q => q (by rw [rm1 ek9 (by omega)]; exact pk15))) (ekc2.trans (congrArg nI (by omega)))).1), (vE_f (T := pN n) (d := n 8) (t := n 0) (p := n 2) (a := za) (b := zb) (c := zc) (e := zd) (not6 (rg_in (a := 0) (b := 1) (by omega) ek3 (by omega) (by omega)) (fun q => q.elim ac5 (by rw [ekc8]; exact bc5)) (by rw [ek9]; exact nI_pos (by omega)) (nt_in ekc0 (by omega) ek20 (by omega)) (fun q => q (by rw [dv1 ek9 (by omega)]; exact pk11)) (fun q => q (by rw [rm1 ek9 (by omega)]; exact pk15))) (ekc2.trans (congrArg nI (by omega)))).2.1, fun j _ => by rw [(vE_f (T := pN n) (d := n 8) (t := n 0) (p := n 2) (a := za) (b := zb) (c := zc) (e := zd) (not6 (rg_in (a := 0) (b := 1) (by omega) ek3 (by omega) (by omega)) (fun q => q.elim ac5 (by rw [ekc8]; exact bc5)) (by rw [ek9]; exact nI_pos (by omega)) (nt_in ekc0 (by omega) ek20 (by omega)) (fun q => q (by rw [dv1 ek9 (by omega)]; exact pk11)) (fun q => q (by rw [rm1 ek9 (by omega)]; exact pk15))) (ekc2.trans (congrArg nI (by omega)))).2.2]⟩⟩, rfl⟩
            · refine pm_ifN_eq (tgt := 73) hG dX12_person_66 rfl (by omega) (fun _ => ?_) (fun q => absurd q (by omega))
              refine pm_iconst (v := nI 0) hG dX12_person_73 (by decide) ?_
              refine pm_istoreXi (loc' := [some (.ref (B + 54)), some (.int za), some (.int zb), some (.int zc), some (.int zd), some (.int (nI 0)), none, none]) hG dX12_person_74 (by decide) (pm_c1b rfl) rfl ?_
              refine pm_iloadi hG dX12_person_76 rfl ?_
              refine pm_ifN_ne (tgt := 87) hG dX12_person_78 rfl (by omega) (fun q => absurd q (by omega)) (fun _ => ?_)
              refine pm_aloadn hG dX12_person_81 rfl ?_
              refine pm_iconst (v := nI 1) hG dX12_person_82 (by decide) ?_
              refine pm_callV (As := [.int (nI 1)]) (rest := []) hG hR dX12_person_83 (lkX12_80 _ rfl) okV_X12_finds rfl rfl (m_finds (d := 2) (by decide) hn hz (by omega)) rfl rfl hdd (Nat.le_refl _) (Nat.le_refl _) (by decide) (pm_ki (fun v177 σ' cnt' hq => ?_))
              obtain ⟨⟨I178, A178, rfl⟩, rfl, fv177⟩ := hq
              exact pm_iret hG hF dX12_person_86 rfl (Nat.le_refl _) (Nat.le_refl _) ⟨_, rfl, ⟨_, _, _, rfl, hn, hr, ekc0.trans ekc0.symm, ekc8.trans ekc8.symm, ⟨fv177.trans ((by decide : (-1000000 : Int32) - nI 1 = -1000001).trans (vE_n (T := pN n) (d := n 8) (t := n 0) (p := n 2) (a := za) (b := zb) (c := zc) (e := zd) (Or.inr (Or.inr (Or.inr (Or.inl (nt_out ekc0 (by omega) ntk20)))))).1), (vE_n (T := pN n) (d := n 8) (t := n 0) (p := n 2) (a := za) (b := zb) (c := zc) (e := zd) (Or.inr (Or.inr (Or.inr (Or.inl (nt_out ekc0 (by omega) ntk20)))))).2.1, fun j _ => by rw [(vE_n (T := pN n) (d := n 8) (t := n 0) (p := n 2) (a := za) (b := zb) (c := zc) (e := zd) (Or.inr (Or.inr (Or.inr (Or.inl (nt_out ekc0 (by omega) ntk20)))))).2.2]⟩⟩, rfl⟩
          · refine pm_ifN_eq (tgt := 73) hG dX12_person_57 rfl (by omega) (fun q => absurd q (by omega)) (fun _ => ?_)
            refine pm_aloadn hG dX12_person_60 rfl ?_
            refine pm_iloadi hG dX12_person_61 rfl ?_
            refine pm_callV (As := [.int zd]) (rest := []) hG hR dX12_person_63 (lkX12_84 _ rfl) okV_X12_isTown rfl rfl (m_isTown (d := 2) (by decide) ekc0 (by omega)) rfl rfl hdd (Nat.le_refl _) (Nat.le_refl _) (by decide) (pm_ki (fun v179 σ' cnt' hq => ?_))
            obtain ⟨hq, rfl, rfl⟩ := hq
            rcases hq with ⟨rfl, k181, hk181, ek181⟩ | ⟨rfl, ntk181⟩
            · refine pm_ifN_eq (tgt := 73) hG dX12_person_66 rfl (by omega) (fun q => absurd q (by omega)) (fun _ => ?_)
              refine pm_iconst (v := nI 1) hG dX12_person_69 (by decide) ?_
              refine pm_goto (tgt := 74) hG dX12_person_70 rfl ?_
              refine pm_istoreXi (loc' := [some (.ref (B + 54)), some (.int za), some (.int zb), some (.int zc), some (.int zd), some (.int (nI 1)), none, none]) hG dX12_person_74 (by decide) (pm_c1b rfl) rfl ?_
              refine pm_iloadi hG dX12_person_76 rfl ?_
              refine pm_ifN_ne (tgt := 87) hG dX12_person_78 rfl (by omega) (fun _ => ?_) (fun q => absurd q (by omega))
              refine pm_aloadn hG dX12_person_87 rfl ?_
              refine pm_getf hG dX12_person_88 (flX12_7 _ rfl) rfl rfl ?_
              refine pm_iconst (v := nI 2) hG dX12_person_91 (by decide) ?_
              refine pm_ialdN hG dX12_person_92 rfl (by decide) (by omega) ?_
              refine pm_top (v := nI kc2) ekc2 ?_
              refine pm_istoreXi (loc' := [some (.ref (B + 54)), some (.int za), some (.int zb), some (.int zc), some (.int zd), some (.int (nI 1)), some (.int (nI kc2)), none]) hG dX12_person_93 (by decide) (pm_c1b rfl) rfl ?_
              refine pm_iloadi hG dX12_person_95 rfl ?_
              refine pm_bipush (v := nI 20) hG dX12_person_97 (by decide) ?_
              refine pm_icmpN_ne (tgt := 108) hG dX12_person_99 rfl (by omega) (by omega) (fun c182 => ?_) (fun c182 => ?_)
              · refine pm_aloadn hG dX12_person_108 rfl ?_
                refine pm_getf hG dX12_person_109 (flX12_7 _ rfl) rfl rfl ?_
                refine pm_iconst (v := nI 2) hG dX12_person_112 (by decide) ?_
                refine pm_dup2 hG dX12_person_113 rfl rfl ?_
                refine pm_ialdN hG dX12_person_114 rfl (by decide) (by omega) ?_
                refine pm_top (v := nI kc2) ekc2 ?_
                refine pm_iconst (v := nI 1) hG dX12_person_115 (by decide) ?_
                refine pm_iaddN (c := kc2 + 1) hG dX12_person_116 (by omega) ?_
                refine pm_iastN hG dX12_person_117 rfl (by decide) (by omega) ?_
                refine mdn_now (fun n_183 en_183 => ?_)
                have hnn_183 := KI.w en_183 hn (okv_n (show kd 2 = (1, 21, true) by decide) (by omega))
                have hrn_183 := NRx.pers en_183 hr ekc0 (by omega) ekc2 (by omega)
                have ksn_183 := KSh.w (h := 14 * kc2 + 110) en_183 KSh.rf (by unfold tS; omega)
                have e184 : n_183 0 = nI kc0 := by rw [en_183, pk_un (by omega)]; exact ekc0
                have e185 : n_183 8 = nI kc8 := by rw [en_183, pk_un (by omega)]; exact ekc8
                have e186 : n_183 2 = nI (kc2 + 1) := by rw [en_183, pk_us]
                refine pm_iconst (v := nI 0) hG dX12_person_118 (by decide) ?_
                refine pm_istoreXi (loc' := [some (.ref (B + 54)), some (.int za), some (.int zb), some (.int zc), some (.int zd), some (.int (nI 1)), some (.int (nI kc2)), some (.int (nI 0))]) hG dX12_person_119 (by decide) (pm_c1b rfl) rfl ?_
                refine pm_iloadi hG dX12_person_121 rfl ?_
                refine pm_bipush (v := nI 14) hG dX12_person_123 (by decide) ?_
                refine pm_icmpN_ge (tgt := 143) hG dX12_person_125 rfl (by omega) (by omega) (fun q => absurd q (by omega)) (fun _ => ?_)
                refine pm_aloadn hG dX12_person_128 rfl ?_
                refine pm_iloadi hG dX12_person_129 rfl ?_
                refine pm_iloadi hG dX12_person_131 rfl ?_
                refine pm_iconst (v := nI 0) hG dX12_person_133 (by decide) ?_
                refine pm_callV (As := [.int (nI kc2), .int (nI 0), .int (nI 0)]) (rest := []) hG hR dX12_person_134 (lkX12_97 _ rfl) okV_X12_sets rfl rfl (m_sets (d := 2) (e := 14 * kc2 + 110) (by omega) (by omega) (by omega)) rfl rfl hdd (Nat.le_refl _) (Nat.le_refl _) (by decide) (pm_kv (fun σ' cnt' hq => ?_))
                obtain ⟨rfl, rfl⟩ := hq
                obtain ⟨n_187, en_187⟩ : ∃ f : Nat → Int32, f = upd n_183 (14 * kc2 + 110) (nI 0) := ⟨_, rfl⟩
                rw [← en_187]
                have hnn_187 := KI.w en_187 hnn_183 (okv_f (show kd (14 * kc2 + 110) = (0, 0, false) from (kd_P (k := kc2) (c := 0) (by omega) (by omega) (by decide))))
                have hrn_187 := NRx.w en_187 hrn_183 (by rw [(show kd (14 * kc2 + 110) = (0, 0, false) from (kd_P (k := kc2) (c := 0) (by omega) (by omega) (by decide)))])
                have ksn_187 := KSh.w (h := 14 * kc2 + 110) en_187 ksn_183 (by unfold tS; omega)
                have e188 : n_187 0 = nI kc0 := by rw [en_187, pk_un (by omega)]; exact e184
                have e189 : n_187 8 = nI kc8 := by rw [en_187, pk_un (by omega)]; exact e185
                have e190 : n_187 2 = nI (kc2 + 1) := by rw [en_187, pk_un (by omega)]; exact e186
                have e191 : n_187 (14 * kc2 + 110) = nI 0 := by rw [en_187, pk_us]
                refine pm_iincX (v := nI 1) (loc' := [some (.ref (B + 54)), some (.int za), some (.int zb), some (.int zc), some (.int zd), some (.int (nI 1)), some (.int (nI kc2)), some (.int (nI 1))]) hG dX12_person_137 rfl (nI_1 _) (by decide) (pm_c1b rfl) rfl ?_
                refine pm_goto (tgt := 121) hG dX12_person_140 rfl ?_
                refine pm_iloadi hG dX12_person_121 rfl ?_
                refine pm_bipush (v := nI 14) hG dX12_person_123 (by decide) ?_
                refine pm_icmpN_ge (tgt := 143) hG dX12_person_125 rfl (by omega) (by omega) (fun q => absurd q (by omega)) (fun _ => ?_)
                refine pm_aloadn hG dX12_person_128 rfl ?_
                refine pm_iloadi hG dX12_person_129 rfl ?_
                refine pm_iloadi hG dX12_person_131 rfl ?_
                refine pm_iconst (v := nI 0) hG dX12_person_133 (by decide) ?_
                refine pm_callV (As := [.int (nI kc2), .int (nI 1), .int (nI 0)]) (rest := []) hG hR dX12_person_134 (lkX12_97 _ rfl) okV_X12_sets rfl rfl (m_sets (d := 2) (e := 14 * kc2 + 111) (by omega) (by omega) (by omega)) rfl rfl hdd (Nat.le_refl _) (Nat.le_refl _) (by decide) (pm_kv (fun σ' cnt' hq => ?_))
                obtain ⟨rfl, rfl⟩ := hq
                obtain ⟨n_192, en_192⟩ : ∃ f : Nat → Int32, f = upd n_187 (14 * kc2 + 111) (nI 0) := ⟨_, rfl⟩
                rw [← en_192]
                have hnn_192 := KI.w en_192 hnn_187 (okv_f (show kd (14 * kc2 + 111) = (0, 0, false) from (kd_P (k := kc2) (c := 1) (by omega) (by omega) (by decide))))
                have hrn_192 := NRx.w en_192 hrn_187 (by rw [(show kd (14 * kc2 + 111) = (0, 0, false) from (kd_P (k := kc2) (c := 1) (by omega) (by omega) (by decide)))])
                have ksn_192 := KSh.w (h := 14 * kc2 + 110) en_192 ksn_187 (by unfold tS; omega)
                have e193 : n_192 0 = nI kc0 := by rw [en_192, pk_un (by omega)]; exact e188
                have e194 : n_192 8 = nI kc8 := by rw [en_192, pk_un (by omega)]; exact e189
                have e195 : n_192 2 = nI (kc2 + 1) := by rw [en_192, pk_un (by omega)]; exact e190
                have e196 : n_192 (14 * kc2 + 110) = nI 0 := by rw [en_192, pk_un (by omega)]; exact e191
                have e197 : n_192 (14 * kc2 + 111) = nI 0 := by rw [en_192, pk_us]
                refine pm_iincX (v := nI 2) (loc' := [some (.ref (B + 54)), some (.int za), some (.int zb), some (.int zc), some (.int zd), some (.int (nI 1)), some (.int (nI kc2)), some (.int (nI 2))]) hG dX12_person_137 rfl (nI_1 _) (by decide) (pm_c1b rfl) rfl ?_
                refine pm_goto (tgt := 121) hG dX12_person_140 rfl ?_
                refine pm_iloadi hG dX12_person_121 rfl ?_
                refine pm_bipush (v := nI 14) hG dX12_person_123 (by decide) ?_
                refine pm_icmpN_ge (tgt := 143) hG dX12_person_125 rfl (by omega) (by omega) (fun q => absurd q (by omega)) (fun _ => ?_)
                refine pm_aloadn hG dX12_person_128 rfl ?_
                refine pm_iloadi hG dX12_person_129 rfl ?_
                refine pm_iloadi hG dX12_person_131 rfl ?_
                refine pm_iconst (v := nI 0) hG dX12_person_133 (by decide) ?_
                refine pm_callV (As := [.int (nI kc2), .int (nI 2), .int (nI 0)]) (rest := []) hG hR dX12_person_134 (lkX12_97 _ rfl) okV_X12_sets rfl rfl (m_sets (d := 2) (e := 14 * kc2 + 112) (by omega) (by omega) (by omega)) rfl rfl hdd (Nat.le_refl _) (Nat.le_refl _) (by decide) (pm_kv (fun σ' cnt' hq => ?_))
                obtain ⟨rfl, rfl⟩ := hq
                obtain ⟨n_198, en_198⟩ : ∃ f : Nat → Int32, f = upd n_192 (14 * kc2 + 112) (nI 0) := ⟨_, rfl⟩
                rw [← en_198]
                have hnn_198 := KI.w en_198 hnn_192 (okv_o (show kd (14 * kc2 + 112) = (2, 20, false) from (kd_P (k := kc2) (c := 2) (by omega) (by omega) (by decide))) (by omega))
                have hrn_198 := NRx.w en_198 hrn_192 (by rw [(show kd (14 * kc2 + 112) = (2, 20, false) from (kd_P (k := kc2) (c := 2) (by omega) (by omega) (by decide)))])
                have ksn_198 := KSh.w (h := 14 * kc2 + 110) en_198 ksn_192 (by unfold tS; omega)
                have e199 : n_198 0 = nI kc0 := by rw [en_198, pk_un (by omega)]; exact e193
                have e200 : n_198 8 = nI kc8 := by rw [en_198, pk_un (by omega)]; exact e194
                have e201 : n_198 2 = nI (kc2 + 1) := by rw [en_198, pk_un (by omega)]; exact e195
                have e202 : n_198 (14 * kc2 + 110) = nI 0 := by rw [en_198, pk_un (by omega)]; exact e196
                have e203 : n_198 (14 * kc2 + 111) = nI 0 := by rw [en_198, pk_un (by omega)]; exact e197
                have e204 : n_198 (14 * kc2 + 112) = nI 0 := by rw [en_198, pk_us]
                refine pm_iincX (v := nI 3) (loc' := [some (.ref (B + 54)), some (.int za), some (.int zb), some (.int zc), some (.int zd), some (.int (nI 1)), some (.int (nI kc2)), some (.int (nI 3))]) hG dX12_person_137 rfl (nI_1 _) (by decide) (pm_c1b rfl) rfl ?_
                refine pm_goto (tgt := 121) hG dX12_person_140 rfl ?_
                refine pm_iloadi hG dX12_person_121 rfl ?_
                refine pm_bipush (v := nI 14) hG dX12_person_123 (by decide) ?_
                refine pm_icmpN_ge (tgt := 143) hG dX12_person_125 rfl (by omega) (by omega) (fun q => absurd q (by omega)) (fun _ => ?_)
                refine pm_aloadn hG dX12_person_128 rfl ?_
                refine pm_iloadi hG dX12_person_129 rfl ?_
                refine pm_iloadi hG dX12_person_131 rfl ?_
                refine pm_iconst (v := nI 0) hG dX12_person_133 (by decide) ?_
                refine pm_callV (As := [.int (nI kc2), .int (nI 3), .int (nI 0)]) (rest := []) hG hR dX12_person_134 (lkX12_97 _ rfl) okV_X12_sets rfl rfl (m_sets (d := 2) (e := 14 * kc2 + 113) (by omega) (by omega) (by omega)) rfl rfl hdd (Nat.le_refl _) (Nat.le_refl _) (by decide) (pm_kv (fun σ' cnt' hq => ?_))
                obtain ⟨rfl, rfl⟩ := hq
                obtain ⟨n_205, en_205⟩ : ∃ f : Nat → Int32, f = upd n_198 (14 * kc2 + 113) (nI 0) := ⟨_, rfl⟩
                rw [← en_205]
                have hnn_205 := KI.w en_205 hnn_198 (okv_o (show kd (14 * kc2 + 113) = (2, 20, false) from (kd_P (k := kc2) (c := 3) (by omega) (by omega) (by decide))) (by omega))
                have hrn_205 := NRx.w en_205 hrn_198 (by rw [(show kd (14 * kc2 + 113) = (2, 20, false) from (kd_P (k := kc2) (c := 3) (by omega) (by omega) (by decide)))])
                have ksn_205 := KSh.w (h := 14 * kc2 + 110) en_205 ksn_198 (by unfold tS; omega)
                have e206 : n_205 0 = nI kc0 := by rw [en_205, pk_un (by omega)]; exact e199
                have e207 : n_205 8 = nI kc8 := by rw [en_205, pk_un (by omega)]; exact e200
                have e208 : n_205 2 = nI (kc2 + 1) := by rw [en_205, pk_un (by omega)]; exact e201
                have e209 : n_205 (14 * kc2 + 110) = nI 0 := by rw [en_205, pk_un (by omega)]; exact e202
                have e210 : n_205 (14 * kc2 + 111) = nI 0 := by rw [en_205, pk_un (by omega)]; exact e203
                have e211 : n_205 (14 * kc2 + 113) = nI 0 := by rw [en_205, pk_us]
                refine pm_iincX (v := nI 4) (loc' := [some (.ref (B + 54)), some (.int za), some (.int zb), some (.int zc), some (.int zd), some (.int (nI 1)), some (.int (nI kc2)), some (.int (nI 4))]) hG dX12_person_137 rfl (nI_1 _) (by decide) (pm_c1b rfl) rfl ?_
                refine pm_goto (tgt := 121) hG dX12_person_140 rfl ?_
                refine pm_iloadi hG dX12_person_121 rfl ?_
                refine pm_bipush (v := nI 14) hG dX12_person_123 (by decide) ?_
                refine pm_icmpN_ge (tgt := 143) hG dX12_person_125 rfl (by omega) (by omega) (fun q => absurd q (by omega)) (fun _ => ?_)
                refine pm_aloadn hG dX12_person_128 rfl ?_
                refine pm_iloadi hG dX12_person_129 rfl ?_
                refine pm_iloadi hG dX12_person_131 rfl ?_
                refine pm_iconst (v := nI 0) hG dX12_person_133 (by decide) ?_
                refine pm_callV (As := [.int (nI kc2), .int (nI 4), .int (nI 0)]) (rest := []) hG hR dX12_person_134 (lkX12_97 _ rfl) okV_X12_sets rfl rfl (m_sets (d := 2) (e := 14 * kc2 + 114) (by omega) (by omega) (by omega)) rfl rfl hdd (Nat.le_refl _) (Nat.le_refl _) (by decide) (pm_kv (fun σ' cnt' hq => ?_))
                obtain ⟨rfl, rfl⟩ := hq
                obtain ⟨n_212, en_212⟩ : ∃ f : Nat → Int32, f = upd n_205 (14 * kc2 + 114) (nI 0) := ⟨_, rfl⟩
                rw [← en_212]
                have hnn_212 := KI.w en_212 hnn_205 (okv_o (show kd (14 * kc2 + 114) = (2, 10, false) from (kd_P (k := kc2) (c := 4) (by omega) (by omega) (by decide))) (by omega))
                have hrn_212 := NRx.w en_212 hrn_205 (by rw [(show kd (14 * kc2 + 114) = (2, 10, false) from (kd_P (k := kc2) (c := 4) (by omega) (by omega) (by decide)))])
                have ksn_212 := KSh.w (h := 14 * kc2 + 110) en_212 ksn_205 (by unfold tS; omega)
                have e213 : n_212 0 = nI kc0 := by rw [en_212, pk_un (by omega)]; exact e206
                have e214 : n_212 8 = nI kc8 := by rw [en_212, pk_un (by omega)]; exact e207
                have e215 : n_212 2 = nI (kc2 + 1) := by rw [en_212, pk_un (by omega)]; exact e208
                have e216 : n_212 (14 * kc2 + 110) = nI 0 := by rw [en_212, pk_un (by omega)]; exact e209
                have e217 : n_212 (14 * kc2 + 111) = nI 0 := by rw [en_212, pk_un (by omega)]; exact e210
                have e218 : n_212 (14 * kc2 + 114) = nI 0 := by rw [en_212, pk_us]
                refine pm_iincX (v := nI 5) (loc' := [some (.ref (B + 54)), some (.int za), some (.int zb), some (.int zc), some (.int zd), some (.int (nI 1)), some (.int (nI kc2)), some (.int (nI 5))]) hG dX12_person_137 rfl (nI_1 _) (by decide) (pm_c1b rfl) rfl ?_
                refine pm_goto (tgt := 121) hG dX12_person_140 rfl ?_
                refine pm_iloadi hG dX12_person_121 rfl ?_
                refine pm_bipush (v := nI 14) hG dX12_person_123 (by decide) ?_
                refine pm_icmpN_ge (tgt := 143) hG dX12_person_125 rfl (by omega) (by omega) (fun q => absurd q (by omega)) (fun _ => ?_)
                refine pm_aloadn hG dX12_person_128 rfl ?_
                refine pm_iloadi hG dX12_person_129 rfl ?_
                refine pm_iloadi hG dX12_person_131 rfl ?_
                refine pm_iconst (v := nI 0) hG dX12_person_133 (by decide) ?_
                refine pm_callV (As := [.int (nI kc2), .int (nI 5), .int (nI 0)]) (rest := []) hG hR dX12_person_134 (lkX12_97 _ rfl) okV_X12_sets rfl rfl (m_sets (d := 2) (e := 14 * kc2 + 115) (by omega) (by omega) (by omega)) rfl rfl hdd (Nat.le_refl _) (Nat.le_refl _) (by decide) (pm_kv (fun σ' cnt' hq => ?_))
                obtain ⟨rfl, rfl⟩ := hq
                obtain ⟨n_219, en_219⟩ : ∃ f : Nat → Int32, f = upd n_212 (14 * kc2 + 115) (nI 0) := ⟨_, rfl⟩
                rw [← en_219]
                have hnn_219 := KI.w en_219 hnn_212 (okv_n (show kd (14 * kc2 + 115) = (1, 10, false) from (kd_P (k := kc2) (c := 5) (by omega) (by omega) (by decide))) (by omega))
                have hrn_219 := NRx.w en_219 hrn_212 (by rw [(show kd (14 * kc2 + 115) = (1, 10, false) from (kd_P (k := kc2) (c := 5) (by omega) (by omega) (by decide)))])
                have ksn_219 := KSh.w (h := 14 * kc2 + 110) en_219 ksn_212 (by unfold tS; omega)
                have e220 : n_219 0 = nI kc0 := by rw [en_219, pk_un (by omega)]; exact e213
                have e221 : n_219 8 = nI kc8 := by rw [en_219, pk_un (by omega)]; exact e214
                have e222 : n_219 2 = nI (kc2 + 1) := by rw [en_219, pk_un (by omega)]; exact e215
                have e223 : n_219 (14 * kc2 + 110) = nI 0 := by rw [en_219, pk_un (by omega)]; exact e216
                have e224 : n_219 (14 * kc2 + 111) = nI 0 := by rw [en_219, pk_un (by omega)]; exact e217
                have e225 : n_219 (14 * kc2 + 115) = nI 0 := by rw [en_219, pk_us]
                refine pm_iincX (v := nI 6) (loc' := [some (.ref (B + 54)), some (.int za), some (.int zb), some (.int zc), some (.int zd), some (.int (nI 1)), some (.int (nI kc2)), some (.int (nI 6))]) hG dX12_person_137 rfl (nI_1 _) (by decide) (pm_c1b rfl) rfl ?_
                refine pm_goto (tgt := 121) hG dX12_person_140 rfl ?_
                refine pm_iloadi hG dX12_person_121 rfl ?_
                refine pm_bipush (v := nI 14) hG dX12_person_123 (by decide) ?_
                refine pm_icmpN_ge (tgt := 143) hG dX12_person_125 rfl (by omega) (by omega) (fun q => absurd q (by omega)) (fun _ => ?_)
                refine pm_aloadn hG dX12_person_128 rfl ?_
                refine pm_iloadi hG dX12_person_129 rfl ?_
                refine pm_iloadi hG dX12_person_131 rfl ?_
                refine pm_iconst (v := nI 0) hG dX12_person_133 (by decide) ?_
                refine pm_callV (As := [.int (nI kc2), .int (nI 6), .int (nI 0)]) (rest := []) hG hR dX12_person_134 (lkX12_97 _ rfl) okV_X12_sets rfl rfl (m_sets (d := 2) (e := 14 * kc2 + 116) (by omega) (by omega) (by omega)) rfl rfl hdd (Nat.le_refl _) (Nat.le_refl _) (by decide) (pm_kv (fun σ' cnt' hq => ?_))
                obtain ⟨rfl, rfl⟩ := hq
                obtain ⟨n_226, en_226⟩ : ∃ f : Nat → Int32, f = upd n_219 (14 * kc2 + 116) (nI 0) := ⟨_, rfl⟩
                rw [← en_226]
                have hnn_226 := KI.w en_226 hnn_219 (okv_f (show kd (14 * kc2 + 116) = (0, 0, false) from (kd_P (k := kc2) (c := 6) (by omega) (by omega) (by decide))))
                have hrn_226 := NRx.w en_226 hrn_219 (by rw [(show kd (14 * kc2 + 116) = (0, 0, false) from (kd_P (k := kc2) (c := 6) (by omega) (by omega) (by decide)))])
                have ksn_226 := KSh.w (h := 14 * kc2 + 110) en_226 ksn_219 (by unfold tS; omega)
                have e227 : n_226 0 = nI kc0 := by rw [en_226, pk_un (by omega)]; exact e220
                have e228 : n_226 8 = nI kc8 := by rw [en_226, pk_un (by omega)]; exact e221
                have e229 : n_226 2 = nI (kc2 + 1) := by rw [en_226, pk_un (by omega)]; exact e222
                have e230 : n_226 (14 * kc2 + 110) = nI 0 := by rw [en_226, pk_un (by omega)]; exact e223
                have e231 : n_226 (14 * kc2 + 111) = nI 0 := by rw [en_226, pk_un (by omega)]; exact e224
                have e232 : n_226 (14 * kc2 + 116) = nI 0 := by rw [en_226, pk_us]
                refine pm_iincX (v := nI 7) (loc' := [some (.ref (B + 54)), some (.int za), some (.int zb), some (.int zc), some (.int zd), some (.int (nI 1)), some (.int (nI kc2)), some (.int (nI 7))]) hG dX12_person_137 rfl (nI_1 _) (by decide) (pm_c1b rfl) rfl ?_
                refine pm_goto (tgt := 121) hG dX12_person_140 rfl ?_
                refine pm_iloadi hG dX12_person_121 rfl ?_
                refine pm_bipush (v := nI 14) hG dX12_person_123 (by decide) ?_
                refine pm_icmpN_ge (tgt := 143) hG dX12_person_125 rfl (by omega) (by omega) (fun q => absurd q (by omega)) (fun _ => ?_)
                refine pm_aloadn hG dX12_person_128 rfl ?_
                refine pm_iloadi hG dX12_person_129 rfl ?_
                refine pm_iloadi hG dX12_person_131 rfl ?_
                refine pm_iconst (v := nI 0) hG dX12_person_133 (by decide) ?_
                refine pm_callV (As := [.int (nI kc2), .int (nI 7), .int (nI 0)]) (rest := []) hG hR dX12_person_134 (lkX12_97 _ rfl) okV_X12_sets rfl rfl (m_sets (d := 2) (e := 14 * kc2 + 117) (by omega) (by omega) (by omega)) rfl rfl hdd (Nat.le_refl _) (Nat.le_refl _) (by decide) (pm_kv (fun σ' cnt' hq => ?_))
                obtain ⟨rfl, rfl⟩ := hq
                obtain ⟨n_233, en_233⟩ : ∃ f : Nat → Int32, f = upd n_226 (14 * kc2 + 117) (nI 0) := ⟨_, rfl⟩
                rw [← en_233]
                have hnn_233 := KI.w en_233 hnn_226 (okv_f (show kd (14 * kc2 + 117) = (0, 0, false) from (kd_P (k := kc2) (c := 7) (by omega) (by omega) (by decide))))
                have hrn_233 := NRx.w en_233 hrn_226 (by rw [(show kd (14 * kc2 + 117) = (0, 0, false) from (kd_P (k := kc2) (c := 7) (by omega) (by omega) (by decide)))])
                have ksn_233 := KSh.w (h := 14 * kc2 + 110) en_233 ksn_226 (by unfold tS; omega)
                have e234 : n_233 0 = nI kc0 := by rw [en_233, pk_un (by omega)]; exact e227
                have e235 : n_233 8 = nI kc8 := by rw [en_233, pk_un (by omega)]; exact e228
                have e236 : n_233 2 = nI (kc2 + 1) := by rw [en_233, pk_un (by omega)]; exact e229
                have e237 : n_233 (14 * kc2 + 110) = nI 0 := by rw [en_233, pk_un (by omega)]; exact e230
                have e238 : n_233 (14 * kc2 + 111) = nI 0 := by rw [en_233, pk_un (by omega)]; exact e231
                have e239 : n_233 (14 * kc2 + 117) = nI 0 := by rw [en_233, pk_us]
                refine pm_iincX (v := nI 8) (loc' := [some (.ref (B + 54)), some (.int za), some (.int zb), some (.int zc), some (.int zd), some (.int (nI 1)), some (.int (nI kc2)), some (.int (nI 8))]) hG dX12_person_137 rfl (nI_1 _) (by decide) (pm_c1b rfl) rfl ?_
                refine pm_goto (tgt := 121) hG dX12_person_140 rfl ?_
                refine pm_iloadi hG dX12_person_121 rfl ?_
                refine pm_bipush (v := nI 14) hG dX12_person_123 (by decide) ?_
                refine pm_icmpN_ge (tgt := 143) hG dX12_person_125 rfl (by omega) (by omega) (fun q => absurd q (by omega)) (fun _ => ?_)
                refine pm_aloadn hG dX12_person_128 rfl ?_
                refine pm_iloadi hG dX12_person_129 rfl ?_
                refine pm_iloadi hG dX12_person_131 rfl ?_
                refine pm_iconst (v := nI 0) hG dX12_person_133 (by decide) ?_
                refine pm_callV (As := [.int (nI kc2), .int (nI 8), .int (nI 0)]) (rest := []) hG hR dX12_person_134 (lkX12_97 _ rfl) okV_X12_sets rfl rfl (m_sets (d := 2) (e := 14 * kc2 + 118) (by omega) (by omega) (by omega)) rfl rfl hdd (Nat.le_refl _) (Nat.le_refl _) (by decide) (pm_kv (fun σ' cnt' hq => ?_))
                obtain ⟨rfl, rfl⟩ := hq
                obtain ⟨n_240, en_240⟩ : ∃ f : Nat → Int32, f = upd n_233 (14 * kc2 + 118) (nI 0) := ⟨_, rfl⟩
                rw [← en_240]
                have hnn_240 := KI.w en_240 hnn_233 (okv_f (show kd (14 * kc2 + 118) = (0, 0, false) from (kd_P (k := kc2) (c := 8) (by omega) (by omega) (by decide))))
                have hrn_240 := NRx.w en_240 hrn_233 (by rw [(show kd (14 * kc2 + 118) = (0, 0, false) from (kd_P (k := kc2) (c := 8) (by omega) (by omega) (by decide)))])
                have ksn_240 := KSh.w (h := 14 * kc2 + 110) en_240 ksn_233 (by unfold tS; omega)
                have e241 : n_240 0 = nI kc0 := by rw [en_240, pk_un (by omega)]; exact e234
                have e242 : n_240 8 = nI kc8 := by rw [en_240, pk_un (by omega)]; exact e235
                have e243 : n_240 2 = nI (kc2 + 1) := by rw [en_240, pk_un (by omega)]; exact e236
                have e244 : n_240 (14 * kc2 + 110) = nI 0 := by rw [en_240, pk_un (by omega)]; exact e237
                have e245 : n_240 (14 * kc2 + 111) = nI 0 := by rw [en_240, pk_un (by omega)]; exact e238
                have e246 : n_240 (14 * kc2 + 118) = nI 0 := by rw [en_240, pk_us]
                refine pm_iincX (v := nI 9) (loc' := [some (.ref (B + 54)), some (.int za), some (.int zb), some (.int zc), some (.int zd), some (.int (nI 1)), some (.int (nI kc2)), some (.int (nI 9))]) hG dX12_person_137 rfl (nI_1 _) (by decide) (pm_c1b rfl) rfl ?_
                refine pm_goto (tgt := 121) hG dX12_person_140 rfl ?_
                refine pm_iloadi hG dX12_person_121 rfl ?_
                refine pm_bipush (v := nI 14) hG dX12_person_123 (by decide) ?_
                refine pm_icmpN_ge (tgt := 143) hG dX12_person_125 rfl (by omega) (by omega) (fun q => absurd q (by omega)) (fun _ => ?_)
                refine pm_aloadn hG dX12_person_128 rfl ?_
                refine pm_iloadi hG dX12_person_129 rfl ?_
                refine pm_iloadi hG dX12_person_131 rfl ?_
                refine pm_iconst (v := nI 0) hG dX12_person_133 (by decide) ?_
                refine pm_callV (As := [.int (nI kc2), .int (nI 9), .int (nI 0)]) (rest := []) hG hR dX12_person_134 (lkX12_97 _ rfl) okV_X12_sets rfl rfl (m_sets (d := 2) (e := 14 * kc2 + 119) (by omega) (by omega) (by omega)) rfl rfl hdd (Nat.le_refl _) (Nat.le_refl _) (by decide) (pm_kv (fun σ' cnt' hq => ?_))
                obtain ⟨rfl, rfl⟩ := hq
                obtain ⟨n_247, en_247⟩ : ∃ f : Nat → Int32, f = upd n_240 (14 * kc2 + 119) (nI 0) := ⟨_, rfl⟩
                rw [← en_247]
                have hnn_247 := KI.w en_247 hnn_240 (okv_o (show kd (14 * kc2 + 119) = (2, 2001, false) from (kd_P (k := kc2) (c := 9) (by omega) (by omega) (by decide))) (by omega))
                have hrn_247 := NRx.w en_247 hrn_240 (by rw [(show kd (14 * kc2 + 119) = (2, 2001, false) from (kd_P (k := kc2) (c := 9) (by omega) (by omega) (by decide)))])
                have ksn_247 := KSh.w (h := 14 * kc2 + 110) en_247 ksn_240 (by unfold tS; omega)
                have e248 : n_247 0 = nI kc0 := by rw [en_247, pk_un (by omega)]; exact e241
                have e249 : n_247 8 = nI kc8 := by rw [en_247, pk_un (by omega)]; exact e242
                have e250 : n_247 2 = nI (kc2 + 1) := by rw [en_247, pk_un (by omega)]; exact e243
                have e251 : n_247 (14 * kc2 + 110) = nI 0 := by rw [en_247, pk_un (by omega)]; exact e244
                have e252 : n_247 (14 * kc2 + 111) = nI 0 := by rw [en_247, pk_un (by omega)]; exact e245
                have e253 : n_247 (14 * kc2 + 119) = nI 0 := by rw [en_247, pk_us]
                refine pm_iincX (v := nI 10) (loc' := [some (.ref (B + 54)), some (.int za), some (.int zb), some (.int zc), some (.int zd), some (.int (nI 1)), some (.int (nI kc2)), some (.int (nI 10))]) hG dX12_person_137 rfl (nI_1 _) (by decide) (pm_c1b rfl) rfl ?_
                refine pm_goto (tgt := 121) hG dX12_person_140 rfl ?_
                refine pm_iloadi hG dX12_person_121 rfl ?_
                refine pm_bipush (v := nI 14) hG dX12_person_123 (by decide) ?_
                refine pm_icmpN_ge (tgt := 143) hG dX12_person_125 rfl (by omega) (by omega) (fun q => absurd q (by omega)) (fun _ => ?_)
                refine pm_aloadn hG dX12_person_128 rfl ?_
                refine pm_iloadi hG dX12_person_129 rfl ?_
                refine pm_iloadi hG dX12_person_131 rfl ?_
                refine pm_iconst (v := nI 0) hG dX12_person_133 (by decide) ?_
                refine pm_callV (As := [.int (nI kc2), .int (nI 10), .int (nI 0)]) (rest := []) hG hR dX12_person_134 (lkX12_97 _ rfl) okV_X12_sets rfl rfl (m_sets (d := 2) (e := 14 * kc2 + 120) (by omega) (by omega) (by omega)) rfl rfl hdd (Nat.le_refl _) (Nat.le_refl _) (by decide) (pm_kv (fun σ' cnt' hq => ?_))
                obtain ⟨rfl, rfl⟩ := hq
                obtain ⟨n_254, en_254⟩ : ∃ f : Nat → Int32, f = upd n_247 (14 * kc2 + 120) (nI 0) := ⟨_, rfl⟩
                rw [← en_254]
                have hnn_254 := KI.w en_254 hnn_247 (okv_f (show kd (14 * kc2 + 120) = (0, 0, false) from (kd_P (k := kc2) (c := 10) (by omega) (by omega) (by decide))))
                have hrn_254 := NRx.w en_254 hrn_247 (by rw [(show kd (14 * kc2 + 120) = (0, 0, false) from (kd_P (k := kc2) (c := 10) (by omega) (by omega) (by decide)))])
                have ksn_254 := KSh.w (h := 14 * kc2 + 110) en_254 ksn_247 (by unfold tS; omega)
                have e255 : n_254 0 = nI kc0 := by rw [en_254, pk_un (by omega)]; exact e248
                have e256 : n_254 8 = nI kc8 := by rw [en_254, pk_un (by omega)]; exact e249
                have e257 : n_254 2 = nI (kc2 + 1) := by rw [en_254, pk_un (by omega)]; exact e250
                have e258 : n_254 (14 * kc2 + 110) = nI 0 := by rw [en_254, pk_un (by omega)]; exact e251
                have e259 : n_254 (14 * kc2 + 111) = nI 0 := by rw [en_254, pk_un (by omega)]; exact e252
                have e260 : n_254 (14 * kc2 + 120) = nI 0 := by rw [en_254, pk_us]
                refine pm_iincX (v := nI 11) (loc' := [some (.ref (B + 54)), some (.int za), some (.int zb), some (.int zc), some (.int zd), some (.int (nI 1)), some (.int (nI kc2)), some (.int (nI 11))]) hG dX12_person_137 rfl (nI_1 _) (by decide) (pm_c1b rfl) rfl ?_
                refine pm_goto (tgt := 121) hG dX12_person_140 rfl ?_
                refine pm_iloadi hG dX12_person_121 rfl ?_
                refine pm_bipush (v := nI 14) hG dX12_person_123 (by decide) ?_
                refine pm_icmpN_ge (tgt := 143) hG dX12_person_125 rfl (by omega) (by omega) (fun q => absurd q (by omega)) (fun _ => ?_)
                refine pm_aloadn hG dX12_person_128 rfl ?_
                refine pm_iloadi hG dX12_person_129 rfl ?_
                refine pm_iloadi hG dX12_person_131 rfl ?_
                refine pm_iconst (v := nI 0) hG dX12_person_133 (by decide) ?_
                refine pm_callV (As := [.int (nI kc2), .int (nI 11), .int (nI 0)]) (rest := []) hG hR dX12_person_134 (lkX12_97 _ rfl) okV_X12_sets rfl rfl (m_sets (d := 2) (e := 14 * kc2 + 121) (by omega) (by omega) (by omega)) rfl rfl hdd (Nat.le_refl _) (Nat.le_refl _) (by decide) (pm_kv (fun σ' cnt' hq => ?_))
                obtain ⟨rfl, rfl⟩ := hq
                obtain ⟨n_261, en_261⟩ : ∃ f : Nat → Int32, f = upd n_254 (14 * kc2 + 121) (nI 0) := ⟨_, rfl⟩
                rw [← en_261]
                have hnn_261 := KI.w en_261 hnn_254 (okv_n (show kd (14 * kc2 + 121) = (1, 2, true) from (kd_P (k := kc2) (c := 11) (by omega) (by omega) (by decide))) (by omega))
                have hrn_261 := NRx.unseat (p := kc2) en_261 hrn_254 (by omega)
                have ksn_261 := KSh.w (h := 14 * kc2 + 110) en_261 ksn_254 (by unfold tS; omega)
                have e262 : n_261 0 = nI kc0 := by rw [en_261, pk_un (by omega)]; exact e255
                have e263 : n_261 8 = nI kc8 := by rw [en_261, pk_un (by omega)]; exact e256
                have e264 : n_261 2 = nI (kc2 + 1) := by rw [en_261, pk_un (by omega)]; exact e257
                have e265 : n_261 (14 * kc2 + 110) = nI 0 := by rw [en_261, pk_un (by omega)]; exact e258
                have e266 : n_261 (14 * kc2 + 111) = nI 0 := by rw [en_261, pk_un (by omega)]; exact e259
                have e267 : n_261 (14 * kc2 + 121) = nI 0 := by rw [en_261, pk_us]
                refine pm_iincX (v := nI 12) (loc' := [some (.ref (B + 54)), some (.int za), some (.int zb), some (.int zc), some (.int zd), some (.int (nI 1)), some (.int (nI kc2)), some (.int (nI 12))]) hG dX12_person_137 rfl (nI_1 _) (by decide) (pm_c1b rfl) rfl ?_
                refine pm_goto (tgt := 121) hG dX12_person_140 rfl ?_
                refine pm_iloadi hG dX12_person_121 rfl ?_
                refine pm_bipush (v := nI 14) hG dX12_person_123 (by decide) ?_
                refine pm_icmpN_ge (tgt := 143) hG dX12_person_125 rfl (by omega) (by omega) (fun q => absurd q (by omega)) (fun _ => ?_)
                refine pm_aloadn hG dX12_person_128 rfl ?_
                refine pm_iloadi hG dX12_person_129 rfl ?_
                refine pm_iloadi hG dX12_person_131 rfl ?_
                refine pm_iconst (v := nI 0) hG dX12_person_133 (by decide) ?_
                refine pm_callV (As := [.int (nI kc2), .int (nI 12), .int (nI 0)]) (rest := []) hG hR dX12_person_134 (lkX12_97 _ rfl) okV_X12_sets rfl rfl (m_sets (d := 2) (e := 14 * kc2 + 122) (by omega) (by omega) (by omega)) rfl rfl hdd (Nat.le_refl _) (Nat.le_refl _) (by decide) (pm_kv (fun σ' cnt' hq => ?_))
                obtain ⟨rfl, rfl⟩ := hq
                obtain ⟨n_268, en_268⟩ : ∃ f : Nat → Int32, f = upd n_261 (14 * kc2 + 122) (nI 0) := ⟨_, rfl⟩
                rw [← en_268]
                have hnn_268 := KI.w en_268 hnn_261 (okv_f (show kd (14 * kc2 + 122) = (0, 0, false) from (kd_P (k := kc2) (c := 12) (by omega) (by omega) (by decide))))
                have hrn_268 := NRx.w en_268 hrn_261 (by rw [(show kd (14 * kc2 + 122) = (0, 0, false) from (kd_P (k := kc2) (c := 12) (by omega) (by omega) (by decide)))])
                have ksn_268 := KSh.w (h := 14 * kc2 + 110) en_268 ksn_261 (by unfold tS; omega)
                have e269 : n_268 0 = nI kc0 := by rw [en_268, pk_un (by omega)]; exact e262
                have e270 : n_268 8 = nI kc8 := by rw [en_268, pk_un (by omega)]; exact e263
                have e271 : n_268 2 = nI (kc2 + 1) := by rw [en_268, pk_un (by omega)]; exact e264
                have e272 : n_268 (14 * kc2 + 110) = nI 0 := by rw [en_268, pk_un (by omega)]; exact e265
                have e273 : n_268 (14 * kc2 + 111) = nI 0 := by rw [en_268, pk_un (by omega)]; exact e266
                have e274 : n_268 (14 * kc2 + 122) = nI 0 := by rw [en_268, pk_us]
                refine pm_iincX (v := nI 13) (loc' := [some (.ref (B + 54)), some (.int za), some (.int zb), some (.int zc), some (.int zd), some (.int (nI 1)), some (.int (nI kc2)), some (.int (nI 13))]) hG dX12_person_137 rfl (nI_1 _) (by decide) (pm_c1b rfl) rfl ?_
                refine pm_goto (tgt := 121) hG dX12_person_140 rfl ?_
                refine pm_iloadi hG dX12_person_121 rfl ?_
                refine pm_bipush (v := nI 14) hG dX12_person_123 (by decide) ?_
                refine pm_icmpN_ge (tgt := 143) hG dX12_person_125 rfl (by omega) (by omega) (fun q => absurd q (by omega)) (fun _ => ?_)
                refine pm_aloadn hG dX12_person_128 rfl ?_
                refine pm_iloadi hG dX12_person_129 rfl ?_
                refine pm_iloadi hG dX12_person_131 rfl ?_
                refine pm_iconst (v := nI 0) hG dX12_person_133 (by decide) ?_
                refine pm_callV (As := [.int (nI kc2), .int (nI 13), .int (nI 0)]) (rest := []) hG hR dX12_person_134 (lkX12_97 _ rfl) okV_X12_sets rfl rfl (m_sets (d := 2) (e := 14 * kc2 + 123) (by omega) (by omega) (by omega)) rfl rfl hdd (Nat.le_refl _) (Nat.le_refl _) (by decide) (pm_kv (fun σ' cnt' hq => ?_))
                obtain ⟨rfl, rfl⟩ := hq
                obtain ⟨n_275, en_275⟩ : ∃ f : Nat → Int32, f = upd n_268 (14 * kc2 + 123) (nI 0) := ⟨_, rfl⟩
                rw [← en_275]
                have hnn_275 := KI.w en_275 hnn_268 (okv_f (show kd (14 * kc2 + 123) = (0, 0, false) from (kd_P (k := kc2) (c := 13) (by omega) (by omega) (by decide))))
                have hrn_275 := NRx.w en_275 hrn_268 (by rw [(show kd (14 * kc2 + 123) = (0, 0, false) from (kd_P (k := kc2) (c := 13) (by omega) (by omega) (by decide)))])
                have ksn_275 := KSh.w (h := 14 * kc2 + 110) en_275 ksn_268 (by unfold tS; omega)
                have e276 : n_275 0 = nI kc0 := by rw [en_275, pk_un (by omega)]; exact e269
                have e277 : n_275 8 = nI kc8 := by rw [en_275, pk_un (by omega)]; exact e270
                have e278 : n_275 2 = nI (kc2 + 1) := by rw [en_275, pk_un (by omega)]; exact e271
                have e279 : n_275 (14 * kc2 + 110) = nI 0 := by rw [en_275, pk_un (by omega)]; exact e272
                have e280 : n_275 (14 * kc2 + 111) = nI 0 := by rw [en_275, pk_un (by omega)]; exact e273
                have e281 : n_275 (14 * kc2 + 123) = nI 0 := by rw [en_275, pk_us]
                refine pm_iincX (v := nI 14) (loc' := [some (.ref (B + 54)), some (.int za), some (.int zb), some (.int zc), some (.int zd), some (.int (nI 1)), some (.int (nI kc2)), some (.int (nI 14))]) hG dX12_person_137 rfl (nI_1 _) (by decide) (pm_c1b rfl) rfl ?_
                refine pm_goto (tgt := 121) hG dX12_person_140 rfl ?_
                refine pm_iloadi hG dX12_person_121 rfl ?_
                refine pm_bipush (v := nI 14) hG dX12_person_123 (by decide) ?_
                refine pm_icmpN_ge (tgt := 143) hG dX12_person_125 rfl (by omega) (by omega) (fun _ => ?_) (fun q => absurd q (by omega))
                refine pm_aloadn hG dX12_person_143 rfl ?_
                refine pm_iloadi hG dX12_person_144 rfl ?_
                refine pm_iconst (v := nI 0) hG dX12_person_146 (by decide) ?_
                refine pm_iloadn hG dX12_person_147 rfl ?_
                refine pm_top (v := nI k3) ek3 ?_
                refine pm_callV (As := [.int (nI kc2), .int (nI 0), .int (nI k3)]) (rest := []) hG hR dX12_person_148 (lkX12_97 _ rfl) okV_X12_sets rfl rfl (m_sets (d := 2) (e := 14 * kc2 + 110) (by omega) (by omega) (by omega)) rfl rfl hdd (Nat.le_refl _) (Nat.le_refl _) (by decide) (pm_kv (fun σ' cnt' hq => ?_))
                obtain ⟨rfl, rfl⟩ := hq
                obtain ⟨n_282, en_282⟩ : ∃ f : Nat → Int32, f = upd n_275 (14 * kc2 + 110) (nI k3) := ⟨_, rfl⟩
                rw [← en_282]
                have hnn_282 := KI.w en_282 hnn_275 (okv_f (show kd (14 * kc2 + 110) = (0, 0, false) from (kd_P (k := kc2) (c := 0) (by omega) (by omega) (by decide))))
                have hrn_282 := NRx.w en_282 hrn_275 (by rw [(show kd (14 * kc2 + 110) = (0, 0, false) from (kd_P (k := kc2) (c := 0) (by omega) (by omega) (by decide)))])
                have ksn_282 := KSh.w (h := 14 * kc2 + 110) en_282 ksn_275 (by unfold tS; omega)
                have e283 : n_282 0 = nI kc0 := by rw [en_282, pk_un (by omega)]; exact e276
                have e284 : n_282 8 = nI kc8 := by rw [en_282, pk_un (by omega)]; exact e277
                have e285 : n_282 2 = nI (kc2 + 1) := by rw [en_282, pk_un (by omega)]; exact e278
                have e286 : n_282 (14 * kc2 + 111) = nI 0 := by rw [en_282, pk_un (by omega)]; exact e280
                have e287 : n_282 (14 * kc2 + 110) = nI k3 := by rw [en_282, pk_us]
                refine pm_aloadn hG dX12_person_151 rfl ?_
                refine pm_iloadi hG dX12_person_152 rfl ?_
                refine pm_iconst (v := nI 1) hG dX12_person_154 (by decide) ?_
                refine pm_iloadn hG dX12_person_155 rfl ?_
                refine pm_callV (As := [.int (nI kc2), .int (nI 1), .int zb]) (rest := []) hG hR dX12_person_156 (lkX12_97 _ rfl) okV_X12_sets rfl rfl (m_sets (d := 2) (e := 14 * kc2 + 111) (by omega) (by omega) (by omega)) rfl rfl hdd (Nat.le_refl _) (Nat.le_refl _) (by decide) (pm_kv (fun σ' cnt' hq => ?_))
                obtain ⟨rfl, rfl⟩ := hq
                obtain ⟨n_288, en_288⟩ : ∃ f : Nat → Int32, f = upd n_282 (14 * kc2 + 111) zb := ⟨_, rfl⟩
                rw [← en_288]
                have hnn_288 := KI.w en_288 hnn_282 (okv_f (show kd (14 * kc2 + 111) = (0, 0, false) from (kd_P (k := kc2) (c := 1) (by omega) (by omega) (by decide))))
                have hrn_288 := NRx.w en_288 hrn_282 (by rw [(show kd (14 * kc2 + 111) = (0, 0, false) from (kd_P (k := kc2) (c := 1) (by omega) (by omega) (by decide)))])
                have ksn_288 := KSh.w (h := 14 * kc2 + 110) en_288 ksn_282 (by unfold tS; omega)
                have e289 : n_288 0 = nI kc0 := by rw [en_288, pk_un (by omega)]; exact e283
                have e290 : n_288 8 = nI kc8 := by rw [en_288, pk_un (by omega)]; exact e284
                have e291 : n_288 2 = nI (kc2 + 1) := by rw [en_288, pk_un (by omega)]; exact e285
                have e292 : n_288 (14 * kc2 + 110) = nI k3 := by rw [en_288, pk_un (by omega)]; exact e287
                have e293 : n_288 (14 * kc2 + 111) = zb := by rw [en_288, pk_us]
                refine pm_aloadn hG dX12_person_159 rfl ?_
                refine pm_iloadi hG dX12_person_160 rfl ?_
                refine pm_iconst (v := nI 2) hG dX12_person_162 (by decide) ?_
                refine pm_iloadn hG dX12_person_163 rfl ?_
                refine pm_top (v := nI k9) ek9 ?_
                refine pm_bipush (v := nI 100) hG dX12_person_164 (by decide) ?_
                refine pm_idivN hG dX12_person_166 (by omega) (by decide) (by decide) ?_
                refine pm_iconst (v := nI 1) hG dX12_person_167 (by decide) ?_
                refine pm_isub hG dX12_person_168 ?_
                refine pm_top (v := (-1)) ek11 ?_
                refine pm_callV (As := [.int (nI kc2), .int (nI 2), .int (-1)]) (rest := []) hG hR dX12_person_169 (lkX12_97 _ rfl) okV_X12_sets rfl rfl (m_sets (d := 2) (e := 14 * kc2 + 112) (by omega) (by omega) (by omega)) rfl rfl hdd (Nat.le_refl _) (Nat.le_refl _) (by decide) (pm_kv (fun σ' cnt' hq => ?_))
                obtain ⟨rfl, rfl⟩ := hq
                obtain ⟨n_294, en_294⟩ : ∃ f : Nat → Int32, f = upd n_288 (14 * kc2 + 112) (-1) := ⟨_, rfl⟩
                rw [← en_294]
                have hnn_294 := KI.w en_294 hnn_288 (okv_m (show kd (14 * kc2 + 112) = (2, 20, false) from (kd_P (k := kc2) (c := 2) (by omega) (by omega) (by decide))))
                have hrn_294 := NRx.w en_294 hrn_288 (by rw [(show kd (14 * kc2 + 112) = (2, 20, false) from (kd_P (k := kc2) (c := 2) (by omega) (by omega) (by decide)))])
                have ksn_294 := KSh.w (h := 14 * kc2 + 110) en_294 ksn_288 (by unfold tS; omega)
                have e295 : n_294 0 = nI kc0 := by rw [en_294, pk_un (by omega)]; exact e289
                have e296 : n_294 8 = nI kc8 := by rw [en_294, pk_un (by omega)]; exact e290
                have e297 : n_294 2 = nI (kc2 + 1) := by rw [en_294, pk_un (by omega)]; exact e291
                have e298 : n_294 (14 * kc2 + 110) = nI k3 := by rw [en_294, pk_un (by omega)]; exact e292
                have e299 : n_294 (14 * kc2 + 111) = zb := by rw [en_294, pk_un (by omega)]; exact e293
                have e300 : n_294 (14 * kc2 + 112) = (-1) := by rw [en_294, pk_us]
                refine pm_aloadn hG dX12_person_172 rfl ?_
                refine pm_iloadi hG dX12_person_173 rfl ?_
                refine pm_iconst (v := nI 3) hG dX12_person_175 (by decide) ?_
                refine pm_iloadn hG dX12_person_176 rfl ?_
                refine pm_top (v := nI k9) ek9 ?_
                refine pm_bipush (v := nI 100) hG dX12_person_177 (by decide) ?_
                refine pm_iremM hG dX12_person_179 (by omega) (by decide) (by decide) ?_
                refine pm_iconst (v := nI 1) hG dX12_person_180 (by decide) ?_
                refine pm_isub hG dX12_person_181 ?_
                refine pm_top (v := nI k15) ek15 ?_
                refine pm_callV (As := [.int (nI kc2), .int (nI 3), .int (nI k15)]) (rest := []) hG hR dX12_person_182 (lkX12_97 _ rfl) okV_X12_sets rfl rfl (m_sets (d := 2) (e := 14 * kc2 + 113) (by omega) (by omega) (by omega)) rfl rfl hdd (Nat.le_refl _) (Nat.le_refl _) (by decide) (pm_kv (fun σ' cnt' hq => ?_))
                obtain ⟨rfl, rfl⟩ := hq
                obtain ⟨n_301, en_301⟩ : ∃ f : Nat → Int32, f = upd n_294 (14 * kc2 + 113) (nI k15) := ⟨_, rfl⟩
                rw [← en_301]
                have hnn_301 := KI.w en_301 hnn_294 (okv_o (show kd (14 * kc2 + 113) = (2, 20, false) from (kd_P (k := kc2) (c := 3) (by omega) (by omega) (by decide))) (by omega))
                have hrn_301 := NRx.w en_301 hrn_294 (by rw [(show kd (14 * kc2 + 113) = (2, 20, false) from (kd_P (k := kc2) (c := 3) (by omega) (by omega) (by decide)))])
                have ksn_301 := KSh.w (h := 14 * kc2 + 110) en_301 ksn_294 (by unfold tS; omega)
                have e302 : n_301 0 = nI kc0 := by rw [en_301, pk_un (by omega)]; exact e295
                have e303 : n_301 8 = nI kc8 := by rw [en_301, pk_un (by omega)]; exact e296
                have e304 : n_301 2 = nI (kc2 + 1) := by rw [en_301, pk_un (by omega)]; exact e297
                have e305 : n_301 (14 * kc2 + 110) = nI k3 := by rw [en_301, pk_un (by omega)]; exact e298
                have e306 : n_301 (14 * kc2 + 111) = zb := by rw [en_301, pk_un (by omega)]; exact e299
                have e307 : n_301 (14 * kc2 + 113) = nI k15 := by rw [en_301, pk_us]
                refine pm_aloadn hG dX12_person_185 rfl ?_
                refine pm_iloadi hG dX12_person_186 rfl ?_
                refine pm_iconst (v := nI 4) hG dX12_person_188 (by decide) ?_
                refine pm_iloadi hG dX12_person_189 rfl ?_
                refine pm_top (v := nI k181) ek181 ?_
                refine pm_callV (As := [.int (nI kc2), .int (nI 4), .int (nI k181)]) (rest := []) hG hR dX12_person_191 (lkX12_97 _ rfl) okV_X12_sets rfl rfl (m_sets (d := 2) (e := 14 * kc2 + 114) (by omega) (by omega) (by omega)) rfl rfl hdd (Nat.le_refl _) (Nat.le_refl _) (by decide) (pm_kv (fun σ' cnt' hq => ?_))
                obtain ⟨rfl, rfl⟩ := hq
                obtain ⟨n_308, en_308⟩ : ∃ f : Nat → Int32, f = upd n_301 (14 * kc2 + 114) (nI k181) := ⟨_, rfl⟩
                rw [← en_308]
                have hnn_308 := KI.w en_308 hnn_301 (okv_o (show kd (14 * kc2 + 114) = (2, 10, false) from (kd_P (k := kc2) (c := 4) (by omega) (by omega) (by decide))) (by omega))
                have hrn_308 := NRx.w en_308 hrn_301 (by rw [(show kd (14 * kc2 + 114) = (2, 10, false) from (kd_P (k := kc2) (c := 4) (by omega) (by omega) (by decide)))])
                have ksn_308 := KSh.w (h := 14 * kc2 + 110) en_308 ksn_301 (by unfold tS; omega)
                have e309 : n_308 0 = nI kc0 := by rw [en_308, pk_un (by omega)]; exact e302
                have e310 : n_308 8 = nI kc8 := by rw [en_308, pk_un (by omega)]; exact e303
                have e311 : n_308 2 = nI (kc2 + 1) := by rw [en_308, pk_un (by omega)]; exact e304
                have e312 : n_308 (14 * kc2 + 110) = nI k3 := by rw [en_308, pk_un (by omega)]; exact e305
                have e313 : n_308 (14 * kc2 + 111) = zb := by rw [en_308, pk_un (by omega)]; exact e306
                have e314 : n_308 (14 * kc2 + 114) = nI k181 := by rw [en_308, pk_us]
                refine pm_aloadn hG dX12_person_194 rfl ?_
                refine pm_iloadi hG dX12_person_195 rfl ?_
                refine pm_bipush (v := nI 9) hG dX12_person_197 (by decide) ?_
                refine pm_iconst (v := (-1)) hG dX12_person_199 (by decide) ?_
                refine pm_callV (As := [.int (nI kc2), .int (nI 9), .int (-1)]) (rest := []) hG hR dX12_person_200 (lkX12_97 _ rfl) okV_X12_sets rfl rfl (m_sets (d := 2) (e := 14 * kc2 + 119) (by omega) (by omega) (by omega)) rfl rfl hdd (Nat.le_refl _) (Nat.le_refl _) (by decide) (pm_kv (fun σ' cnt' hq => ?_))
                obtain ⟨rfl, rfl⟩ := hq
                obtain ⟨n_315, en_315⟩ : ∃ f : Nat → Int32, f = upd n_308 (14 * kc2 + 119) (-1) := ⟨_, rfl⟩
                rw [← en_315]
                have hnn_315 := KI.w en_315 hnn_308 (okv_m (show kd (14 * kc2 + 119) = (2, 2001, false) from (kd_P (k := kc2) (c := 9) (by omega) (by omega) (by decide))))
                have hrn_315 := NRx.w en_315 hrn_308 (by rw [(show kd (14 * kc2 + 119) = (2, 2001, false) from (kd_P (k := kc2) (c := 9) (by omega) (by omega) (by decide)))])
                have ksn_315 := KSh.w (h := 14 * kc2 + 110) en_315 ksn_308 (by unfold tS; omega)
                have e316 : n_315 0 = nI kc0 := by rw [en_315, pk_un (by omega)]; exact e309
                have e317 : n_315 8 = nI kc8 := by rw [en_315, pk_un (by omega)]; exact e310
                have e318 : n_315 2 = nI (kc2 + 1) := by rw [en_315, pk_un (by omega)]; exact e311
                have e319 : n_315 (14 * kc2 + 110) = nI k3 := by rw [en_315, pk_un (by omega)]; exact e312
                have e320 : n_315 (14 * kc2 + 111) = zb := by rw [en_315, pk_un (by omega)]; exact e313
                have e321 : n_315 (14 * kc2 + 119) = (-1) := by rw [en_315, pk_us]
                refine pm_aloadn hG dX12_person_203 rfl ?_
                refine pm_iloadi hG dX12_person_204 rfl ?_
                refine pm_bipush (v := nI 10) hG dX12_person_206 (by decide) ?_
                refine pm_iconst (v := (-1)) hG dX12_person_208 (by decide) ?_
                refine pm_callV (As := [.int (nI kc2), .int (nI 10), .int (-1)]) (rest := []) hG hR dX12_person_209 (lkX12_97 _ rfl) okV_X12_sets rfl rfl (m_sets (d := 2) (e := 14 * kc2 + 120) (by omega) (by omega) (by omega)) rfl rfl hdd (Nat.le_refl _) (Nat.le_refl _) (by decide) (pm_kv (fun σ' cnt' hq => ?_))
                obtain ⟨rfl, rfl⟩ := hq
                obtain ⟨n_322, en_322⟩ : ∃ f : Nat → Int32, f = upd n_315 (14 * kc2 + 120) (-1) := ⟨_, rfl⟩
                rw [← en_322]
                have hnn_322 := KI.w en_322 hnn_315 (okv_f (show kd (14 * kc2 + 120) = (0, 0, false) from (kd_P (k := kc2) (c := 10) (by omega) (by omega) (by decide))))
                have hrn_322 := NRx.w en_322 hrn_315 (by rw [(show kd (14 * kc2 + 120) = (0, 0, false) from (kd_P (k := kc2) (c := 10) (by omega) (by omega) (by decide)))])
                have ksn_322 := KSh.w (h := 14 * kc2 + 110) en_322 ksn_315 (by unfold tS; omega)
                have e323 : n_322 0 = nI kc0 := by rw [en_322, pk_un (by omega)]; exact e316
                have e324 : n_322 8 = nI kc8 := by rw [en_322, pk_un (by omega)]; exact e317
                have e325 : n_322 2 = nI (kc2 + 1) := by rw [en_322, pk_un (by omega)]; exact e318
                have e326 : n_322 (14 * kc2 + 110) = nI k3 := by rw [en_322, pk_un (by omega)]; exact e319
                have e327 : n_322 (14 * kc2 + 111) = zb := by rw [en_322, pk_un (by omega)]; exact e320
                have e328 : n_322 (14 * kc2 + 120) = (-1) := by rw [en_322, pk_us]
                refine pm_aloadn hG dX12_person_212 rfl ?_
                refine pm_iloadi hG dX12_person_213 rfl ?_
                refine pm_bipush (v := nI 12) hG dX12_person_215 (by decide) ?_
                refine pm_iconst (v := nI 1) hG dX12_person_217 (by decide) ?_
                refine pm_callV (As := [.int (nI kc2), .int (nI 12), .int (nI 1)]) (rest := []) hG hR dX12_person_218 (lkX12_97 _ rfl) okV_X12_sets rfl rfl (m_sets (d := 2) (e := 14 * kc2 + 122) (by omega) (by omega) (by omega)) rfl rfl hdd (Nat.le_refl _) (Nat.le_refl _) (by decide) (pm_kv (fun σ' cnt' hq => ?_))
                obtain ⟨rfl, rfl⟩ := hq
                obtain ⟨n_329, en_329⟩ : ∃ f : Nat → Int32, f = upd n_322 (14 * kc2 + 122) (nI 1) := ⟨_, rfl⟩
                rw [← en_329]
                have hnn_329 := KI.w en_329 hnn_322 (okv_f (show kd (14 * kc2 + 122) = (0, 0, false) from (kd_P (k := kc2) (c := 12) (by omega) (by omega) (by decide))))
                have hrn_329 := NRx.w en_329 hrn_322 (by rw [(show kd (14 * kc2 + 122) = (0, 0, false) from (kd_P (k := kc2) (c := 12) (by omega) (by omega) (by decide)))])
                have ksn_329 := KSh.w (h := 14 * kc2 + 110) en_329 ksn_322 (by unfold tS; omega)
                have e330 : n_329 0 = nI kc0 := by rw [en_329, pk_un (by omega)]; exact e323
                have e331 : n_329 8 = nI kc8 := by rw [en_329, pk_un (by omega)]; exact e324
                have e332 : n_329 2 = nI (kc2 + 1) := by rw [en_329, pk_un (by omega)]; exact e325
                have e333 : n_329 (14 * kc2 + 110) = nI k3 := by rw [en_329, pk_un (by omega)]; exact e326
                have e334 : n_329 (14 * kc2 + 111) = zb := by rw [en_329, pk_un (by omega)]; exact e327
                have e335 : n_329 (14 * kc2 + 122) = nI 1 := by rw [en_329, pk_us]
                refine pm_iloadi hG dX12_person_221 rfl ?_
                exact pm_iret hG hF dX12_person_223 rfl (Nat.le_refl _) (Nat.le_refl _) ⟨_, rfl, ⟨_, _, _, rfl, hnn_329, hrn_329, e330.trans ekc0.symm, e331.trans ekc8.symm, ⟨(vE_y (T := pN n) (d := n 8) (t := n 0) (p := n 2) (a := za) (b := zb) (c := zc) (e := zd) (not6 (rg_in (a := 0) (b := 1) (by omega) ek3 (by omega) (by omega)) (fun q => q.elim ac5 (by rw [ekc8]; exact bc5)) (by rw [ek9]; exact nI_pos (by omega)) (nt_in ekc0 (by omega) ek181 (by omega)) (fun q => q (by rw [dv1 ek9 (by omega)]; exact pk11)) (fun q => q (by rw [rm1 ek9 (by omega)]; exact pk15))) ekc2 (by omega)).1, e332.trans (vE_y (T := pN n) (d := n 8) (t := n 0) (p := n 2) (a := za) (b := zb) (c := zc) (e := zd) (not6 (rg_in (a := 0) (b := 1) (by omega) ek3 (by omega) (by omega)) (fun q => q.elim ac5 (by rw [ekc8]; exact bc5)) (by rw [ek9]; exact nI_pos (by omega)) (nt_in ekc0 (by omega) ek181 (by omega)) (fun q => q (by rw [dv1 ek9 (by omega)]; exact pk11)) (fun q => q (by rw [rm1 ek9 (by omega)]; exact pk15))) ekc2 (by omega)).2.1, fun j hj => by rw [(vE_y (T := pN n) (d := n 8) (t := n 0) (p := n 2) (a := za) (b := zb) (c := zc) (e := zd) (not6 (rg_in (a := 0) (b := 1) (by omega) ek3 (by omega) (by omega)) (fun q => q.elim ac5 (by rw [ekc8]; exact bc5)) (by rw [ek9]; exact nI_pos (by omega)) (nt_in ekc0 (by omega) ek181 (by omega)) (fun q => q (by rw [dv1 ek9 (by omega)]; exact pk11)) (fun q => q (by rw [rm1 ek9 (by omega)]; exact pk15))) ekc2 (by omega)).2.2]; exact tP_ok ksn_329 (e333.trans ek3.symm) e334 (by omega) j hj⟩⟩, rfl⟩
              · refine pm_aloadn hG dX12_person_102 rfl ?_
                refine pm_iconst (v := nI 4) hG dX12_person_103 (by decide) ?_
                refine pm_callV (As := [.int (nI 4)]) (rest := []) hG hR dX12_person_104 (lkX12_80 _ rfl) okV_X12_finds rfl rfl (m_finds (d := 2) (by decide) hn hz (by omega)) rfl rfl hdd (Nat.le_refl _) (Nat.le_refl _) (by decide) (pm_ki (fun v336 σ' cnt' hq => ?_))
                obtain ⟨⟨I337, A337, rfl⟩, rfl, fv336⟩ := hq
                exact pm_iret hG hF dX12_person_107 rfl (Nat.le_refl _) (Nat.le_refl _) ⟨_, rfl, ⟨_, _, _, rfl, hn, hr, ekc0.trans ekc0.symm, ekc8.trans ekc8.symm, ⟨fv336.trans ((by decide : (-1000000 : Int32) - nI 4 = -1000004).trans (vE_f (T := pN n) (d := n 8) (t := n 0) (p := n 2) (a := za) (b := zb) (c := zc) (e := zd) (not6 (rg_in (a := 0) (b := 1) (by omega) ek3 (by omega) (by omega)) (fun q => q.elim ac5 (by rw [ekc8]; exact bc5)) (by rw [ek9]; exact nI_pos (by omega)) (nt_in ekc0 (by omega) ek181 (by omega)) (fun q => q (by rw [dv1 ek9 (by omega)]; exact pk11)) (fun q => q (by rw [rm1 ek9 (by omega)]; exact pk15))) (ekc2.trans (congrArg nI (by omega)))).1), (vE_f (T := pN n) (d := n 8) (t := n 0) (p := n 2) (a := za) (b := zb) (c := zc) (e := zd) (not6 (rg_in (a := 0) (b := 1) (by omega) ek3 (by omega) (by omega)) (fun q => q.elim ac5 (by rw [ekc8]; exact bc5)) (by rw [ek9]; exact nI_pos (by omega)) (nt_in ekc0 (by omega) ek181 (by omega)) (fun q => q (by rw [dv1 ek9 (by omega)]; exact pk11)) (fun q => q (by rw [rm1 ek9 (by omega)]; exact pk15))) (ekc2.trans (congrArg nI (by omega)))).2.1, fun j _ => by rw [(vE_f (T := pN n) (d := n 8) (t := n 0) (p := n 2) (a := za) (b := zb) (c := zc) (e := zd) (not6 (rg_in (a := 0) (b := 1) (by omega) ek3 (by omega) (by omega)) (fun q => q.elim ac5 (by rw [ekc8]; exact bc5)) (by rw [ek9]; exact nI_pos (by omega)) (nt_in ekc0 (by omega) ek181 (by omega)) (fun q => q (by rw [dv1 ek9 (by omega)]; exact pk11)) (fun q => q (by rw [rm1 ek9 (by omega)]; exact pk15))) (ekc2.trans (congrArg nI (by omega)))).2.2]⟩⟩, rfl⟩
            · refine pm_ifN_eq (tgt := 73) hG dX12_person_66 rfl (by omega) (fun _ => ?_) (fun q => absurd q (by omega))
              refine pm_iconst (v := nI 0) hG dX12_person_73 (by decide) ?_
              refine pm_istoreXi (loc' := [some (.ref (B + 54)), some (.int za), some (.int zb), some (.int zc), some (.int zd), some (.int (nI 0)), none, none]) hG dX12_person_74 (by decide) (pm_c1b rfl) rfl ?_
              refine pm_iloadi hG dX12_person_76 rfl ?_
              refine pm_ifN_ne (tgt := 87) hG dX12_person_78 rfl (by omega) (fun q => absurd q (by omega)) (fun _ => ?_)
              refine pm_aloadn hG dX12_person_81 rfl ?_
              refine pm_iconst (v := nI 1) hG dX12_person_82 (by decide) ?_
              refine pm_callV (As := [.int (nI 1)]) (rest := []) hG hR dX12_person_83 (lkX12_80 _ rfl) okV_X12_finds rfl rfl (m_finds (d := 2) (by decide) hn hz (by omega)) rfl rfl hdd (Nat.le_refl _) (Nat.le_refl _) (by decide) (pm_ki (fun v338 σ' cnt' hq => ?_))
              obtain ⟨⟨I339, A339, rfl⟩, rfl, fv338⟩ := hq
              exact pm_iret hG hF dX12_person_86 rfl (Nat.le_refl _) (Nat.le_refl _) ⟨_, rfl, ⟨_, _, _, rfl, hn, hr, ekc0.trans ekc0.symm, ekc8.trans ekc8.symm, ⟨fv338.trans ((by decide : (-1000000 : Int32) - nI 1 = -1000001).trans (vE_n (T := pN n) (d := n 8) (t := n 0) (p := n 2) (a := za) (b := zb) (c := zc) (e := zd) (Or.inr (Or.inr (Or.inr (Or.inl (nt_out ekc0 (by omega) ntk181)))))).1), (vE_n (T := pN n) (d := n 8) (t := n 0) (p := n 2) (a := za) (b := zb) (c := zc) (e := zd) (Or.inr (Or.inr (Or.inr (Or.inl (nt_out ekc0 (by omega) ntk181)))))).2.1, fun j _ => by rw [(vE_n (T := pN n) (d := n 8) (t := n 0) (p := n 2) (a := za) (b := zb) (c := zc) (e := zd) (Or.inr (Or.inr (Or.inr (Or.inl (nt_out ekc0 (by omega) ntk181)))))).2.2]⟩⟩, rfl⟩
        · refine pm_ifN_eq (tgt := 73) hG dX12_person_42 rfl (by omega) (fun q => absurd q (by omega)) (fun _ => ?_)
          refine pm_aloadn hG dX12_person_45 rfl ?_
          refine pm_iloadn hG dX12_person_46 rfl ?_
          refine pm_top (v := nI k9) ek9 ?_
          refine pm_bipush (v := nI 100) hG dX12_person_47 (by decide) ?_
          refine pm_iremM hG dX12_person_49 (by omega) (by decide) (by decide) ?_
          refine pm_iconst (v := nI 1) hG dX12_person_50 (by decide) ?_
          refine pm_isub hG dX12_person_51 ?_
          refine pm_iconst (v := nI 0) hG dX12_person_52 (by decide) ?_
          refine pm_iloadn hG dX12_person_53 rfl ?_
          refine pm_callV (As := [.int ((nI ((k9 % 100))) - (nI 1)), .int (nI 0), .int zb]) (rest := []) hG hR dX12_person_54 (lkX12_94 _ rfl) okV_X12_isParent rfl rfl (m_isParent (d := 2) (by decide) hn hz) rfl rfl hdd (Nat.le_refl _) (Nat.le_refl _) (by decide) (pm_ki (fun v340 σ' cnt' hq => ?_))
          obtain ⟨rfl, rfl, hq⟩ := hq
          rcases hq with ⟨rfl, pk341⟩ | ⟨rfl, pk341, ek341 | ⟨k341, hk341, ek341⟩⟩
          · refine pm_ifN_eq (tgt := 73) hG dX12_person_57 rfl (by omega) (fun _ => ?_) (fun q => absurd q (by omega))
            refine pm_iconst (v := nI 0) hG dX12_person_73 (by decide) ?_
            refine pm_istoreXi (loc' := [some (.ref (B + 54)), some (.int za), some (.int zb), some (.int zc), some (.int zd), some (.int (nI 0)), none, none]) hG dX12_person_74 (by decide) (pm_c1b rfl) rfl ?_
            refine pm_iloadi hG dX12_person_76 rfl ?_
            refine pm_ifN_ne (tgt := 87) hG dX12_person_78 rfl (by omega) (fun q => absurd q (by omega)) (fun _ => ?_)
            refine pm_aloadn hG dX12_person_81 rfl ?_
            refine pm_iconst (v := nI 1) hG dX12_person_82 (by decide) ?_
            refine pm_callV (As := [.int (nI 1)]) (rest := []) hG hR dX12_person_83 (lkX12_80 _ rfl) okV_X12_finds rfl rfl (m_finds (d := 2) (by decide) hn hz (by omega)) rfl rfl hdd (Nat.le_refl _) (Nat.le_refl _) (by decide) (pm_ki (fun v342 σ' cnt' hq => ?_))
            obtain ⟨⟨I343, A343, rfl⟩, rfl, fv342⟩ := hq
            exact pm_iret hG hF dX12_person_86 rfl (Nat.le_refl _) (Nat.le_refl _) ⟨_, rfl, ⟨_, _, _, rfl, hn, hr, ekc0.trans ekc0.symm, ekc8.trans ekc8.symm, ⟨fv342.trans ((by decide : (-1000000 : Int32) - nI 1 = -1000001).trans (vE_n (T := pN n) (d := n 8) (t := n 0) (p := n 2) (a := za) (b := zb) (c := zc) (e := zd) (Or.inr (Or.inr (Or.inr (Or.inr (Or.inr (by rw [rm1 ek9 (by omega)]; exact pk341))))))).1), (vE_n (T := pN n) (d := n 8) (t := n 0) (p := n 2) (a := za) (b := zb) (c := zc) (e := zd) (Or.inr (Or.inr (Or.inr (Or.inr (Or.inr (by rw [rm1 ek9 (by omega)]; exact pk341))))))).2.1, fun j _ => by rw [(vE_n (T := pN n) (d := n 8) (t := n 0) (p := n 2) (a := za) (b := zb) (c := zc) (e := zd) (Or.inr (Or.inr (Or.inr (Or.inr (Or.inr (by rw [rm1 ek9 (by omega)]; exact pk341))))))).2.2]⟩⟩, rfl⟩
          · refine pm_ifN_eq (tgt := 73) hG dX12_person_57 rfl (by omega) (fun q => absurd q (by omega)) (fun _ => ?_)
            refine pm_aloadn hG dX12_person_60 rfl ?_
            refine pm_iloadi hG dX12_person_61 rfl ?_
            refine pm_callV (As := [.int zd]) (rest := []) hG hR dX12_person_63 (lkX12_84 _ rfl) okV_X12_isTown rfl rfl (m_isTown (d := 2) (by decide) ekc0 (by omega)) rfl rfl hdd (Nat.le_refl _) (Nat.le_refl _) (by decide) (pm_ki (fun v344 σ' cnt' hq => ?_))
            obtain ⟨hq, rfl, rfl⟩ := hq
            rcases hq with ⟨rfl, k346, hk346, ek346⟩ | ⟨rfl, ntk346⟩
            · refine pm_ifN_eq (tgt := 73) hG dX12_person_66 rfl (by omega) (fun q => absurd q (by omega)) (fun _ => ?_)
              refine pm_iconst (v := nI 1) hG dX12_person_69 (by decide) ?_
              refine pm_goto (tgt := 74) hG dX12_person_70 rfl ?_
              refine pm_istoreXi (loc' := [some (.ref (B + 54)), some (.int za), some (.int zb), some (.int zc), some (.int zd), some (.int (nI 1)), none, none]) hG dX12_person_74 (by decide) (pm_c1b rfl) rfl ?_
              refine pm_iloadi hG dX12_person_76 rfl ?_
              refine pm_ifN_ne (tgt := 87) hG dX12_person_78 rfl (by omega) (fun _ => ?_) (fun q => absurd q (by omega))
              refine pm_aloadn hG dX12_person_87 rfl ?_
              refine pm_getf hG dX12_person_88 (flX12_7 _ rfl) rfl rfl ?_
              refine pm_iconst (v := nI 2) hG dX12_person_91 (by decide) ?_
              refine pm_ialdN hG dX12_person_92 rfl (by decide) (by omega) ?_
              refine pm_top (v := nI kc2) ekc2 ?_
              refine pm_istoreXi (loc' := [some (.ref (B + 54)), some (.int za), some (.int zb), some (.int zc), some (.int zd), some (.int (nI 1)), some (.int (nI kc2)), none]) hG dX12_person_93 (by decide) (pm_c1b rfl) rfl ?_
              refine pm_iloadi hG dX12_person_95 rfl ?_
              refine pm_bipush (v := nI 20) hG dX12_person_97 (by decide) ?_
              refine pm_icmpN_ne (tgt := 108) hG dX12_person_99 rfl (by omega) (by omega) (fun c347 => ?_) (fun c347 => ?_)
              · refine pm_aloadn hG dX12_person_108 rfl ?_
                refine pm_getf hG dX12_person_109 (flX12_7 _ rfl) rfl rfl ?_
                refine pm_iconst (v := nI 2) hG dX12_person_112 (by decide) ?_
                refine pm_dup2 hG dX12_person_113 rfl rfl ?_
                refine pm_ialdN hG dX12_person_114 rfl (by decide) (by omega) ?_
                refine pm_top (v := nI kc2) ekc2 ?_
                refine pm_iconst (v := nI 1) hG dX12_person_115 (by decide) ?_
                refine pm_iaddN (c := kc2 + 1) hG dX12_person_116 (by omega) ?_
                refine pm_iastN hG dX12_person_117 rfl (by decide) (by omega) ?_
                refine mdn_now (fun n_348 en_348 => ?_)
                have hnn_348 := KI.w en_348 hn (okv_n (show kd 2 = (1, 21, true) by decide) (by omega))
                have hrn_348 := NRx.pers en_348 hr ekc0 (by omega) ekc2 (by omega)
                have ksn_348 := KSh.w (h := 14 * kc2 + 110) en_348 KSh.rf (by unfold tS; omega)
                have e349 : n_348 0 = nI kc0 := by rw [en_348, pk_un (by omega)]; exact ekc0
                have e350 : n_348 8 = nI kc8 := by rw [en_348, pk_un (by omega)]; exact ekc8
                have e351 : n_348 2 = nI (kc2 + 1) := by rw [en_348, pk_us]
                refine pm_iconst (v := nI 0) hG dX12_person_118 (by decide) ?_
                refine pm_istoreXi (loc' := [some (.ref (B + 54)), some (.int za), some (.int zb), some (.int zc), some (.int zd), some (.int (nI 1)), some (.int (nI kc2)), some (.int (nI 0))]) hG dX12_person_119 (by decide) (pm_c1b rfl) rfl ?_
                refine pm_iloadi hG dX12_person_121 rfl ?_
                refine pm_bipush (v := nI 14) hG dX12_person_123 (by decide) ?_
                refine pm_icmpN_ge (tgt := 143) hG dX12_person_125 rfl (by omega) (by omega) (fun q => absurd q (by omega)) (fun _ => ?_)
                refine pm_aloadn hG dX12_person_128 rfl ?_
                refine pm_iloadi hG dX12_person_129 rfl ?_
                refine pm_iloadi hG dX12_person_131 rfl ?_
                refine pm_iconst (v := nI 0) hG dX12_person_133 (by decide) ?_
                refine pm_callV (As := [.int (nI kc2), .int (nI 0), .int (nI 0)]) (rest := []) hG hR dX12_person_134 (lkX12_97 _ rfl) okV_X12_sets rfl rfl (m_sets (d := 2) (e := 14 * kc2 + 110) (by omega) (by omega) (by omega)) rfl rfl hdd (Nat.le_refl _) (Nat.le_refl _) (by decide) (pm_kv (fun σ' cnt' hq => ?_))
                obtain ⟨rfl, rfl⟩ := hq
                obtain ⟨n_352, en_352⟩ : ∃ f : Nat → Int32, f = upd n_348 (14 * kc2 + 110) (nI 0) := ⟨_, rfl⟩
                rw [← en_352]
                have hnn_352 := KI.w en_352 hnn_348 (okv_f (show kd (14 * kc2 + 110) = (0, 0, false) from (kd_P (k := kc2) (c := 0) (by omega) (by omega) (by decide))))
                have hrn_352 := NRx.w en_352 hrn_348 (by rw [(show kd (14 * kc2 + 110) = (0, 0, false) from (kd_P (k := kc2) (c := 0) (by omega) (by omega) (by decide)))])
                have ksn_352 := KSh.w (h := 14 * kc2 + 110) en_352 ksn_348 (by unfold tS; omega)
                have e353 : n_352 0 = nI kc0 := by rw [en_352, pk_un (by omega)]; exact e349
                have e354 : n_352 8 = nI kc8 := by rw [en_352, pk_un (by omega)]; exact e350
                have e355 : n_352 2 = nI (kc2 + 1) := by rw [en_352, pk_un (by omega)]; exact e351
                have e356 : n_352 (14 * kc2 + 110) = nI 0 := by rw [en_352, pk_us]
                refine pm_iincX (v := nI 1) (loc' := [some (.ref (B + 54)), some (.int za), some (.int zb), some (.int zc), some (.int zd), some (.int (nI 1)), some (.int (nI kc2)), some (.int (nI 1))]) hG dX12_person_137 rfl (nI_1 _) (by decide) (pm_c1b rfl) rfl ?_
                refine pm_goto (tgt := 121) hG dX12_person_140 rfl ?_
                refine pm_iloadi hG dX12_person_121 rfl ?_
                refine pm_bipush (v := nI 14) hG dX12_person_123 (by decide) ?_
                refine pm_icmpN_ge (tgt := 143) hG dX12_person_125 rfl (by omega) (by omega) (fun q => absurd q (by omega)) (fun _ => ?_)
                refine pm_aloadn hG dX12_person_128 rfl ?_
                refine pm_iloadi hG dX12_person_129 rfl ?_
                refine pm_iloadi hG dX12_person_131 rfl ?_
                refine pm_iconst (v := nI 0) hG dX12_person_133 (by decide) ?_
                refine pm_callV (As := [.int (nI kc2), .int (nI 1), .int (nI 0)]) (rest := []) hG hR dX12_person_134 (lkX12_97 _ rfl) okV_X12_sets rfl rfl (m_sets (d := 2) (e := 14 * kc2 + 111) (by omega) (by omega) (by omega)) rfl rfl hdd (Nat.le_refl _) (Nat.le_refl _) (by decide) (pm_kv (fun σ' cnt' hq => ?_))
                obtain ⟨rfl, rfl⟩ := hq
                obtain ⟨n_357, en_357⟩ : ∃ f : Nat → Int32, f = upd n_352 (14 * kc2 + 111) (nI 0) := ⟨_, rfl⟩
                rw [← en_357]
                have hnn_357 := KI.w en_357 hnn_352 (okv_f (show kd (14 * kc2 + 111) = (0, 0, false) from (kd_P (k := kc2) (c := 1) (by omega) (by omega) (by decide))))
                have hrn_357 := NRx.w en_357 hrn_352 (by rw [(show kd (14 * kc2 + 111) = (0, 0, false) from (kd_P (k := kc2) (c := 1) (by omega) (by omega) (by decide)))])
                have ksn_357 := KSh.w (h := 14 * kc2 + 110) en_357 ksn_352 (by unfold tS; omega)
                have e358 : n_357 0 = nI kc0 := by rw [en_357, pk_un (by omega)]; exact e353
                have e359 : n_357 8 = nI kc8 := by rw [en_357, pk_un (by omega)]; exact e354
                have e360 : n_357 2 = nI (kc2 + 1) := by rw [en_357, pk_un (by omega)]; exact e355
                have e361 : n_357 (14 * kc2 + 110) = nI 0 := by rw [en_357, pk_un (by omega)]; exact e356
                have e362 : n_357 (14 * kc2 + 111) = nI 0 := by rw [en_357, pk_us]
                refine pm_iincX (v := nI 2) (loc' := [some (.ref (B + 54)), some (.int za), some (.int zb), some (.int zc), some (.int zd), some (.int (nI 1)), some (.int (nI kc2)), some (.int (nI 2))]) hG dX12_person_137 rfl (nI_1 _) (by decide) (pm_c1b rfl) rfl ?_
                refine pm_goto (tgt := 121) hG dX12_person_140 rfl ?_
                refine pm_iloadi hG dX12_person_121 rfl ?_
                refine pm_bipush (v := nI 14) hG dX12_person_123 (by decide) ?_
                refine pm_icmpN_ge (tgt := 143) hG dX12_person_125 rfl (by omega) (by omega) (fun q => absurd q (by omega)) (fun _ => ?_)
                refine pm_aloadn hG dX12_person_128 rfl ?_
                refine pm_iloadi hG dX12_person_129 rfl ?_
                refine pm_iloadi hG dX12_person_131 rfl ?_
                refine pm_iconst (v := nI 0) hG dX12_person_133 (by decide) ?_
                refine pm_callV (As := [.int (nI kc2), .int (nI 2), .int (nI 0)]) (rest := []) hG hR dX12_person_134 (lkX12_97 _ rfl) okV_X12_sets rfl rfl (m_sets (d := 2) (e := 14 * kc2 + 112) (by omega) (by omega) (by omega)) rfl rfl hdd (Nat.le_refl _) (Nat.le_refl _) (by decide) (pm_kv (fun σ' cnt' hq => ?_))
                obtain ⟨rfl, rfl⟩ := hq
                obtain ⟨n_363, en_363⟩ : ∃ f : Nat → Int32, f = upd n_357 (14 * kc2 + 112) (nI 0) := ⟨_, rfl⟩
                rw [← en_363]
                have hnn_363 := KI.w en_363 hnn_357 (okv_o (show kd (14 * kc2 + 112) = (2, 20, false) from (kd_P (k := kc2) (c := 2) (by omega) (by omega) (by decide))) (by omega))
                have hrn_363 := NRx.w en_363 hrn_357 (by rw [(show kd (14 * kc2 + 112) = (2, 20, false) from (kd_P (k := kc2) (c := 2) (by omega) (by omega) (by decide)))])
                have ksn_363 := KSh.w (h := 14 * kc2 + 110) en_363 ksn_357 (by unfold tS; omega)
                have e364 : n_363 0 = nI kc0 := by rw [en_363, pk_un (by omega)]; exact e358
                have e365 : n_363 8 = nI kc8 := by rw [en_363, pk_un (by omega)]; exact e359
                have e366 : n_363 2 = nI (kc2 + 1) := by rw [en_363, pk_un (by omega)]; exact e360
                have e367 : n_363 (14 * kc2 + 110) = nI 0 := by rw [en_363, pk_un (by omega)]; exact e361
                have e368 : n_363 (14 * kc2 + 111) = nI 0 := by rw [en_363, pk_un (by omega)]; exact e362
                have e369 : n_363 (14 * kc2 + 112) = nI 0 := by rw [en_363, pk_us]
                refine pm_iincX (v := nI 3) (loc' := [some (.ref (B + 54)), some (.int za), some (.int zb), some (.int zc), some (.int zd), some (.int (nI 1)), some (.int (nI kc2)), some (.int (nI 3))]) hG dX12_person_137 rfl (nI_1 _) (by decide) (pm_c1b rfl) rfl ?_
                refine pm_goto (tgt := 121) hG dX12_person_140 rfl ?_
                refine pm_iloadi hG dX12_person_121 rfl ?_
                refine pm_bipush (v := nI 14) hG dX12_person_123 (by decide) ?_
                refine pm_icmpN_ge (tgt := 143) hG dX12_person_125 rfl (by omega) (by omega) (fun q => absurd q (by omega)) (fun _ => ?_)
                refine pm_aloadn hG dX12_person_128 rfl ?_
                refine pm_iloadi hG dX12_person_129 rfl ?_
                refine pm_iloadi hG dX12_person_131 rfl ?_
                refine pm_iconst (v := nI 0) hG dX12_person_133 (by decide) ?_
                refine pm_callV (As := [.int (nI kc2), .int (nI 3), .int (nI 0)]) (rest := []) hG hR dX12_person_134 (lkX12_97 _ rfl) okV_X12_sets rfl rfl (m_sets (d := 2) (e := 14 * kc2 + 113) (by omega) (by omega) (by omega)) rfl rfl hdd (Nat.le_refl _) (Nat.le_refl _) (by decide) (pm_kv (fun σ' cnt' hq => ?_))
                obtain ⟨rfl, rfl⟩ := hq
                obtain ⟨n_370, en_370⟩ : ∃ f : Nat → Int32, f = upd n_363 (14 * kc2 + 113) (nI 0) := ⟨_, rfl⟩
                rw [← en_370]
                have hnn_370 := KI.w en_370 hnn_363 (okv_o (show kd (14 * kc2 + 113) = (2, 20, false) from (kd_P (k := kc2) (c := 3) (by omega) (by omega) (by decide))) (by omega))
                have hrn_370 := NRx.w en_370 hrn_363 (by rw [(show kd (14 * kc2 + 113) = (2, 20, false) from (kd_P (k := kc2) (c := 3) (by omega) (by omega) (by decide)))])
                have ksn_370 := KSh.w (h := 14 * kc2 + 110) en_370 ksn_363 (by unfold tS; omega)
                have e371 : n_370 0 = nI kc0 := by rw [en_370, pk_un (by omega)]; exact e364
                have e372 : n_370 8 = nI kc8 := by rw [en_370, pk_un (by omega)]; exact e365
                have e373 : n_370 2 = nI (kc2 + 1) := by rw [en_370, pk_un (by omega)]; exact e366
                have e374 : n_370 (14 * kc2 + 110) = nI 0 := by rw [en_370, pk_un (by omega)]; exact e367
                have e375 : n_370 (14 * kc2 + 111) = nI 0 := by rw [en_370, pk_un (by omega)]; exact e368
                have e376 : n_370 (14 * kc2 + 113) = nI 0 := by rw [en_370, pk_us]
                refine pm_iincX (v := nI 4) (loc' := [some (.ref (B + 54)), some (.int za), some (.int zb), some (.int zc), some (.int zd), some (.int (nI 1)), some (.int (nI kc2)), some (.int (nI 4))]) hG dX12_person_137 rfl (nI_1 _) (by decide) (pm_c1b rfl) rfl ?_
                refine pm_goto (tgt := 121) hG dX12_person_140 rfl ?_
                refine pm_iloadi hG dX12_person_121 rfl ?_
                refine pm_bipush (v := nI 14) hG dX12_person_123 (by decide) ?_
                refine pm_icmpN_ge (tgt := 143) hG dX12_person_125 rfl (by omega) (by omega) (fun q => absurd q (by omega)) (fun _ => ?_)
                refine pm_aloadn hG dX12_person_128 rfl ?_
                refine pm_iloadi hG dX12_person_129 rfl ?_
                refine pm_iloadi hG dX12_person_131 rfl ?_
                refine pm_iconst (v := nI 0) hG dX12_person_133 (by decide) ?_
                refine pm_callV (As := [.int (nI kc2), .int (nI 4), .int (nI 0)]) (rest := []) hG hR dX12_person_134 (lkX12_97 _ rfl) okV_X12_sets rfl rfl (m_sets (d := 2) (e := 14 * kc2 + 114) (by omega) (by omega) (by omega)) rfl rfl hdd (Nat.le_refl _) (Nat.le_refl _) (by decide) (pm_kv (fun σ' cnt' hq => ?_))
                obtain ⟨rfl, rfl⟩ := hq
                obtain ⟨n_377, en_377⟩ : ∃ f : Nat → Int32, f = upd n_370 (14 * kc2 + 114) (nI 0) := ⟨_, rfl⟩
                rw [← en_377]
                have hnn_377 := KI.w en_377 hnn_370 (okv_o (show kd (14 * kc2 + 114) = (2, 10, false) from (kd_P (k := kc2) (c := 4) (by omega) (by omega) (by decide))) (by omega))
                have hrn_377 := NRx.w en_377 hrn_370 (by rw [(show kd (14 * kc2 + 114) = (2, 10, false) from (kd_P (k := kc2) (c := 4) (by omega) (by omega) (by decide)))])
                have ksn_377 := KSh.w (h := 14 * kc2 + 110) en_377 ksn_370 (by unfold tS; omega)
                have e378 : n_377 0 = nI kc0 := by rw [en_377, pk_un (by omega)]; exact e371
                have e379 : n_377 8 = nI kc8 := by rw [en_377, pk_un (by omega)]; exact e372
                have e380 : n_377 2 = nI (kc2 + 1) := by rw [en_377, pk_un (by omega)]; exact e373
                have e381 : n_377 (14 * kc2 + 110) = nI 0 := by rw [en_377, pk_un (by omega)]; exact e374
                have e382 : n_377 (14 * kc2 + 111) = nI 0 := by rw [en_377, pk_un (by omega)]; exact e375
                have e383 : n_377 (14 * kc2 + 114) = nI 0 := by rw [en_377, pk_us]
                refine pm_iincX (v := nI 5) (loc' := [some (.ref (B + 54)), some (.int za), some (.int zb), some (.int zc), some (.int zd), some (.int (nI 1)), some (.int (nI kc2)), some (.int (nI 5))]) hG dX12_person_137 rfl (nI_1 _) (by decide) (pm_c1b rfl) rfl ?_
                refine pm_goto (tgt := 121) hG dX12_person_140 rfl ?_
                refine pm_iloadi hG dX12_person_121 rfl ?_
                refine pm_bipush (v := nI 14) hG dX12_person_123 (by decide) ?_
                refine pm_icmpN_ge (tgt := 143) hG dX12_person_125 rfl (by omega) (by omega) (fun q => absurd q (by omega)) (fun _ => ?_)
                refine pm_aloadn hG dX12_person_128 rfl ?_
                refine pm_iloadi hG dX12_person_129 rfl ?_
                refine pm_iloadi hG dX12_person_131 rfl ?_
                refine pm_iconst (v := nI 0) hG dX12_person_133 (by decide) ?_
                refine pm_callV (As := [.int (nI kc2), .int (nI 5), .int (nI 0)]) (rest := []) hG hR dX12_person_134 (lkX12_97 _ rfl) okV_X12_sets rfl rfl (m_sets (d := 2) (e := 14 * kc2 + 115) (by omega) (by omega) (by omega)) rfl rfl hdd (Nat.le_refl _) (Nat.le_refl _) (by decide) (pm_kv (fun σ' cnt' hq => ?_))
                obtain ⟨rfl, rfl⟩ := hq
                obtain ⟨n_384, en_384⟩ : ∃ f : Nat → Int32, f = upd n_377 (14 * kc2 + 115) (nI 0) := ⟨_, rfl⟩
                rw [← en_384]
                have hnn_384 := KI.w en_384 hnn_377 (okv_n (show kd (14 * kc2 + 115) = (1, 10, false) from (kd_P (k := kc2) (c := 5) (by omega) (by omega) (by decide))) (by omega))
                have hrn_384 := NRx.w en_384 hrn_377 (by rw [(show kd (14 * kc2 + 115) = (1, 10, false) from (kd_P (k := kc2) (c := 5) (by omega) (by omega) (by decide)))])
                have ksn_384 := KSh.w (h := 14 * kc2 + 110) en_384 ksn_377 (by unfold tS; omega)
                have e385 : n_384 0 = nI kc0 := by rw [en_384, pk_un (by omega)]; exact e378
                have e386 : n_384 8 = nI kc8 := by rw [en_384, pk_un (by omega)]; exact e379
                have e387 : n_384 2 = nI (kc2 + 1) := by rw [en_384, pk_un (by omega)]; exact e380
                have e388 : n_384 (14 * kc2 + 110) = nI 0 := by rw [en_384, pk_un (by omega)]; exact e381
                have e389 : n_384 (14 * kc2 + 111) = nI 0 := by rw [en_384, pk_un (by omega)]; exact e382
                have e390 : n_384 (14 * kc2 + 115) = nI 0 := by rw [en_384, pk_us]
                refine pm_iincX (v := nI 6) (loc' := [some (.ref (B + 54)), some (.int za), some (.int zb), some (.int zc), some (.int zd), some (.int (nI 1)), some (.int (nI kc2)), some (.int (nI 6))]) hG dX12_person_137 rfl (nI_1 _) (by decide) (pm_c1b rfl) rfl ?_
                refine pm_goto (tgt := 121) hG dX12_person_140 rfl ?_
                refine pm_iloadi hG dX12_person_121 rfl ?_
                refine pm_bipush (v := nI 14) hG dX12_person_123 (by decide) ?_
                refine pm_icmpN_ge (tgt := 143) hG dX12_person_125 rfl (by omega) (by omega) (fun q => absurd q (by omega)) (fun _ => ?_)
                refine pm_aloadn hG dX12_person_128 rfl ?_
                refine pm_iloadi hG dX12_person_129 rfl ?_
                refine pm_iloadi hG dX12_person_131 rfl ?_
                refine pm_iconst (v := nI 0) hG dX12_person_133 (by decide) ?_
                refine pm_callV (As := [.int (nI kc2), .int (nI 6), .int (nI 0)]) (rest := []) hG hR dX12_person_134 (lkX12_97 _ rfl) okV_X12_sets rfl rfl (m_sets (d := 2) (e := 14 * kc2 + 116) (by omega) (by omega) (by omega)) rfl rfl hdd (Nat.le_refl _) (Nat.le_refl _) (by decide) (pm_kv (fun σ' cnt' hq => ?_))
                obtain ⟨rfl, rfl⟩ := hq
                obtain ⟨n_391, en_391⟩ : ∃ f : Nat → Int32, f = upd n_384 (14 * kc2 + 116) (nI 0) := ⟨_, rfl⟩
                rw [← en_391]
                have hnn_391 := KI.w en_391 hnn_384 (okv_f (show kd (14 * kc2 + 116) = (0, 0, false) from (kd_P (k := kc2) (c := 6) (by omega) (by omega) (by decide))))
                have hrn_391 := NRx.w en_391 hrn_384 (by rw [(show kd (14 * kc2 + 116) = (0, 0, false) from (kd_P (k := kc2) (c := 6) (by omega) (by omega) (by decide)))])
                have ksn_391 := KSh.w (h := 14 * kc2 + 110) en_391 ksn_384 (by unfold tS; omega)
                have e392 : n_391 0 = nI kc0 := by rw [en_391, pk_un (by omega)]; exact e385
                have e393 : n_391 8 = nI kc8 := by rw [en_391, pk_un (by omega)]; exact e386
                have e394 : n_391 2 = nI (kc2 + 1) := by rw [en_391, pk_un (by omega)]; exact e387
                have e395 : n_391 (14 * kc2 + 110) = nI 0 := by rw [en_391, pk_un (by omega)]; exact e388
                have e396 : n_391 (14 * kc2 + 111) = nI 0 := by rw [en_391, pk_un (by omega)]; exact e389
                have e397 : n_391 (14 * kc2 + 116) = nI 0 := by rw [en_391, pk_us]
                refine pm_iincX (v := nI 7) (loc' := [some (.ref (B + 54)), some (.int za), some (.int zb), some (.int zc), some (.int zd), some (.int (nI 1)), some (.int (nI kc2)), some (.int (nI 7))]) hG dX12_person_137 rfl (nI_1 _) (by decide) (pm_c1b rfl) rfl ?_
                refine pm_goto (tgt := 121) hG dX12_person_140 rfl ?_
                refine pm_iloadi hG dX12_person_121 rfl ?_
                refine pm_bipush (v := nI 14) hG dX12_person_123 (by decide) ?_
                refine pm_icmpN_ge (tgt := 143) hG dX12_person_125 rfl (by omega) (by omega) (fun q => absurd q (by omega)) (fun _ => ?_)
                refine pm_aloadn hG dX12_person_128 rfl ?_
                refine pm_iloadi hG dX12_person_129 rfl ?_
                refine pm_iloadi hG dX12_person_131 rfl ?_
                refine pm_iconst (v := nI 0) hG dX12_person_133 (by decide) ?_
                refine pm_callV (As := [.int (nI kc2), .int (nI 7), .int (nI 0)]) (rest := []) hG hR dX12_person_134 (lkX12_97 _ rfl) okV_X12_sets rfl rfl (m_sets (d := 2) (e := 14 * kc2 + 117) (by omega) (by omega) (by omega)) rfl rfl hdd (Nat.le_refl _) (Nat.le_refl _) (by decide) (pm_kv (fun σ' cnt' hq => ?_))
                obtain ⟨rfl, rfl⟩ := hq
                obtain ⟨n_398, en_398⟩ : ∃ f : Nat → Int32, f = upd n_391 (14 * kc2 + 117) (nI 0) := ⟨_, rfl⟩
                rw [← en_398]
                have hnn_398 := KI.w en_398 hnn_391 (okv_f (show kd (14 * kc2 + 117) = (0, 0, false) from (kd_P (k := kc2) (c := 7) (by omega) (by omega) (by decide))))
                have hrn_398 := NRx.w en_398 hrn_391 (by rw [(show kd (14 * kc2 + 117) = (0, 0, false) from (kd_P (k := kc2) (c := 7) (by omega) (by omega) (by decide)))])
                have ksn_398 := KSh.w (h := 14 * kc2 + 110) en_398 ksn_391 (by unfold tS; omega)
                have e399 : n_398 0 = nI kc0 := by rw [en_398, pk_un (by omega)]; exact e392
                have e400 : n_398 8 = nI kc8 := by rw [en_398, pk_un (by omega)]; exact e393
                have e401 : n_398 2 = nI (kc2 + 1) := by rw [en_398, pk_un (by omega)]; exact e394
                have e402 : n_398 (14 * kc2 + 110) = nI 0 := by rw [en_398, pk_un (by omega)]; exact e395
                have e403 : n_398 (14 * kc2 + 111) = nI 0 := by rw [en_398, pk_un (by omega)]; exact e396
                have e404 : n_398 (14 * kc2 + 117) = nI 0 := by rw [en_398, pk_us]
                refine pm_iincX (v := nI 8) (loc' := [some (.ref (B + 54)), some (.int za), some (.int zb), some (.int zc), some (.int zd), some (.int (nI 1)), some (.int (nI kc2)), some (.int (nI 8))]) hG dX12_person_137 rfl (nI_1 _) (by decide) (pm_c1b rfl) rfl ?_
                refine pm_goto (tgt := 121) hG dX12_person_140 rfl ?_
                refine pm_iloadi hG dX12_person_121 rfl ?_
                refine pm_bipush (v := nI 14) hG dX12_person_123 (by decide) ?_
                refine pm_icmpN_ge (tgt := 143) hG dX12_person_125 rfl (by omega) (by omega) (fun q => absurd q (by omega)) (fun _ => ?_)
                refine pm_aloadn hG dX12_person_128 rfl ?_
                refine pm_iloadi hG dX12_person_129 rfl ?_
                refine pm_iloadi hG dX12_person_131 rfl ?_
                refine pm_iconst (v := nI 0) hG dX12_person_133 (by decide) ?_
                refine pm_callV (As := [.int (nI kc2), .int (nI 8), .int (nI 0)]) (rest := []) hG hR dX12_person_134 (lkX12_97 _ rfl) okV_X12_sets rfl rfl (m_sets (d := 2) (e := 14 * kc2 + 118) (by omega) (by omega) (by omega)) rfl rfl hdd (Nat.le_refl _) (Nat.le_refl _) (by decide) (pm_kv (fun σ' cnt' hq => ?_))
                obtain ⟨rfl, rfl⟩ := hq
                obtain ⟨n_405, en_405⟩ : ∃ f : Nat → Int32, f = upd n_398 (14 * kc2 + 118) (nI 0) := ⟨_, rfl⟩
                rw [← en_405]
                have hnn_405 := KI.w en_405 hnn_398 (okv_f (show kd (14 * kc2 + 118) = (0, 0, false) from (kd_P (k := kc2) (c := 8) (by omega) (by omega) (by decide))))
                have hrn_405 := NRx.w en_405 hrn_398 (by rw [(show kd (14 * kc2 + 118) = (0, 0, false) from (kd_P (k := kc2) (c := 8) (by omega) (by omega) (by decide)))])
                have ksn_405 := KSh.w (h := 14 * kc2 + 110) en_405 ksn_398 (by unfold tS; omega)
                have e406 : n_405 0 = nI kc0 := by rw [en_405, pk_un (by omega)]; exact e399
                have e407 : n_405 8 = nI kc8 := by rw [en_405, pk_un (by omega)]; exact e400
                have e408 : n_405 2 = nI (kc2 + 1) := by rw [en_405, pk_un (by omega)]; exact e401
                have e409 : n_405 (14 * kc2 + 110) = nI 0 := by rw [en_405, pk_un (by omega)]; exact e402
                have e410 : n_405 (14 * kc2 + 111) = nI 0 := by rw [en_405, pk_un (by omega)]; exact e403
                have e411 : n_405 (14 * kc2 + 118) = nI 0 := by rw [en_405, pk_us]
                refine pm_iincX (v := nI 9) (loc' := [some (.ref (B + 54)), some (.int za), some (.int zb), some (.int zc), some (.int zd), some (.int (nI 1)), some (.int (nI kc2)), some (.int (nI 9))]) hG dX12_person_137 rfl (nI_1 _) (by decide) (pm_c1b rfl) rfl ?_
                refine pm_goto (tgt := 121) hG dX12_person_140 rfl ?_
                refine pm_iloadi hG dX12_person_121 rfl ?_
                refine pm_bipush (v := nI 14) hG dX12_person_123 (by decide) ?_
                refine pm_icmpN_ge (tgt := 143) hG dX12_person_125 rfl (by omega) (by omega) (fun q => absurd q (by omega)) (fun _ => ?_)
                refine pm_aloadn hG dX12_person_128 rfl ?_
                refine pm_iloadi hG dX12_person_129 rfl ?_
                refine pm_iloadi hG dX12_person_131 rfl ?_
                refine pm_iconst (v := nI 0) hG dX12_person_133 (by decide) ?_
                refine pm_callV (As := [.int (nI kc2), .int (nI 9), .int (nI 0)]) (rest := []) hG hR dX12_person_134 (lkX12_97 _ rfl) okV_X12_sets rfl rfl (m_sets (d := 2) (e := 14 * kc2 + 119) (by omega) (by omega) (by omega)) rfl rfl hdd (Nat.le_refl _) (Nat.le_refl _) (by decide) (pm_kv (fun σ' cnt' hq => ?_))
                obtain ⟨rfl, rfl⟩ := hq
                obtain ⟨n_412, en_412⟩ : ∃ f : Nat → Int32, f = upd n_405 (14 * kc2 + 119) (nI 0) := ⟨_, rfl⟩
                rw [← en_412]
                have hnn_412 := KI.w en_412 hnn_405 (okv_o (show kd (14 * kc2 + 119) = (2, 2001, false) from (kd_P (k := kc2) (c := 9) (by omega) (by omega) (by decide))) (by omega))
                have hrn_412 := NRx.w en_412 hrn_405 (by rw [(show kd (14 * kc2 + 119) = (2, 2001, false) from (kd_P (k := kc2) (c := 9) (by omega) (by omega) (by decide)))])
                have ksn_412 := KSh.w (h := 14 * kc2 + 110) en_412 ksn_405 (by unfold tS; omega)
                have e413 : n_412 0 = nI kc0 := by rw [en_412, pk_un (by omega)]; exact e406
                have e414 : n_412 8 = nI kc8 := by rw [en_412, pk_un (by omega)]; exact e407
                have e415 : n_412 2 = nI (kc2 + 1) := by rw [en_412, pk_un (by omega)]; exact e408
                have e416 : n_412 (14 * kc2 + 110) = nI 0 := by rw [en_412, pk_un (by omega)]; exact e409
                have e417 : n_412 (14 * kc2 + 111) = nI 0 := by rw [en_412, pk_un (by omega)]; exact e410
                have e418 : n_412 (14 * kc2 + 119) = nI 0 := by rw [en_412, pk_us]
                refine pm_iincX (v := nI 10) (loc' := [some (.ref (B + 54)), some (.int za), some (.int zb), some (.int zc), some (.int zd), some (.int (nI 1)), some (.int (nI kc2)), some (.int (nI 10))]) hG dX12_person_137 rfl (nI_1 _) (by decide) (pm_c1b rfl) rfl ?_
                refine pm_goto (tgt := 121) hG dX12_person_140 rfl ?_
                refine pm_iloadi hG dX12_person_121 rfl ?_
                refine pm_bipush (v := nI 14) hG dX12_person_123 (by decide) ?_
                refine pm_icmpN_ge (tgt := 143) hG dX12_person_125 rfl (by omega) (by omega) (fun q => absurd q (by omega)) (fun _ => ?_)
                refine pm_aloadn hG dX12_person_128 rfl ?_
                refine pm_iloadi hG dX12_person_129 rfl ?_
                refine pm_iloadi hG dX12_person_131 rfl ?_
                refine pm_iconst (v := nI 0) hG dX12_person_133 (by decide) ?_
                refine pm_callV (As := [.int (nI kc2), .int (nI 10), .int (nI 0)]) (rest := []) hG hR dX12_person_134 (lkX12_97 _ rfl) okV_X12_sets rfl rfl (m_sets (d := 2) (e := 14 * kc2 + 120) (by omega) (by omega) (by omega)) rfl rfl hdd (Nat.le_refl _) (Nat.le_refl _) (by decide) (pm_kv (fun σ' cnt' hq => ?_))
                obtain ⟨rfl, rfl⟩ := hq
                obtain ⟨n_419, en_419⟩ : ∃ f : Nat → Int32, f = upd n_412 (14 * kc2 + 120) (nI 0) := ⟨_, rfl⟩
                rw [← en_419]
                have hnn_419 := KI.w en_419 hnn_412 (okv_f (show kd (14 * kc2 + 120) = (0, 0, false) from (kd_P (k := kc2) (c := 10) (by omega) (by omega) (by decide))))
                have hrn_419 := NRx.w en_419 hrn_412 (by rw [(show kd (14 * kc2 + 120) = (0, 0, false) from (kd_P (k := kc2) (c := 10) (by omega) (by omega) (by decide)))])
                have ksn_419 := KSh.w (h := 14 * kc2 + 110) en_419 ksn_412 (by unfold tS; omega)
                have e420 : n_419 0 = nI kc0 := by rw [en_419, pk_un (by omega)]; exact e413
                have e421 : n_419 8 = nI kc8 := by rw [en_419, pk_un (by omega)]; exact e414
                have e422 : n_419 2 = nI (kc2 + 1) := by rw [en_419, pk_un (by omega)]; exact e415
                have e423 : n_419 (14 * kc2 + 110) = nI 0 := by rw [en_419, pk_un (by omega)]; exact e416
                have e424 : n_419 (14 * kc2 + 111) = nI 0 := by rw [en_419, pk_un (by omega)]; exact e417
                have e425 : n_419 (14 * kc2 + 120) = nI 0 := by rw [en_419, pk_us]
                refine pm_iincX (v := nI 11) (loc' := [some (.ref (B + 54)), some (.int za), some (.int zb), some (.int zc), some (.int zd), some (.int (nI 1)), some (.int (nI kc2)), some (.int (nI 11))]) hG dX12_person_137 rfl (nI_1 _) (by decide) (pm_c1b rfl) rfl ?_
                refine pm_goto (tgt := 121) hG dX12_person_140 rfl ?_
                refine pm_iloadi hG dX12_person_121 rfl ?_
                refine pm_bipush (v := nI 14) hG dX12_person_123 (by decide) ?_
                refine pm_icmpN_ge (tgt := 143) hG dX12_person_125 rfl (by omega) (by omega) (fun q => absurd q (by omega)) (fun _ => ?_)
                refine pm_aloadn hG dX12_person_128 rfl ?_
                refine pm_iloadi hG dX12_person_129 rfl ?_
                refine pm_iloadi hG dX12_person_131 rfl ?_
                refine pm_iconst (v := nI 0) hG dX12_person_133 (by decide) ?_
                refine pm_callV (As := [.int (nI kc2), .int (nI 11), .int (nI 0)]) (rest := []) hG hR dX12_person_134 (lkX12_97 _ rfl) okV_X12_sets rfl rfl (m_sets (d := 2) (e := 14 * kc2 + 121) (by omega) (by omega) (by omega)) rfl rfl hdd (Nat.le_refl _) (Nat.le_refl _) (by decide) (pm_kv (fun σ' cnt' hq => ?_))
                obtain ⟨rfl, rfl⟩ := hq
                obtain ⟨n_426, en_426⟩ : ∃ f : Nat → Int32, f = upd n_419 (14 * kc2 + 121) (nI 0) := ⟨_, rfl⟩
                rw [← en_426]
                have hnn_426 := KI.w en_426 hnn_419 (okv_n (show kd (14 * kc2 + 121) = (1, 2, true) from (kd_P (k := kc2) (c := 11) (by omega) (by omega) (by decide))) (by omega))
                have hrn_426 := NRx.unseat (p := kc2) en_426 hrn_419 (by omega)
                have ksn_426 := KSh.w (h := 14 * kc2 + 110) en_426 ksn_419 (by unfold tS; omega)
                have e427 : n_426 0 = nI kc0 := by rw [en_426, pk_un (by omega)]; exact e420
                have e428 : n_426 8 = nI kc8 := by rw [en_426, pk_un (by omega)]; exact e421
                have e429 : n_426 2 = nI (kc2 + 1) := by rw [en_426, pk_un (by omega)]; exact e422
                have e430 : n_426 (14 * kc2 + 110) = nI 0 := by rw [en_426, pk_un (by omega)]; exact e423
                have e431 : n_426 (14 * kc2 + 111) = nI 0 := by rw [en_426, pk_un (by omega)]; exact e424
                have e432 : n_426 (14 * kc2 + 121) = nI 0 := by rw [en_426, pk_us]
                refine pm_iincX (v := nI 12) (loc' := [some (.ref (B + 54)), some (.int za), some (.int zb), some (.int zc), some (.int zd), some (.int (nI 1)), some (.int (nI kc2)), some (.int (nI 12))]) hG dX12_person_137 rfl (nI_1 _) (by decide) (pm_c1b rfl) rfl ?_
                refine pm_goto (tgt := 121) hG dX12_person_140 rfl ?_
                refine pm_iloadi hG dX12_person_121 rfl ?_
                refine pm_bipush (v := nI 14) hG dX12_person_123 (by decide) ?_
                refine pm_icmpN_ge (tgt := 143) hG dX12_person_125 rfl (by omega) (by omega) (fun q => absurd q (by omega)) (fun _ => ?_)
                refine pm_aloadn hG dX12_person_128 rfl ?_
                refine pm_iloadi hG dX12_person_129 rfl ?_
                refine pm_iloadi hG dX12_person_131 rfl ?_
                refine pm_iconst (v := nI 0) hG dX12_person_133 (by decide) ?_
                refine pm_callV (As := [.int (nI kc2), .int (nI 12), .int (nI 0)]) (rest := []) hG hR dX12_person_134 (lkX12_97 _ rfl) okV_X12_sets rfl rfl (m_sets (d := 2) (e := 14 * kc2 + 122) (by omega) (by omega) (by omega)) rfl rfl hdd (Nat.le_refl _) (Nat.le_refl _) (by decide) (pm_kv (fun σ' cnt' hq => ?_))
                obtain ⟨rfl, rfl⟩ := hq
                obtain ⟨n_433, en_433⟩ : ∃ f : Nat → Int32, f = upd n_426 (14 * kc2 + 122) (nI 0) := ⟨_, rfl⟩
                rw [← en_433]
                have hnn_433 := KI.w en_433 hnn_426 (okv_f (show kd (14 * kc2 + 122) = (0, 0, false) from (kd_P (k := kc2) (c := 12) (by omega) (by omega) (by decide))))
                have hrn_433 := NRx.w en_433 hrn_426 (by rw [(show kd (14 * kc2 + 122) = (0, 0, false) from (kd_P (k := kc2) (c := 12) (by omega) (by omega) (by decide)))])
                have ksn_433 := KSh.w (h := 14 * kc2 + 110) en_433 ksn_426 (by unfold tS; omega)
                have e434 : n_433 0 = nI kc0 := by rw [en_433, pk_un (by omega)]; exact e427
                have e435 : n_433 8 = nI kc8 := by rw [en_433, pk_un (by omega)]; exact e428
                have e436 : n_433 2 = nI (kc2 + 1) := by rw [en_433, pk_un (by omega)]; exact e429
                have e437 : n_433 (14 * kc2 + 110) = nI 0 := by rw [en_433, pk_un (by omega)]; exact e430
                have e438 : n_433 (14 * kc2 + 111) = nI 0 := by rw [en_433, pk_un (by omega)]; exact e431
                have e439 : n_433 (14 * kc2 + 122) = nI 0 := by rw [en_433, pk_us]
                refine pm_iincX (v := nI 13) (loc' := [some (.ref (B + 54)), some (.int za), some (.int zb), some (.int zc), some (.int zd), some (.int (nI 1)), some (.int (nI kc2)), some (.int (nI 13))]) hG dX12_person_137 rfl (nI_1 _) (by decide) (pm_c1b rfl) rfl ?_
                refine pm_goto (tgt := 121) hG dX12_person_140 rfl ?_
                refine pm_iloadi hG dX12_person_121 rfl ?_
                refine pm_bipush (v := nI 14) hG dX12_person_123 (by decide) ?_
                refine pm_icmpN_ge (tgt := 143) hG dX12_person_125 rfl (by omega) (by omega) (fun q => absurd q (by omega)) (fun _ => ?_)
                refine pm_aloadn hG dX12_person_128 rfl ?_
                refine pm_iloadi hG dX12_person_129 rfl ?_
                refine pm_iloadi hG dX12_person_131 rfl ?_
                refine pm_iconst (v := nI 0) hG dX12_person_133 (by decide) ?_
                refine pm_callV (As := [.int (nI kc2), .int (nI 13), .int (nI 0)]) (rest := []) hG hR dX12_person_134 (lkX12_97 _ rfl) okV_X12_sets rfl rfl (m_sets (d := 2) (e := 14 * kc2 + 123) (by omega) (by omega) (by omega)) rfl rfl hdd (Nat.le_refl _) (Nat.le_refl _) (by decide) (pm_kv (fun σ' cnt' hq => ?_))
                obtain ⟨rfl, rfl⟩ := hq
                obtain ⟨n_440, en_440⟩ : ∃ f : Nat → Int32, f = upd n_433 (14 * kc2 + 123) (nI 0) := ⟨_, rfl⟩
                rw [← en_440]
                have hnn_440 := KI.w en_440 hnn_433 (okv_f (show kd (14 * kc2 + 123) = (0, 0, false) from (kd_P (k := kc2) (c := 13) (by omega) (by omega) (by decide))))
                have hrn_440 := NRx.w en_440 hrn_433 (by rw [(show kd (14 * kc2 + 123) = (0, 0, false) from (kd_P (k := kc2) (c := 13) (by omega) (by omega) (by decide)))])
                have ksn_440 := KSh.w (h := 14 * kc2 + 110) en_440 ksn_433 (by unfold tS; omega)
                have e441 : n_440 0 = nI kc0 := by rw [en_440, pk_un (by omega)]; exact e434
                have e442 : n_440 8 = nI kc8 := by rw [en_440, pk_un (by omega)]; exact e435
                have e443 : n_440 2 = nI (kc2 + 1) := by rw [en_440, pk_un (by omega)]; exact e436
                have e444 : n_440 (14 * kc2 + 110) = nI 0 := by rw [en_440, pk_un (by omega)]; exact e437
                have e445 : n_440 (14 * kc2 + 111) = nI 0 := by rw [en_440, pk_un (by omega)]; exact e438
                have e446 : n_440 (14 * kc2 + 123) = nI 0 := by rw [en_440, pk_us]
                refine pm_iincX (v := nI 14) (loc' := [some (.ref (B + 54)), some (.int za), some (.int zb), some (.int zc), some (.int zd), some (.int (nI 1)), some (.int (nI kc2)), some (.int (nI 14))]) hG dX12_person_137 rfl (nI_1 _) (by decide) (pm_c1b rfl) rfl ?_
                refine pm_goto (tgt := 121) hG dX12_person_140 rfl ?_
                refine pm_iloadi hG dX12_person_121 rfl ?_
                refine pm_bipush (v := nI 14) hG dX12_person_123 (by decide) ?_
                refine pm_icmpN_ge (tgt := 143) hG dX12_person_125 rfl (by omega) (by omega) (fun _ => ?_) (fun q => absurd q (by omega))
                refine pm_aloadn hG dX12_person_143 rfl ?_
                refine pm_iloadi hG dX12_person_144 rfl ?_
                refine pm_iconst (v := nI 0) hG dX12_person_146 (by decide) ?_
                refine pm_iloadn hG dX12_person_147 rfl ?_
                refine pm_top (v := nI k3) ek3 ?_
                refine pm_callV (As := [.int (nI kc2), .int (nI 0), .int (nI k3)]) (rest := []) hG hR dX12_person_148 (lkX12_97 _ rfl) okV_X12_sets rfl rfl (m_sets (d := 2) (e := 14 * kc2 + 110) (by omega) (by omega) (by omega)) rfl rfl hdd (Nat.le_refl _) (Nat.le_refl _) (by decide) (pm_kv (fun σ' cnt' hq => ?_))
                obtain ⟨rfl, rfl⟩ := hq
                obtain ⟨n_447, en_447⟩ : ∃ f : Nat → Int32, f = upd n_440 (14 * kc2 + 110) (nI k3) := ⟨_, rfl⟩
                rw [← en_447]
                have hnn_447 := KI.w en_447 hnn_440 (okv_f (show kd (14 * kc2 + 110) = (0, 0, false) from (kd_P (k := kc2) (c := 0) (by omega) (by omega) (by decide))))
                have hrn_447 := NRx.w en_447 hrn_440 (by rw [(show kd (14 * kc2 + 110) = (0, 0, false) from (kd_P (k := kc2) (c := 0) (by omega) (by omega) (by decide)))])
                have ksn_447 := KSh.w (h := 14 * kc2 + 110) en_447 ksn_440 (by unfold tS; omega)
                have e448 : n_447 0 = nI kc0 := by rw [en_447, pk_un (by omega)]; exact e441
                have e449 : n_447 8 = nI kc8 := by rw [en_447, pk_un (by omega)]; exact e442
                have e450 : n_447 2 = nI (kc2 + 1) := by rw [en_447, pk_un (by omega)]; exact e443
                have e451 : n_447 (14 * kc2 + 111) = nI 0 := by rw [en_447, pk_un (by omega)]; exact e445
                have e452 : n_447 (14 * kc2 + 110) = nI k3 := by rw [en_447, pk_us]
                refine pm_aloadn hG dX12_person_151 rfl ?_
                refine pm_iloadi hG dX12_person_152 rfl ?_
                refine pm_iconst (v := nI 1) hG dX12_person_154 (by decide) ?_
                refine pm_iloadn hG dX12_person_155 rfl ?_
                refine pm_callV (As := [.int (nI kc2), .int (nI 1), .int zb]) (rest := []) hG hR dX12_person_156 (lkX12_97 _ rfl) okV_X12_sets rfl rfl (m_sets (d := 2) (e := 14 * kc2 + 111) (by omega) (by omega) (by omega)) rfl rfl hdd (Nat.le_refl _) (Nat.le_refl _) (by decide) (pm_kv (fun σ' cnt' hq => ?_))
                obtain ⟨rfl, rfl⟩ := hq
                obtain ⟨n_453, en_453⟩ : ∃ f : Nat → Int32, f = upd n_447 (14 * kc2 + 111) zb := ⟨_, rfl⟩
                rw [← en_453]
                have hnn_453 := KI.w en_453 hnn_447 (okv_f (show kd (14 * kc2 + 111) = (0, 0, false) from (kd_P (k := kc2) (c := 1) (by omega) (by omega) (by decide))))
                have hrn_453 := NRx.w en_453 hrn_447 (by rw [(show kd (14 * kc2 + 111) = (0, 0, false) from (kd_P (k := kc2) (c := 1) (by omega) (by omega) (by decide)))])
                have ksn_453 := KSh.w (h := 14 * kc2 + 110) en_453 ksn_447 (by unfold tS; omega)
                have e454 : n_453 0 = nI kc0 := by rw [en_453, pk_un (by omega)]; exact e448
                have e455 : n_453 8 = nI kc8 := by rw [en_453, pk_un (by omega)]; exact e449
                have e456 : n_453 2 = nI (kc2 + 1) := by rw [en_453, pk_un (by omega)]; exact e450
                have e457 : n_453 (14 * kc2 + 110) = nI k3 := by rw [en_453, pk_un (by omega)]; exact e452
                have e458 : n_453 (14 * kc2 + 111) = zb := by rw [en_453, pk_us]
                refine pm_aloadn hG dX12_person_159 rfl ?_
                refine pm_iloadi hG dX12_person_160 rfl ?_
                refine pm_iconst (v := nI 2) hG dX12_person_162 (by decide) ?_
                refine pm_iloadn hG dX12_person_163 rfl ?_
                refine pm_top (v := nI k9) ek9 ?_
                refine pm_bipush (v := nI 100) hG dX12_person_164 (by decide) ?_
                refine pm_idivN hG dX12_person_166 (by omega) (by decide) (by decide) ?_
                refine pm_iconst (v := nI 1) hG dX12_person_167 (by decide) ?_
                refine pm_isub hG dX12_person_168 ?_
                refine pm_top (v := nI k11) ek11 ?_
                refine pm_callV (As := [.int (nI kc2), .int (nI 2), .int (nI k11)]) (rest := []) hG hR dX12_person_169 (lkX12_97 _ rfl) okV_X12_sets rfl rfl (m_sets (d := 2) (e := 14 * kc2 + 112) (by omega) (by omega) (by omega)) rfl rfl hdd (Nat.le_refl _) (Nat.le_refl _) (by decide) (pm_kv (fun σ' cnt' hq => ?_))
                obtain ⟨rfl, rfl⟩ := hq
                obtain ⟨n_459, en_459⟩ : ∃ f : Nat → Int32, f = upd n_453 (14 * kc2 + 112) (nI k11) := ⟨_, rfl⟩
                rw [← en_459]
                have hnn_459 := KI.w en_459 hnn_453 (okv_o (show kd (14 * kc2 + 112) = (2, 20, false) from (kd_P (k := kc2) (c := 2) (by omega) (by omega) (by decide))) (by omega))
                have hrn_459 := NRx.w en_459 hrn_453 (by rw [(show kd (14 * kc2 + 112) = (2, 20, false) from (kd_P (k := kc2) (c := 2) (by omega) (by omega) (by decide)))])
                have ksn_459 := KSh.w (h := 14 * kc2 + 110) en_459 ksn_453 (by unfold tS; omega)
                have e460 : n_459 0 = nI kc0 := by rw [en_459, pk_un (by omega)]; exact e454
                have e461 : n_459 8 = nI kc8 := by rw [en_459, pk_un (by omega)]; exact e455
                have e462 : n_459 2 = nI (kc2 + 1) := by rw [en_459, pk_un (by omega)]; exact e456
                have e463 : n_459 (14 * kc2 + 110) = nI k3 := by rw [en_459, pk_un (by omega)]; exact e457
                have e464 : n_459 (14 * kc2 + 111) = zb := by rw [en_459, pk_un (by omega)]; exact e458
                have e465 : n_459 (14 * kc2 + 112) = nI k11 := by rw [en_459, pk_us]
                refine pm_aloadn hG dX12_person_172 rfl ?_
                refine pm_iloadi hG dX12_person_173 rfl ?_
                refine pm_iconst (v := nI 3) hG dX12_person_175 (by decide) ?_
                refine pm_iloadn hG dX12_person_176 rfl ?_
                refine pm_top (v := nI k9) ek9 ?_
                refine pm_bipush (v := nI 100) hG dX12_person_177 (by decide) ?_
                refine pm_iremM hG dX12_person_179 (by omega) (by decide) (by decide) ?_
                refine pm_iconst (v := nI 1) hG dX12_person_180 (by decide) ?_
                refine pm_isub hG dX12_person_181 ?_
                refine pm_top (v := (-1)) ek341 ?_
                refine pm_callV (As := [.int (nI kc2), .int (nI 3), .int (-1)]) (rest := []) hG hR dX12_person_182 (lkX12_97 _ rfl) okV_X12_sets rfl rfl (m_sets (d := 2) (e := 14 * kc2 + 113) (by omega) (by omega) (by omega)) rfl rfl hdd (Nat.le_refl _) (Nat.le_refl _) (by decide) (pm_kv (fun σ' cnt' hq => ?_))
                obtain ⟨rfl, rfl⟩ := hq
                obtain ⟨n_466, en_466⟩ : ∃ f : Nat → Int32, f = upd n_459 (14 * kc2 + 113) (-1) := ⟨_, rfl⟩
                rw [← en_466]
                have hnn_466 := KI.w en_466 hnn_459 (okv_m (show kd (14 * kc2 + 113) = (2, 20, false) from (kd_P (k := kc2) (c := 3) (by omega) (by omega) (by decide))))
                have hrn_466 := NRx.w en_466 hrn_459 (by rw [(show kd (14 * kc2 + 113) = (2, 20, false) from (kd_P (k := kc2) (c := 3) (by omega) (by omega) (by decide)))])
                have ksn_466 := KSh.w (h := 14 * kc2 + 110) en_466 ksn_459 (by unfold tS; omega)
                have e467 : n_466 0 = nI kc0 := by rw [en_466, pk_un (by omega)]; exact e460
                have e468 : n_466 8 = nI kc8 := by rw [en_466, pk_un (by omega)]; exact e461
                have e469 : n_466 2 = nI (kc2 + 1) := by rw [en_466, pk_un (by omega)]; exact e462
                have e470 : n_466 (14 * kc2 + 110) = nI k3 := by rw [en_466, pk_un (by omega)]; exact e463
                have e471 : n_466 (14 * kc2 + 111) = zb := by rw [en_466, pk_un (by omega)]; exact e464
                have e472 : n_466 (14 * kc2 + 113) = (-1) := by rw [en_466, pk_us]
                refine pm_aloadn hG dX12_person_185 rfl ?_
                refine pm_iloadi hG dX12_person_186 rfl ?_
                refine pm_iconst (v := nI 4) hG dX12_person_188 (by decide) ?_
                refine pm_iloadi hG dX12_person_189 rfl ?_
                refine pm_top (v := nI k346) ek346 ?_
                refine pm_callV (As := [.int (nI kc2), .int (nI 4), .int (nI k346)]) (rest := []) hG hR dX12_person_191 (lkX12_97 _ rfl) okV_X12_sets rfl rfl (m_sets (d := 2) (e := 14 * kc2 + 114) (by omega) (by omega) (by omega)) rfl rfl hdd (Nat.le_refl _) (Nat.le_refl _) (by decide) (pm_kv (fun σ' cnt' hq => ?_))
                obtain ⟨rfl, rfl⟩ := hq
                obtain ⟨n_473, en_473⟩ : ∃ f : Nat → Int32, f = upd n_466 (14 * kc2 + 114) (nI k346) := ⟨_, rfl⟩
                rw [← en_473]
                have hnn_473 := KI.w en_473 hnn_466 (okv_o (show kd (14 * kc2 + 114) = (2, 10, false) from (kd_P (k := kc2) (c := 4) (by omega) (by omega) (by decide))) (by omega))
                have hrn_473 := NRx.w en_473 hrn_466 (by rw [(show kd (14 * kc2 + 114) = (2, 10, false) from (kd_P (k := kc2) (c := 4) (by omega) (by omega) (by decide)))])
                have ksn_473 := KSh.w (h := 14 * kc2 + 110) en_473 ksn_466 (by unfold tS; omega)
                have e474 : n_473 0 = nI kc0 := by rw [en_473, pk_un (by omega)]; exact e467
                have e475 : n_473 8 = nI kc8 := by rw [en_473, pk_un (by omega)]; exact e468
                have e476 : n_473 2 = nI (kc2 + 1) := by rw [en_473, pk_un (by omega)]; exact e469
                have e477 : n_473 (14 * kc2 + 110) = nI k3 := by rw [en_473, pk_un (by omega)]; exact e470
                have e478 : n_473 (14 * kc2 + 111) = zb := by rw [en_473, pk_un (by omega)]; exact e471
                have e479 : n_473 (14 * kc2 + 114) = nI k346 := by rw [en_473, pk_us]
                refine pm_aloadn hG dX12_person_194 rfl ?_
                refine pm_iloadi hG dX12_person_195 rfl ?_
                refine pm_bipush (v := nI 9) hG dX12_person_197 (by decide) ?_
                refine pm_iconst (v := (-1)) hG dX12_person_199 (by decide) ?_
                refine pm_callV (As := [.int (nI kc2), .int (nI 9), .int (-1)]) (rest := []) hG hR dX12_person_200 (lkX12_97 _ rfl) okV_X12_sets rfl rfl (m_sets (d := 2) (e := 14 * kc2 + 119) (by omega) (by omega) (by omega)) rfl rfl hdd (Nat.le_refl _) (Nat.le_refl _) (by decide) (pm_kv (fun σ' cnt' hq => ?_))
                obtain ⟨rfl, rfl⟩ := hq
                obtain ⟨n_480, en_480⟩ : ∃ f : Nat → Int32, f = upd n_473 (14 * kc2 + 119) (-1) := ⟨_, rfl⟩
                rw [← en_480]
                have hnn_480 := KI.w en_480 hnn_473 (okv_m (show kd (14 * kc2 + 119) = (2, 2001, false) from (kd_P (k := kc2) (c := 9) (by omega) (by omega) (by decide))))
                have hrn_480 := NRx.w en_480 hrn_473 (by rw [(show kd (14 * kc2 + 119) = (2, 2001, false) from (kd_P (k := kc2) (c := 9) (by omega) (by omega) (by decide)))])
                have ksn_480 := KSh.w (h := 14 * kc2 + 110) en_480 ksn_473 (by unfold tS; omega)
                have e481 : n_480 0 = nI kc0 := by rw [en_480, pk_un (by omega)]; exact e474
                have e482 : n_480 8 = nI kc8 := by rw [en_480, pk_un (by omega)]; exact e475
                have e483 : n_480 2 = nI (kc2 + 1) := by rw [en_480, pk_un (by omega)]; exact e476
                have e484 : n_480 (14 * kc2 + 110) = nI k3 := by rw [en_480, pk_un (by omega)]; exact e477
                have e485 : n_480 (14 * kc2 + 111) = zb := by rw [en_480, pk_un (by omega)]; exact e478
                have e486 : n_480 (14 * kc2 + 119) = (-1) := by rw [en_480, pk_us]
                refine pm_aloadn hG dX12_person_203 rfl ?_
                refine pm_iloadi hG dX12_person_204 rfl ?_
                refine pm_bipush (v := nI 10) hG dX12_person_206 (by decide) ?_
                refine pm_iconst (v := (-1)) hG dX12_person_208 (by decide) ?_
                refine pm_callV (As := [.int (nI kc2), .int (nI 10), .int (-1)]) (rest := []) hG hR dX12_person_209 (lkX12_97 _ rfl) okV_X12_sets rfl rfl (m_sets (d := 2) (e := 14 * kc2 + 120) (by omega) (by omega) (by omega)) rfl rfl hdd (Nat.le_refl _) (Nat.le_refl _) (by decide) (pm_kv (fun σ' cnt' hq => ?_))
                obtain ⟨rfl, rfl⟩ := hq
                obtain ⟨n_487, en_487⟩ : ∃ f : Nat → Int32, f = upd n_480 (14 * kc2 + 120) (-1) := ⟨_, rfl⟩
                rw [← en_487]
                have hnn_487 := KI.w en_487 hnn_480 (okv_f (show kd (14 * kc2 + 120) = (0, 0, false) from (kd_P (k := kc2) (c := 10) (by omega) (by omega) (by decide))))
                have hrn_487 := NRx.w en_487 hrn_480 (by rw [(show kd (14 * kc2 + 120) = (0, 0, false) from (kd_P (k := kc2) (c := 10) (by omega) (by omega) (by decide)))])
                have ksn_487 := KSh.w (h := 14 * kc2 + 110) en_487 ksn_480 (by unfold tS; omega)
                have e488 : n_487 0 = nI kc0 := by rw [en_487, pk_un (by omega)]; exact e481
                have e489 : n_487 8 = nI kc8 := by rw [en_487, pk_un (by omega)]; exact e482
                have e490 : n_487 2 = nI (kc2 + 1) := by rw [en_487, pk_un (by omega)]; exact e483
                have e491 : n_487 (14 * kc2 + 110) = nI k3 := by rw [en_487, pk_un (by omega)]; exact e484
                have e492 : n_487 (14 * kc2 + 111) = zb := by rw [en_487, pk_un (by omega)]; exact e485
                have e493 : n_487 (14 * kc2 + 120) = (-1) := by rw [en_487, pk_us]
                refine pm_aloadn hG dX12_person_212 rfl ?_
                refine pm_iloadi hG dX12_person_213 rfl ?_
                refine pm_bipush (v := nI 12) hG dX12_person_215 (by decide) ?_
                refine pm_iconst (v := nI 1) hG dX12_person_217 (by decide) ?_
                refine pm_callV (As := [.int (nI kc2), .int (nI 12), .int (nI 1)]) (rest := []) hG hR dX12_person_218 (lkX12_97 _ rfl) okV_X12_sets rfl rfl (m_sets (d := 2) (e := 14 * kc2 + 122) (by omega) (by omega) (by omega)) rfl rfl hdd (Nat.le_refl _) (Nat.le_refl _) (by decide) (pm_kv (fun σ' cnt' hq => ?_))
                obtain ⟨rfl, rfl⟩ := hq
                obtain ⟨n_494, en_494⟩ : ∃ f : Nat → Int32, f = upd n_487 (14 * kc2 + 122) (nI 1) := ⟨_, rfl⟩
                rw [← en_494]
                have hnn_494 := KI.w en_494 hnn_487 (okv_f (show kd (14 * kc2 + 122) = (0, 0, false) from (kd_P (k := kc2) (c := 12) (by omega) (by omega) (by decide))))
                have hrn_494 := NRx.w en_494 hrn_487 (by rw [(show kd (14 * kc2 + 122) = (0, 0, false) from (kd_P (k := kc2) (c := 12) (by omega) (by omega) (by decide)))])
                have ksn_494 := KSh.w (h := 14 * kc2 + 110) en_494 ksn_487 (by unfold tS; omega)
                have e495 : n_494 0 = nI kc0 := by rw [en_494, pk_un (by omega)]; exact e488
                have e496 : n_494 8 = nI kc8 := by rw [en_494, pk_un (by omega)]; exact e489
                have e497 : n_494 2 = nI (kc2 + 1) := by rw [en_494, pk_un (by omega)]; exact e490
                have e498 : n_494 (14 * kc2 + 110) = nI k3 := by rw [en_494, pk_un (by omega)]; exact e491
                have e499 : n_494 (14 * kc2 + 111) = zb := by rw [en_494, pk_un (by omega)]; exact e492
                have e500 : n_494 (14 * kc2 + 122) = nI 1 := by rw [en_494, pk_us]
                refine pm_iloadi hG dX12_person_221 rfl ?_
                exact pm_iret hG hF dX12_person_223 rfl (Nat.le_refl _) (Nat.le_refl _) ⟨_, rfl, ⟨_, _, _, rfl, hnn_494, hrn_494, e495.trans ekc0.symm, e496.trans ekc8.symm, ⟨(vE_y (T := pN n) (d := n 8) (t := n 0) (p := n 2) (a := za) (b := zb) (c := zc) (e := zd) (not6 (rg_in (a := 0) (b := 1) (by omega) ek3 (by omega) (by omega)) (fun q => q.elim ac5 (by rw [ekc8]; exact bc5)) (by rw [ek9]; exact nI_pos (by omega)) (nt_in ekc0 (by omega) ek346 (by omega)) (fun q => q (by rw [dv1 ek9 (by omega)]; exact pk11)) (fun q => q (by rw [rm1 ek9 (by omega)]; exact pk341))) ekc2 (by omega)).1, e497.trans (vE_y (T := pN n) (d := n 8) (t := n 0) (p := n 2) (a := za) (b := zb) (c := zc) (e := zd) (not6 (rg_in (a := 0) (b := 1) (by omega) ek3 (by omega) (by omega)) (fun q => q.elim ac5 (by rw [ekc8]; exact bc5)) (by rw [ek9]; exact nI_pos (by omega)) (nt_in ekc0 (by omega) ek346 (by omega)) (fun q => q (by rw [dv1 ek9 (by omega)]; exact pk11)) (fun q => q (by rw [rm1 ek9 (by omega)]; exact pk341))) ekc2 (by omega)).2.1, fun j hj => by rw [(vE_y (T := pN n) (d := n 8) (t := n 0) (p := n 2) (a := za) (b := zb) (c := zc) (e := zd) (not6 (rg_in (a := 0) (b := 1) (by omega) ek3 (by omega) (by omega)) (fun q => q.elim ac5 (by rw [ekc8]; exact bc5)) (by rw [ek9]; exact nI_pos (by omega)) (nt_in ekc0 (by omega) ek346 (by omega)) (fun q => q (by rw [dv1 ek9 (by omega)]; exact pk11)) (fun q => q (by rw [rm1 ek9 (by omega)]; exact pk341))) ekc2 (by omega)).2.2]; exact tP_ok ksn_494 (e498.trans ek3.symm) e499 (by omega) j hj⟩⟩, rfl⟩
              · refine pm_aloadn hG dX12_person_102 rfl ?_
                refine pm_iconst (v := nI 4) hG dX12_person_103 (by decide) ?_
                refine pm_callV (As := [.int (nI 4)]) (rest := []) hG hR dX12_person_104 (lkX12_80 _ rfl) okV_X12_finds rfl rfl (m_finds (d := 2) (by decide) hn hz (by omega)) rfl rfl hdd (Nat.le_refl _) (Nat.le_refl _) (by decide) (pm_ki (fun v501 σ' cnt' hq => ?_))
                obtain ⟨⟨I502, A502, rfl⟩, rfl, fv501⟩ := hq
                exact pm_iret hG hF dX12_person_107 rfl (Nat.le_refl _) (Nat.le_refl _) ⟨_, rfl, ⟨_, _, _, rfl, hn, hr, ekc0.trans ekc0.symm, ekc8.trans ekc8.symm, ⟨fv501.trans ((by decide : (-1000000 : Int32) - nI 4 = -1000004).trans (vE_f (T := pN n) (d := n 8) (t := n 0) (p := n 2) (a := za) (b := zb) (c := zc) (e := zd) (not6 (rg_in (a := 0) (b := 1) (by omega) ek3 (by omega) (by omega)) (fun q => q.elim ac5 (by rw [ekc8]; exact bc5)) (by rw [ek9]; exact nI_pos (by omega)) (nt_in ekc0 (by omega) ek346 (by omega)) (fun q => q (by rw [dv1 ek9 (by omega)]; exact pk11)) (fun q => q (by rw [rm1 ek9 (by omega)]; exact pk341))) (ekc2.trans (congrArg nI (by omega)))).1), (vE_f (T := pN n) (d := n 8) (t := n 0) (p := n 2) (a := za) (b := zb) (c := zc) (e := zd) (not6 (rg_in (a := 0) (b := 1) (by omega) ek3 (by omega) (by omega)) (fun q => q.elim ac5 (by rw [ekc8]; exact bc5)) (by rw [ek9]; exact nI_pos (by omega)) (nt_in ekc0 (by omega) ek346 (by omega)) (fun q => q (by rw [dv1 ek9 (by omega)]; exact pk11)) (fun q => q (by rw [rm1 ek9 (by omega)]; exact pk341))) (ekc2.trans (congrArg nI (by omega)))).2.1, fun j _ => by rw [(vE_f (T := pN n) (d := n 8) (t := n 0) (p := n 2) (a := za) (b := zb) (c := zc) (e := zd) (not6 (rg_in (a := 0) (b := 1) (by omega) ek3 (by omega) (by omega)) (fun q => q.elim ac5 (by rw [ekc8]; exact bc5)) (by rw [ek9]; exact nI_pos (by omega)) (nt_in ekc0 (by omega) ek346 (by omega)) (fun q => q (by rw [dv1 ek9 (by omega)]; exact pk11)) (fun q => q (by rw [rm1 ek9 (by omega)]; exact pk341))) (ekc2.trans (congrArg nI (by omega)))).2.2]⟩⟩, rfl⟩
            · refine pm_ifN_eq (tgt := 73) hG dX12_person_66 rfl (by omega) (fun _ => ?_) (fun q => absurd q (by omega))
              refine pm_iconst (v := nI 0) hG dX12_person_73 (by decide) ?_
              refine pm_istoreXi (loc' := [some (.ref (B + 54)), some (.int za), some (.int zb), some (.int zc), some (.int zd), some (.int (nI 0)), none, none]) hG dX12_person_74 (by decide) (pm_c1b rfl) rfl ?_
              refine pm_iloadi hG dX12_person_76 rfl ?_
              refine pm_ifN_ne (tgt := 87) hG dX12_person_78 rfl (by omega) (fun q => absurd q (by omega)) (fun _ => ?_)
              refine pm_aloadn hG dX12_person_81 rfl ?_
              refine pm_iconst (v := nI 1) hG dX12_person_82 (by decide) ?_
              refine pm_callV (As := [.int (nI 1)]) (rest := []) hG hR dX12_person_83 (lkX12_80 _ rfl) okV_X12_finds rfl rfl (m_finds (d := 2) (by decide) hn hz (by omega)) rfl rfl hdd (Nat.le_refl _) (Nat.le_refl _) (by decide) (pm_ki (fun v503 σ' cnt' hq => ?_))
              obtain ⟨⟨I504, A504, rfl⟩, rfl, fv503⟩ := hq
              exact pm_iret hG hF dX12_person_86 rfl (Nat.le_refl _) (Nat.le_refl _) ⟨_, rfl, ⟨_, _, _, rfl, hn, hr, ekc0.trans ekc0.symm, ekc8.trans ekc8.symm, ⟨fv503.trans ((by decide : (-1000000 : Int32) - nI 1 = -1000001).trans (vE_n (T := pN n) (d := n 8) (t := n 0) (p := n 2) (a := za) (b := zb) (c := zc) (e := zd) (Or.inr (Or.inr (Or.inr (Or.inl (nt_out ekc0 (by omega) ntk346)))))).1), (vE_n (T := pN n) (d := n 8) (t := n 0) (p := n 2) (a := za) (b := zb) (c := zc) (e := zd) (Or.inr (Or.inr (Or.inr (Or.inl (nt_out ekc0 (by omega) ntk346)))))).2.1, fun j _ => by rw [(vE_n (T := pN n) (d := n 8) (t := n 0) (p := n 2) (a := za) (b := zb) (c := zc) (e := zd) (Or.inr (Or.inr (Or.inr (Or.inl (nt_out ekc0 (by omega) ntk346)))))).2.2]⟩⟩, rfl⟩
          · refine pm_ifN_eq (tgt := 73) hG dX12_person_57 rfl (by omega) (fun q => absurd q (by omega)) (fun _ => ?_)
            refine pm_aloadn hG dX12_person_60 rfl ?_
            refine pm_iloadi hG dX12_person_61 rfl ?_
            refine pm_callV (As := [.int zd]) (rest := []) hG hR dX12_person_63 (lkX12_84 _ rfl) okV_X12_isTown rfl rfl (m_isTown (d := 2) (by decide) ekc0 (by omega)) rfl rfl hdd (Nat.le_refl _) (Nat.le_refl _) (by decide) (pm_ki (fun v505 σ' cnt' hq => ?_))
            obtain ⟨hq, rfl, rfl⟩ := hq
            rcases hq with ⟨rfl, k507, hk507, ek507⟩ | ⟨rfl, ntk507⟩
            · refine pm_ifN_eq (tgt := 73) hG dX12_person_66 rfl (by omega) (fun q => absurd q (by omega)) (fun _ => ?_)
              refine pm_iconst (v := nI 1) hG dX12_person_69 (by decide) ?_
              refine pm_goto (tgt := 74) hG dX12_person_70 rfl ?_
              refine pm_istoreXi (loc' := [some (.ref (B + 54)), some (.int za), some (.int zb), some (.int zc), some (.int zd), some (.int (nI 1)), none, none]) hG dX12_person_74 (by decide) (pm_c1b rfl) rfl ?_
              refine pm_iloadi hG dX12_person_76 rfl ?_
              refine pm_ifN_ne (tgt := 87) hG dX12_person_78 rfl (by omega) (fun _ => ?_) (fun q => absurd q (by omega))
              refine pm_aloadn hG dX12_person_87 rfl ?_
              refine pm_getf hG dX12_person_88 (flX12_7 _ rfl) rfl rfl ?_
              refine pm_iconst (v := nI 2) hG dX12_person_91 (by decide) ?_
              refine pm_ialdN hG dX12_person_92 rfl (by decide) (by omega) ?_
              refine pm_top (v := nI kc2) ekc2 ?_
              refine pm_istoreXi (loc' := [some (.ref (B + 54)), some (.int za), some (.int zb), some (.int zc), some (.int zd), some (.int (nI 1)), some (.int (nI kc2)), none]) hG dX12_person_93 (by decide) (pm_c1b rfl) rfl ?_
              refine pm_iloadi hG dX12_person_95 rfl ?_
              refine pm_bipush (v := nI 20) hG dX12_person_97 (by decide) ?_
              refine pm_icmpN_ne (tgt := 108) hG dX12_person_99 rfl (by omega) (by omega) (fun c508 => ?_) (fun c508 => ?_)
              · refine pm_aloadn hG dX12_person_108 rfl ?_
                refine pm_getf hG dX12_person_109 (flX12_7 _ rfl) rfl rfl ?_
                refine pm_iconst (v := nI 2) hG dX12_person_112 (by decide) ?_
                refine pm_dup2 hG dX12_person_113 rfl rfl ?_
                refine pm_ialdN hG dX12_person_114 rfl (by decide) (by omega) ?_
                refine pm_top (v := nI kc2) ekc2 ?_
                refine pm_iconst (v := nI 1) hG dX12_person_115 (by decide) ?_
                refine pm_iaddN (c := kc2 + 1) hG dX12_person_116 (by omega) ?_
                refine pm_iastN hG dX12_person_117 rfl (by decide) (by omega) ?_
                refine mdn_now (fun n_509 en_509 => ?_)
                have hnn_509 := KI.w en_509 hn (okv_n (show kd 2 = (1, 21, true) by decide) (by omega))
                have hrn_509 := NRx.pers en_509 hr ekc0 (by omega) ekc2 (by omega)
                have ksn_509 := KSh.w (h := 14 * kc2 + 110) en_509 KSh.rf (by unfold tS; omega)
                have e510 : n_509 0 = nI kc0 := by rw [en_509, pk_un (by omega)]; exact ekc0
                have e511 : n_509 8 = nI kc8 := by rw [en_509, pk_un (by omega)]; exact ekc8
                have e512 : n_509 2 = nI (kc2 + 1) := by rw [en_509, pk_us]
                refine pm_iconst (v := nI 0) hG dX12_person_118 (by decide) ?_
                refine pm_istoreXi (loc' := [some (.ref (B + 54)), some (.int za), some (.int zb), some (.int zc), some (.int zd), some (.int (nI 1)), some (.int (nI kc2)), some (.int (nI 0))]) hG dX12_person_119 (by decide) (pm_c1b rfl) rfl ?_
                refine pm_iloadi hG dX12_person_121 rfl ?_
                refine pm_bipush (v := nI 14) hG dX12_person_123 (by decide) ?_
                refine pm_icmpN_ge (tgt := 143) hG dX12_person_125 rfl (by omega) (by omega) (fun q => absurd q (by omega)) (fun _ => ?_)
                refine pm_aloadn hG dX12_person_128 rfl ?_
                refine pm_iloadi hG dX12_person_129 rfl ?_
                refine pm_iloadi hG dX12_person_131 rfl ?_
                refine pm_iconst (v := nI 0) hG dX12_person_133 (by decide) ?_
                refine pm_callV (As := [.int (nI kc2), .int (nI 0), .int (nI 0)]) (rest := []) hG hR dX12_person_134 (lkX12_97 _ rfl) okV_X12_sets rfl rfl (m_sets (d := 2) (e := 14 * kc2 + 110) (by omega) (by omega) (by omega)) rfl rfl hdd (Nat.le_refl _) (Nat.le_refl _) (by decide) (pm_kv (fun σ' cnt' hq => ?_))
                obtain ⟨rfl, rfl⟩ := hq
                obtain ⟨n_513, en_513⟩ : ∃ f : Nat → Int32, f = upd n_509 (14 * kc2 + 110) (nI 0) := ⟨_, rfl⟩
                rw [← en_513]
                have hnn_513 := KI.w en_513 hnn_509 (okv_f (show kd (14 * kc2 + 110) = (0, 0, false) from (kd_P (k := kc2) (c := 0) (by omega) (by omega) (by decide))))
                have hrn_513 := NRx.w en_513 hrn_509 (by rw [(show kd (14 * kc2 + 110) = (0, 0, false) from (kd_P (k := kc2) (c := 0) (by omega) (by omega) (by decide)))])
                have ksn_513 := KSh.w (h := 14 * kc2 + 110) en_513 ksn_509 (by unfold tS; omega)
                have e514 : n_513 0 = nI kc0 := by rw [en_513, pk_un (by omega)]; exact e510
                have e515 : n_513 8 = nI kc8 := by rw [en_513, pk_un (by omega)]; exact e511
                have e516 : n_513 2 = nI (kc2 + 1) := by rw [en_513, pk_un (by omega)]; exact e512
                have e517 : n_513 (14 * kc2 + 110) = nI 0 := by rw [en_513, pk_us]
                refine pm_iincX (v := nI 1) (loc' := [some (.ref (B + 54)), some (.int za), some (.int zb), some (.int zc), some (.int zd), some (.int (nI 1)), some (.int (nI kc2)), some (.int (nI 1))]) hG dX12_person_137 rfl (nI_1 _) (by decide) (pm_c1b rfl) rfl ?_
                refine pm_goto (tgt := 121) hG dX12_person_140 rfl ?_
                refine pm_iloadi hG dX12_person_121 rfl ?_
                refine pm_bipush (v := nI 14) hG dX12_person_123 (by decide) ?_
                refine pm_icmpN_ge (tgt := 143) hG dX12_person_125 rfl (by omega) (by omega) (fun q => absurd q (by omega)) (fun _ => ?_)
                refine pm_aloadn hG dX12_person_128 rfl ?_
                refine pm_iloadi hG dX12_person_129 rfl ?_
                refine pm_iloadi hG dX12_person_131 rfl ?_
                refine pm_iconst (v := nI 0) hG dX12_person_133 (by decide) ?_
                refine pm_callV (As := [.int (nI kc2), .int (nI 1), .int (nI 0)]) (rest := []) hG hR dX12_person_134 (lkX12_97 _ rfl) okV_X12_sets rfl rfl (m_sets (d := 2) (e := 14 * kc2 + 111) (by omega) (by omega) (by omega)) rfl rfl hdd (Nat.le_refl _) (Nat.le_refl _) (by decide) (pm_kv (fun σ' cnt' hq => ?_))
                obtain ⟨rfl, rfl⟩ := hq
                obtain ⟨n_518, en_518⟩ : ∃ f : Nat → Int32, f = upd n_513 (14 * kc2 + 111) (nI 0) := ⟨_, rfl⟩
                rw [← en_518]
                have hnn_518 := KI.w en_518 hnn_513 (okv_f (show kd (14 * kc2 + 111) = (0, 0, false) from (kd_P (k := kc2) (c := 1) (by omega) (by omega) (by decide))))
                have hrn_518 := NRx.w en_518 hrn_513 (by rw [(show kd (14 * kc2 + 111) = (0, 0, false) from (kd_P (k := kc2) (c := 1) (by omega) (by omega) (by decide)))])
                have ksn_518 := KSh.w (h := 14 * kc2 + 110) en_518 ksn_513 (by unfold tS; omega)
                have e519 : n_518 0 = nI kc0 := by rw [en_518, pk_un (by omega)]; exact e514
                have e520 : n_518 8 = nI kc8 := by rw [en_518, pk_un (by omega)]; exact e515
                have e521 : n_518 2 = nI (kc2 + 1) := by rw [en_518, pk_un (by omega)]; exact e516
                have e522 : n_518 (14 * kc2 + 110) = nI 0 := by rw [en_518, pk_un (by omega)]; exact e517
                have e523 : n_518 (14 * kc2 + 111) = nI 0 := by rw [en_518, pk_us]
                refine pm_iincX (v := nI 2) (loc' := [some (.ref (B + 54)), some (.int za), some (.int zb), some (.int zc), some (.int zd), some (.int (nI 1)), some (.int (nI kc2)), some (.int (nI 2))]) hG dX12_person_137 rfl (nI_1 _) (by decide) (pm_c1b rfl) rfl ?_
                refine pm_goto (tgt := 121) hG dX12_person_140 rfl ?_
                refine pm_iloadi hG dX12_person_121 rfl ?_
                refine pm_bipush (v := nI 14) hG dX12_person_123 (by decide) ?_
                refine pm_icmpN_ge (tgt := 143) hG dX12_person_125 rfl (by omega) (by omega) (fun q => absurd q (by omega)) (fun _ => ?_)
                refine pm_aloadn hG dX12_person_128 rfl ?_
                refine pm_iloadi hG dX12_person_129 rfl ?_
                refine pm_iloadi hG dX12_person_131 rfl ?_
                refine pm_iconst (v := nI 0) hG dX12_person_133 (by decide) ?_
                refine pm_callV (As := [.int (nI kc2), .int (nI 2), .int (nI 0)]) (rest := []) hG hR dX12_person_134 (lkX12_97 _ rfl) okV_X12_sets rfl rfl (m_sets (d := 2) (e := 14 * kc2 + 112) (by omega) (by omega) (by omega)) rfl rfl hdd (Nat.le_refl _) (Nat.le_refl _) (by decide) (pm_kv (fun σ' cnt' hq => ?_))
                obtain ⟨rfl, rfl⟩ := hq
                obtain ⟨n_524, en_524⟩ : ∃ f : Nat → Int32, f = upd n_518 (14 * kc2 + 112) (nI 0) := ⟨_, rfl⟩
                rw [← en_524]
                have hnn_524 := KI.w en_524 hnn_518 (okv_o (show kd (14 * kc2 + 112) = (2, 20, false) from (kd_P (k := kc2) (c := 2) (by omega) (by omega) (by decide))) (by omega))
                have hrn_524 := NRx.w en_524 hrn_518 (by rw [(show kd (14 * kc2 + 112) = (2, 20, false) from (kd_P (k := kc2) (c := 2) (by omega) (by omega) (by decide)))])
                have ksn_524 := KSh.w (h := 14 * kc2 + 110) en_524 ksn_518 (by unfold tS; omega)
                have e525 : n_524 0 = nI kc0 := by rw [en_524, pk_un (by omega)]; exact e519
                have e526 : n_524 8 = nI kc8 := by rw [en_524, pk_un (by omega)]; exact e520
                have e527 : n_524 2 = nI (kc2 + 1) := by rw [en_524, pk_un (by omega)]; exact e521
                have e528 : n_524 (14 * kc2 + 110) = nI 0 := by rw [en_524, pk_un (by omega)]; exact e522
                have e529 : n_524 (14 * kc2 + 111) = nI 0 := by rw [en_524, pk_un (by omega)]; exact e523
                have e530 : n_524 (14 * kc2 + 112) = nI 0 := by rw [en_524, pk_us]
                refine pm_iincX (v := nI 3) (loc' := [some (.ref (B + 54)), some (.int za), some (.int zb), some (.int zc), some (.int zd), some (.int (nI 1)), some (.int (nI kc2)), some (.int (nI 3))]) hG dX12_person_137 rfl (nI_1 _) (by decide) (pm_c1b rfl) rfl ?_
                refine pm_goto (tgt := 121) hG dX12_person_140 rfl ?_
                refine pm_iloadi hG dX12_person_121 rfl ?_
                refine pm_bipush (v := nI 14) hG dX12_person_123 (by decide) ?_
                refine pm_icmpN_ge (tgt := 143) hG dX12_person_125 rfl (by omega) (by omega) (fun q => absurd q (by omega)) (fun _ => ?_)
                refine pm_aloadn hG dX12_person_128 rfl ?_
                refine pm_iloadi hG dX12_person_129 rfl ?_
                refine pm_iloadi hG dX12_person_131 rfl ?_
                refine pm_iconst (v := nI 0) hG dX12_person_133 (by decide) ?_
                refine pm_callV (As := [.int (nI kc2), .int (nI 3), .int (nI 0)]) (rest := []) hG hR dX12_person_134 (lkX12_97 _ rfl) okV_X12_sets rfl rfl (m_sets (d := 2) (e := 14 * kc2 + 113) (by omega) (by omega) (by omega)) rfl rfl hdd (Nat.le_refl _) (Nat.le_refl _) (by decide) (pm_kv (fun σ' cnt' hq => ?_))
                obtain ⟨rfl, rfl⟩ := hq
                obtain ⟨n_531, en_531⟩ : ∃ f : Nat → Int32, f = upd n_524 (14 * kc2 + 113) (nI 0) := ⟨_, rfl⟩
                rw [← en_531]
                have hnn_531 := KI.w en_531 hnn_524 (okv_o (show kd (14 * kc2 + 113) = (2, 20, false) from (kd_P (k := kc2) (c := 3) (by omega) (by omega) (by decide))) (by omega))
                have hrn_531 := NRx.w en_531 hrn_524 (by rw [(show kd (14 * kc2 + 113) = (2, 20, false) from (kd_P (k := kc2) (c := 3) (by omega) (by omega) (by decide)))])
                have ksn_531 := KSh.w (h := 14 * kc2 + 110) en_531 ksn_524 (by unfold tS; omega)
                have e532 : n_531 0 = nI kc0 := by rw [en_531, pk_un (by omega)]; exact e525
                have e533 : n_531 8 = nI kc8 := by rw [en_531, pk_un (by omega)]; exact e526
                have e534 : n_531 2 = nI (kc2 + 1) := by rw [en_531, pk_un (by omega)]; exact e527
                have e535 : n_531 (14 * kc2 + 110) = nI 0 := by rw [en_531, pk_un (by omega)]; exact e528
                have e536 : n_531 (14 * kc2 + 111) = nI 0 := by rw [en_531, pk_un (by omega)]; exact e529
                have e537 : n_531 (14 * kc2 + 113) = nI 0 := by rw [en_531, pk_us]
                refine pm_iincX (v := nI 4) (loc' := [some (.ref (B + 54)), some (.int za), some (.int zb), some (.int zc), some (.int zd), some (.int (nI 1)), some (.int (nI kc2)), some (.int (nI 4))]) hG dX12_person_137 rfl (nI_1 _) (by decide) (pm_c1b rfl) rfl ?_
                refine pm_goto (tgt := 121) hG dX12_person_140 rfl ?_
                refine pm_iloadi hG dX12_person_121 rfl ?_
                refine pm_bipush (v := nI 14) hG dX12_person_123 (by decide) ?_
                refine pm_icmpN_ge (tgt := 143) hG dX12_person_125 rfl (by omega) (by omega) (fun q => absurd q (by omega)) (fun _ => ?_)
                refine pm_aloadn hG dX12_person_128 rfl ?_
                refine pm_iloadi hG dX12_person_129 rfl ?_
                refine pm_iloadi hG dX12_person_131 rfl ?_
                refine pm_iconst (v := nI 0) hG dX12_person_133 (by decide) ?_
                refine pm_callV (As := [.int (nI kc2), .int (nI 4), .int (nI 0)]) (rest := []) hG hR dX12_person_134 (lkX12_97 _ rfl) okV_X12_sets rfl rfl (m_sets (d := 2) (e := 14 * kc2 + 114) (by omega) (by omega) (by omega)) rfl rfl hdd (Nat.le_refl _) (Nat.le_refl _) (by decide) (pm_kv (fun σ' cnt' hq => ?_))
                obtain ⟨rfl, rfl⟩ := hq
                obtain ⟨n_538, en_538⟩ : ∃ f : Nat → Int32, f = upd n_531 (14 * kc2 + 114) (nI 0) := ⟨_, rfl⟩
                rw [← en_538]
                have hnn_538 := KI.w en_538 hnn_531 (okv_o (show kd (14 * kc2 + 114) = (2, 10, false) from (kd_P (k := kc2) (c := 4) (by omega) (by omega) (by decide))) (by omega))
                have hrn_538 := NRx.w en_538 hrn_531 (by rw [(show kd (14 * kc2 + 114) = (2, 10, false) from (kd_P (k := kc2) (c := 4) (by omega) (by omega) (by decide)))])
                have ksn_538 := KSh.w (h := 14 * kc2 + 110) en_538 ksn_531 (by unfold tS; omega)
                have e539 : n_538 0 = nI kc0 := by rw [en_538, pk_un (by omega)]; exact e532
                have e540 : n_538 8 = nI kc8 := by rw [en_538, pk_un (by omega)]; exact e533
                have e541 : n_538 2 = nI (kc2 + 1) := by rw [en_538, pk_un (by omega)]; exact e534
                have e542 : n_538 (14 * kc2 + 110) = nI 0 := by rw [en_538, pk_un (by omega)]; exact e535
                have e543 : n_538 (14 * kc2 + 111) = nI 0 := by rw [en_538, pk_un (by omega)]; exact e536
                have e544 : n_538 (14 * kc2 + 114) = nI 0 := by rw [en_538, pk_us]
                refine pm_iincX (v := nI 5) (loc' := [some (.ref (B + 54)), some (.int za), some (.int zb), some (.int zc), some (.int zd), some (.int (nI 1)), some (.int (nI kc2)), some (.int (nI 5))]) hG dX12_person_137 rfl (nI_1 _) (by decide) (pm_c1b rfl) rfl ?_
                refine pm_goto (tgt := 121) hG dX12_person_140 rfl ?_
                refine pm_iloadi hG dX12_person_121 rfl ?_
                refine pm_bipush (v := nI 14) hG dX12_person_123 (by decide) ?_
                refine pm_icmpN_ge (tgt := 143) hG dX12_person_125 rfl (by omega) (by omega) (fun q => absurd q (by omega)) (fun _ => ?_)
                refine pm_aloadn hG dX12_person_128 rfl ?_
                refine pm_iloadi hG dX12_person_129 rfl ?_
                refine pm_iloadi hG dX12_person_131 rfl ?_
                refine pm_iconst (v := nI 0) hG dX12_person_133 (by decide) ?_
                refine pm_callV (As := [.int (nI kc2), .int (nI 5), .int (nI 0)]) (rest := []) hG hR dX12_person_134 (lkX12_97 _ rfl) okV_X12_sets rfl rfl (m_sets (d := 2) (e := 14 * kc2 + 115) (by omega) (by omega) (by omega)) rfl rfl hdd (Nat.le_refl _) (Nat.le_refl _) (by decide) (pm_kv (fun σ' cnt' hq => ?_))
                obtain ⟨rfl, rfl⟩ := hq
                obtain ⟨n_545, en_545⟩ : ∃ f : Nat → Int32, f = upd n_538 (14 * kc2 + 115) (nI 0) := ⟨_, rfl⟩
                rw [← en_545]
                have hnn_545 := KI.w en_545 hnn_538 (okv_n (show kd (14 * kc2 + 115) = (1, 10, false) from (kd_P (k := kc2) (c := 5) (by omega) (by omega) (by decide))) (by omega))
                have hrn_545 := NRx.w en_545 hrn_538 (by rw [(show kd (14 * kc2 + 115) = (1, 10, false) from (kd_P (k := kc2) (c := 5) (by omega) (by omega) (by decide)))])
                have ksn_545 := KSh.w (h := 14 * kc2 + 110) en_545 ksn_538 (by unfold tS; omega)
                have e546 : n_545 0 = nI kc0 := by rw [en_545, pk_un (by omega)]; exact e539
                have e547 : n_545 8 = nI kc8 := by rw [en_545, pk_un (by omega)]; exact e540
                have e548 : n_545 2 = nI (kc2 + 1) := by rw [en_545, pk_un (by omega)]; exact e541
                have e549 : n_545 (14 * kc2 + 110) = nI 0 := by rw [en_545, pk_un (by omega)]; exact e542
                have e550 : n_545 (14 * kc2 + 111) = nI 0 := by rw [en_545, pk_un (by omega)]; exact e543
                have e551 : n_545 (14 * kc2 + 115) = nI 0 := by rw [en_545, pk_us]
                refine pm_iincX (v := nI 6) (loc' := [some (.ref (B + 54)), some (.int za), some (.int zb), some (.int zc), some (.int zd), some (.int (nI 1)), some (.int (nI kc2)), some (.int (nI 6))]) hG dX12_person_137 rfl (nI_1 _) (by decide) (pm_c1b rfl) rfl ?_
                refine pm_goto (tgt := 121) hG dX12_person_140 rfl ?_
                refine pm_iloadi hG dX12_person_121 rfl ?_
                refine pm_bipush (v := nI 14) hG dX12_person_123 (by decide) ?_
                refine pm_icmpN_ge (tgt := 143) hG dX12_person_125 rfl (by omega) (by omega) (fun q => absurd q (by omega)) (fun _ => ?_)
                refine pm_aloadn hG dX12_person_128 rfl ?_
                refine pm_iloadi hG dX12_person_129 rfl ?_
                refine pm_iloadi hG dX12_person_131 rfl ?_
                refine pm_iconst (v := nI 0) hG dX12_person_133 (by decide) ?_
                refine pm_callV (As := [.int (nI kc2), .int (nI 6), .int (nI 0)]) (rest := []) hG hR dX12_person_134 (lkX12_97 _ rfl) okV_X12_sets rfl rfl (m_sets (d := 2) (e := 14 * kc2 + 116) (by omega) (by omega) (by omega)) rfl rfl hdd (Nat.le_refl _) (Nat.le_refl _) (by decide) (pm_kv (fun σ' cnt' hq => ?_))
                obtain ⟨rfl, rfl⟩ := hq
                obtain ⟨n_552, en_552⟩ : ∃ f : Nat → Int32, f = upd n_545 (14 * kc2 + 116) (nI 0) := ⟨_, rfl⟩
                rw [← en_552]
                have hnn_552 := KI.w en_552 hnn_545 (okv_f (show kd (14 * kc2 + 116) = (0, 0, false) from (kd_P (k := kc2) (c := 6) (by omega) (by omega) (by decide))))
                have hrn_552 := NRx.w en_552 hrn_545 (by rw [(show kd (14 * kc2 + 116) = (0, 0, false) from (kd_P (k := kc2) (c := 6) (by omega) (by omega) (by decide)))])
                have ksn_552 := KSh.w (h := 14 * kc2 + 110) en_552 ksn_545 (by unfold tS; omega)
                have e553 : n_552 0 = nI kc0 := by rw [en_552, pk_un (by omega)]; exact e546
                have e554 : n_552 8 = nI kc8 := by rw [en_552, pk_un (by omega)]; exact e547
                have e555 : n_552 2 = nI (kc2 + 1) := by rw [en_552, pk_un (by omega)]; exact e548
                have e556 : n_552 (14 * kc2 + 110) = nI 0 := by rw [en_552, pk_un (by omega)]; exact e549
                have e557 : n_552 (14 * kc2 + 111) = nI 0 := by rw [en_552, pk_un (by omega)]; exact e550
                have e558 : n_552 (14 * kc2 + 116) = nI 0 := by rw [en_552, pk_us]
                refine pm_iincX (v := nI 7) (loc' := [some (.ref (B + 54)), some (.int za), some (.int zb), some (.int zc), some (.int zd), some (.int (nI 1)), some (.int (nI kc2)), some (.int (nI 7))]) hG dX12_person_137 rfl (nI_1 _) (by decide) (pm_c1b rfl) rfl ?_
                refine pm_goto (tgt := 121) hG dX12_person_140 rfl ?_
                refine pm_iloadi hG dX12_person_121 rfl ?_
                refine pm_bipush (v := nI 14) hG dX12_person_123 (by decide) ?_
                refine pm_icmpN_ge (tgt := 143) hG dX12_person_125 rfl (by omega) (by omega) (fun q => absurd q (by omega)) (fun _ => ?_)
                refine pm_aloadn hG dX12_person_128 rfl ?_
                refine pm_iloadi hG dX12_person_129 rfl ?_
                refine pm_iloadi hG dX12_person_131 rfl ?_
                refine pm_iconst (v := nI 0) hG dX12_person_133 (by decide) ?_
                refine pm_callV (As := [.int (nI kc2), .int (nI 7), .int (nI 0)]) (rest := []) hG hR dX12_person_134 (lkX12_97 _ rfl) okV_X12_sets rfl rfl (m_sets (d := 2) (e := 14 * kc2 + 117) (by omega) (by omega) (by omega)) rfl rfl hdd (Nat.le_refl _) (Nat.le_refl _) (by decide) (pm_kv (fun σ' cnt' hq => ?_))
                obtain ⟨rfl, rfl⟩ := hq
                obtain ⟨n_559, en_559⟩ : ∃ f : Nat → Int32, f = upd n_552 (14 * kc2 + 117) (nI 0) := ⟨_, rfl⟩
                rw [← en_559]
                have hnn_559 := KI.w en_559 hnn_552 (okv_f (show kd (14 * kc2 + 117) = (0, 0, false) from (kd_P (k := kc2) (c := 7) (by omega) (by omega) (by decide))))
                have hrn_559 := NRx.w en_559 hrn_552 (by rw [(show kd (14 * kc2 + 117) = (0, 0, false) from (kd_P (k := kc2) (c := 7) (by omega) (by omega) (by decide)))])
                have ksn_559 := KSh.w (h := 14 * kc2 + 110) en_559 ksn_552 (by unfold tS; omega)
                have e560 : n_559 0 = nI kc0 := by rw [en_559, pk_un (by omega)]; exact e553
                have e561 : n_559 8 = nI kc8 := by rw [en_559, pk_un (by omega)]; exact e554
                have e562 : n_559 2 = nI (kc2 + 1) := by rw [en_559, pk_un (by omega)]; exact e555
                have e563 : n_559 (14 * kc2 + 110) = nI 0 := by rw [en_559, pk_un (by omega)]; exact e556
                have e564 : n_559 (14 * kc2 + 111) = nI 0 := by rw [en_559, pk_un (by omega)]; exact e557
                have e565 : n_559 (14 * kc2 + 117) = nI 0 := by rw [en_559, pk_us]
                refine pm_iincX (v := nI 8) (loc' := [some (.ref (B + 54)), some (.int za), some (.int zb), some (.int zc), some (.int zd), some (.int (nI 1)), some (.int (nI kc2)), some (.int (nI 8))]) hG dX12_person_137 rfl (nI_1 _) (by decide) (pm_c1b rfl) rfl ?_
                refine pm_goto (tgt := 121) hG dX12_person_140 rfl ?_
                refine pm_iloadi hG dX12_person_121 rfl ?_
                refine pm_bipush (v := nI 14) hG dX12_person_123 (by decide) ?_
                refine pm_icmpN_ge (tgt := 143) hG dX12_person_125 rfl (by omega) (by omega) (fun q => absurd q (by omega)) (fun _ => ?_)
                refine pm_aloadn hG dX12_person_128 rfl ?_
                refine pm_iloadi hG dX12_person_129 rfl ?_
                refine pm_iloadi hG dX12_person_131 rfl ?_
                refine pm_iconst (v := nI 0) hG dX12_person_133 (by decide) ?_
                refine pm_callV (As := [.int (nI kc2), .int (nI 8), .int (nI 0)]) (rest := []) hG hR dX12_person_134 (lkX12_97 _ rfl) okV_X12_sets rfl rfl (m_sets (d := 2) (e := 14 * kc2 + 118) (by omega) (by omega) (by omega)) rfl rfl hdd (Nat.le_refl _) (Nat.le_refl _) (by decide) (pm_kv (fun σ' cnt' hq => ?_))
                obtain ⟨rfl, rfl⟩ := hq
                obtain ⟨n_566, en_566⟩ : ∃ f : Nat → Int32, f = upd n_559 (14 * kc2 + 118) (nI 0) := ⟨_, rfl⟩
                rw [← en_566]
                have hnn_566 := KI.w en_566 hnn_559 (okv_f (show kd (14 * kc2 + 118) = (0, 0, false) from (kd_P (k := kc2) (c := 8) (by omega) (by omega) (by decide))))
                have hrn_566 := NRx.w en_566 hrn_559 (by rw [(show kd (14 * kc2 + 118) = (0, 0, false) from (kd_P (k := kc2) (c := 8) (by omega) (by omega) (by decide)))])
                have ksn_566 := KSh.w (h := 14 * kc2 + 110) en_566 ksn_559 (by unfold tS; omega)
                have e567 : n_566 0 = nI kc0 := by rw [en_566, pk_un (by omega)]; exact e560
                have e568 : n_566 8 = nI kc8 := by rw [en_566, pk_un (by omega)]; exact e561
                have e569 : n_566 2 = nI (kc2 + 1) := by rw [en_566, pk_un (by omega)]; exact e562
                have e570 : n_566 (14 * kc2 + 110) = nI 0 := by rw [en_566, pk_un (by omega)]; exact e563
                have e571 : n_566 (14 * kc2 + 111) = nI 0 := by rw [en_566, pk_un (by omega)]; exact e564
                have e572 : n_566 (14 * kc2 + 118) = nI 0 := by rw [en_566, pk_us]
                refine pm_iincX (v := nI 9) (loc' := [some (.ref (B + 54)), some (.int za), some (.int zb), some (.int zc), some (.int zd), some (.int (nI 1)), some (.int (nI kc2)), some (.int (nI 9))]) hG dX12_person_137 rfl (nI_1 _) (by decide) (pm_c1b rfl) rfl ?_
                refine pm_goto (tgt := 121) hG dX12_person_140 rfl ?_
                refine pm_iloadi hG dX12_person_121 rfl ?_
                refine pm_bipush (v := nI 14) hG dX12_person_123 (by decide) ?_
                refine pm_icmpN_ge (tgt := 143) hG dX12_person_125 rfl (by omega) (by omega) (fun q => absurd q (by omega)) (fun _ => ?_)
                refine pm_aloadn hG dX12_person_128 rfl ?_
                refine pm_iloadi hG dX12_person_129 rfl ?_
                refine pm_iloadi hG dX12_person_131 rfl ?_
                refine pm_iconst (v := nI 0) hG dX12_person_133 (by decide) ?_
                refine pm_callV (As := [.int (nI kc2), .int (nI 9), .int (nI 0)]) (rest := []) hG hR dX12_person_134 (lkX12_97 _ rfl) okV_X12_sets rfl rfl (m_sets (d := 2) (e := 14 * kc2 + 119) (by omega) (by omega) (by omega)) rfl rfl hdd (Nat.le_refl _) (Nat.le_refl _) (by decide) (pm_kv (fun σ' cnt' hq => ?_))
                obtain ⟨rfl, rfl⟩ := hq
                obtain ⟨n_573, en_573⟩ : ∃ f : Nat → Int32, f = upd n_566 (14 * kc2 + 119) (nI 0) := ⟨_, rfl⟩
                rw [← en_573]
                have hnn_573 := KI.w en_573 hnn_566 (okv_o (show kd (14 * kc2 + 119) = (2, 2001, false) from (kd_P (k := kc2) (c := 9) (by omega) (by omega) (by decide))) (by omega))
                have hrn_573 := NRx.w en_573 hrn_566 (by rw [(show kd (14 * kc2 + 119) = (2, 2001, false) from (kd_P (k := kc2) (c := 9) (by omega) (by omega) (by decide)))])
                have ksn_573 := KSh.w (h := 14 * kc2 + 110) en_573 ksn_566 (by unfold tS; omega)
                have e574 : n_573 0 = nI kc0 := by rw [en_573, pk_un (by omega)]; exact e567
                have e575 : n_573 8 = nI kc8 := by rw [en_573, pk_un (by omega)]; exact e568
                have e576 : n_573 2 = nI (kc2 + 1) := by rw [en_573, pk_un (by omega)]; exact e569
                have e577 : n_573 (14 * kc2 + 110) = nI 0 := by rw [en_573, pk_un (by omega)]; exact e570
                have e578 : n_573 (14 * kc2 + 111) = nI 0 := by rw [en_573, pk_un (by omega)]; exact e571
                have e579 : n_573 (14 * kc2 + 119) = nI 0 := by rw [en_573, pk_us]
                refine pm_iincX (v := nI 10) (loc' := [some (.ref (B + 54)), some (.int za), some (.int zb), some (.int zc), some (.int zd), some (.int (nI 1)), some (.int (nI kc2)), some (.int (nI 10))]) hG dX12_person_137 rfl (nI_1 _) (by decide) (pm_c1b rfl) rfl ?_
                refine pm_goto (tgt := 121) hG dX12_person_140 rfl ?_
                refine pm_iloadi hG dX12_person_121 rfl ?_
                refine pm_bipush (v := nI 14) hG dX12_person_123 (by decide) ?_
                refine pm_icmpN_ge (tgt := 143) hG dX12_person_125 rfl (by omega) (by omega) (fun q => absurd q (by omega)) (fun _ => ?_)
                refine pm_aloadn hG dX12_person_128 rfl ?_
                refine pm_iloadi hG dX12_person_129 rfl ?_
                refine pm_iloadi hG dX12_person_131 rfl ?_
                refine pm_iconst (v := nI 0) hG dX12_person_133 (by decide) ?_
                refine pm_callV (As := [.int (nI kc2), .int (nI 10), .int (nI 0)]) (rest := []) hG hR dX12_person_134 (lkX12_97 _ rfl) okV_X12_sets rfl rfl (m_sets (d := 2) (e := 14 * kc2 + 120) (by omega) (by omega) (by omega)) rfl rfl hdd (Nat.le_refl _) (Nat.le_refl _) (by decide) (pm_kv (fun σ' cnt' hq => ?_))
                obtain ⟨rfl, rfl⟩ := hq
                obtain ⟨n_580, en_580⟩ : ∃ f : Nat → Int32, f = upd n_573 (14 * kc2 + 120) (nI 0) := ⟨_, rfl⟩
                rw [← en_580]
                have hnn_580 := KI.w en_580 hnn_573 (okv_f (show kd (14 * kc2 + 120) = (0, 0, false) from (kd_P (k := kc2) (c := 10) (by omega) (by omega) (by decide))))
                have hrn_580 := NRx.w en_580 hrn_573 (by rw [(show kd (14 * kc2 + 120) = (0, 0, false) from (kd_P (k := kc2) (c := 10) (by omega) (by omega) (by decide)))])
                have ksn_580 := KSh.w (h := 14 * kc2 + 110) en_580 ksn_573 (by unfold tS; omega)
                have e581 : n_580 0 = nI kc0 := by rw [en_580, pk_un (by omega)]; exact e574
                have e582 : n_580 8 = nI kc8 := by rw [en_580, pk_un (by omega)]; exact e575
                have e583 : n_580 2 = nI (kc2 + 1) := by rw [en_580, pk_un (by omega)]; exact e576
                have e584 : n_580 (14 * kc2 + 110) = nI 0 := by rw [en_580, pk_un (by omega)]; exact e577
                have e585 : n_580 (14 * kc2 + 111) = nI 0 := by rw [en_580, pk_un (by omega)]; exact e578
                have e586 : n_580 (14 * kc2 + 120) = nI 0 := by rw [en_580, pk_us]
                refine pm_iincX (v := nI 11) (loc' := [some (.ref (B + 54)), some (.int za), some (.int zb), some (.int zc), some (.int zd), some (.int (nI 1)), some (.int (nI kc2)), some (.int (nI 11))]) hG dX12_person_137 rfl (nI_1 _) (by decide) (pm_c1b rfl) rfl ?_
                refine pm_goto (tgt := 121) hG dX12_person_140 rfl ?_
                refine pm_iloadi hG dX12_person_121 rfl ?_
                refine pm_bipush (v := nI 14) hG dX12_person_123 (by decide) ?_
                refine pm_icmpN_ge (tgt := 143) hG dX12_person_125 rfl (by omega) (by omega) (fun q => absurd q (by omega)) (fun _ => ?_)
                refine pm_aloadn hG dX12_person_128 rfl ?_
                refine pm_iloadi hG dX12_person_129 rfl ?_
                refine pm_iloadi hG dX12_person_131 rfl ?_
                refine pm_iconst (v := nI 0) hG dX12_person_133 (by decide) ?_
                refine pm_callV (As := [.int (nI kc2), .int (nI 11), .int (nI 0)]) (rest := []) hG hR dX12_person_134 (lkX12_97 _ rfl) okV_X12_sets rfl rfl (m_sets (d := 2) (e := 14 * kc2 + 121) (by omega) (by omega) (by omega)) rfl rfl hdd (Nat.le_refl _) (Nat.le_refl _) (by decide) (pm_kv (fun σ' cnt' hq => ?_))
                obtain ⟨rfl, rfl⟩ := hq
                obtain ⟨n_587, en_587⟩ : ∃ f : Nat → Int32, f = upd n_580 (14 * kc2 + 121) (nI 0) := ⟨_, rfl⟩
                rw [← en_587]
                have hnn_587 := KI.w en_587 hnn_580 (okv_n (show kd (14 * kc2 + 121) = (1, 2, true) from (kd_P (k := kc2) (c := 11) (by omega) (by omega) (by decide))) (by omega))
                have hrn_587 := NRx.unseat (p := kc2) en_587 hrn_580 (by omega)
                have ksn_587 := KSh.w (h := 14 * kc2 + 110) en_587 ksn_580 (by unfold tS; omega)
                have e588 : n_587 0 = nI kc0 := by rw [en_587, pk_un (by omega)]; exact e581
                have e589 : n_587 8 = nI kc8 := by rw [en_587, pk_un (by omega)]; exact e582
                have e590 : n_587 2 = nI (kc2 + 1) := by rw [en_587, pk_un (by omega)]; exact e583
                have e591 : n_587 (14 * kc2 + 110) = nI 0 := by rw [en_587, pk_un (by omega)]; exact e584
                have e592 : n_587 (14 * kc2 + 111) = nI 0 := by rw [en_587, pk_un (by omega)]; exact e585
                have e593 : n_587 (14 * kc2 + 121) = nI 0 := by rw [en_587, pk_us]
                refine pm_iincX (v := nI 12) (loc' := [some (.ref (B + 54)), some (.int za), some (.int zb), some (.int zc), some (.int zd), some (.int (nI 1)), some (.int (nI kc2)), some (.int (nI 12))]) hG dX12_person_137 rfl (nI_1 _) (by decide) (pm_c1b rfl) rfl ?_
                refine pm_goto (tgt := 121) hG dX12_person_140 rfl ?_
                refine pm_iloadi hG dX12_person_121 rfl ?_
                refine pm_bipush (v := nI 14) hG dX12_person_123 (by decide) ?_
                refine pm_icmpN_ge (tgt := 143) hG dX12_person_125 rfl (by omega) (by omega) (fun q => absurd q (by omega)) (fun _ => ?_)
                refine pm_aloadn hG dX12_person_128 rfl ?_
                refine pm_iloadi hG dX12_person_129 rfl ?_
                refine pm_iloadi hG dX12_person_131 rfl ?_
                refine pm_iconst (v := nI 0) hG dX12_person_133 (by decide) ?_
                refine pm_callV (As := [.int (nI kc2), .int (nI 12), .int (nI 0)]) (rest := []) hG hR dX12_person_134 (lkX12_97 _ rfl) okV_X12_sets rfl rfl (m_sets (d := 2) (e := 14 * kc2 + 122) (by omega) (by omega) (by omega)) rfl rfl hdd (Nat.le_refl _) (Nat.le_refl _) (by decide) (pm_kv (fun σ' cnt' hq => ?_))
                obtain ⟨rfl, rfl⟩ := hq
                obtain ⟨n_594, en_594⟩ : ∃ f : Nat → Int32, f = upd n_587 (14 * kc2 + 122) (nI 0) := ⟨_, rfl⟩
                rw [← en_594]
                have hnn_594 := KI.w en_594 hnn_587 (okv_f (show kd (14 * kc2 + 122) = (0, 0, false) from (kd_P (k := kc2) (c := 12) (by omega) (by omega) (by decide))))
                have hrn_594 := NRx.w en_594 hrn_587 (by rw [(show kd (14 * kc2 + 122) = (0, 0, false) from (kd_P (k := kc2) (c := 12) (by omega) (by omega) (by decide)))])
                have ksn_594 := KSh.w (h := 14 * kc2 + 110) en_594 ksn_587 (by unfold tS; omega)
                have e595 : n_594 0 = nI kc0 := by rw [en_594, pk_un (by omega)]; exact e588
                have e596 : n_594 8 = nI kc8 := by rw [en_594, pk_un (by omega)]; exact e589
                have e597 : n_594 2 = nI (kc2 + 1) := by rw [en_594, pk_un (by omega)]; exact e590
                have e598 : n_594 (14 * kc2 + 110) = nI 0 := by rw [en_594, pk_un (by omega)]; exact e591
                have e599 : n_594 (14 * kc2 + 111) = nI 0 := by rw [en_594, pk_un (by omega)]; exact e592
                have e600 : n_594 (14 * kc2 + 122) = nI 0 := by rw [en_594, pk_us]
                refine pm_iincX (v := nI 13) (loc' := [some (.ref (B + 54)), some (.int za), some (.int zb), some (.int zc), some (.int zd), some (.int (nI 1)), some (.int (nI kc2)), some (.int (nI 13))]) hG dX12_person_137 rfl (nI_1 _) (by decide) (pm_c1b rfl) rfl ?_
                refine pm_goto (tgt := 121) hG dX12_person_140 rfl ?_
                refine pm_iloadi hG dX12_person_121 rfl ?_
                refine pm_bipush (v := nI 14) hG dX12_person_123 (by decide) ?_
                refine pm_icmpN_ge (tgt := 143) hG dX12_person_125 rfl (by omega) (by omega) (fun q => absurd q (by omega)) (fun _ => ?_)
                refine pm_aloadn hG dX12_person_128 rfl ?_
                refine pm_iloadi hG dX12_person_129 rfl ?_
                refine pm_iloadi hG dX12_person_131 rfl ?_
                refine pm_iconst (v := nI 0) hG dX12_person_133 (by decide) ?_
                refine pm_callV (As := [.int (nI kc2), .int (nI 13), .int (nI 0)]) (rest := []) hG hR dX12_person_134 (lkX12_97 _ rfl) okV_X12_sets rfl rfl (m_sets (d := 2) (e := 14 * kc2 + 123) (by omega) (by omega) (by omega)) rfl rfl hdd (Nat.le_refl _) (Nat.le_refl _) (by decide) (pm_kv (fun σ' cnt' hq => ?_))
                obtain ⟨rfl, rfl⟩ := hq
                obtain ⟨n_601, en_601⟩ : ∃ f : Nat → Int32, f = upd n_594 (14 * kc2 + 123) (nI 0) := ⟨_, rfl⟩
                rw [← en_601]
                have hnn_601 := KI.w en_601 hnn_594 (okv_f (show kd (14 * kc2 + 123) = (0, 0, false) from (kd_P (k := kc2) (c := 13) (by omega) (by omega) (by decide))))
                have hrn_601 := NRx.w en_601 hrn_594 (by rw [(show kd (14 * kc2 + 123) = (0, 0, false) from (kd_P (k := kc2) (c := 13) (by omega) (by omega) (by decide)))])
                have ksn_601 := KSh.w (h := 14 * kc2 + 110) en_601 ksn_594 (by unfold tS; omega)
                have e602 : n_601 0 = nI kc0 := by rw [en_601, pk_un (by omega)]; exact e595
                have e603 : n_601 8 = nI kc8 := by rw [en_601, pk_un (by omega)]; exact e596
                have e604 : n_601 2 = nI (kc2 + 1) := by rw [en_601, pk_un (by omega)]; exact e597
                have e605 : n_601 (14 * kc2 + 110) = nI 0 := by rw [en_601, pk_un (by omega)]; exact e598
                have e606 : n_601 (14 * kc2 + 111) = nI 0 := by rw [en_601, pk_un (by omega)]; exact e599
                have e607 : n_601 (14 * kc2 + 123) = nI 0 := by rw [en_601, pk_us]
                refine pm_iincX (v := nI 14) (loc' := [some (.ref (B + 54)), some (.int za), some (.int zb), some (.int zc), some (.int zd), some (.int (nI 1)), some (.int (nI kc2)), some (.int (nI 14))]) hG dX12_person_137 rfl (nI_1 _) (by decide) (pm_c1b rfl) rfl ?_
                refine pm_goto (tgt := 121) hG dX12_person_140 rfl ?_
                refine pm_iloadi hG dX12_person_121 rfl ?_
                refine pm_bipush (v := nI 14) hG dX12_person_123 (by decide) ?_
                refine pm_icmpN_ge (tgt := 143) hG dX12_person_125 rfl (by omega) (by omega) (fun _ => ?_) (fun q => absurd q (by omega))
                refine pm_aloadn hG dX12_person_143 rfl ?_
                refine pm_iloadi hG dX12_person_144 rfl ?_
                refine pm_iconst (v := nI 0) hG dX12_person_146 (by decide) ?_
                refine pm_iloadn hG dX12_person_147 rfl ?_
                refine pm_top (v := nI k3) ek3 ?_
                refine pm_callV (As := [.int (nI kc2), .int (nI 0), .int (nI k3)]) (rest := []) hG hR dX12_person_148 (lkX12_97 _ rfl) okV_X12_sets rfl rfl (m_sets (d := 2) (e := 14 * kc2 + 110) (by omega) (by omega) (by omega)) rfl rfl hdd (Nat.le_refl _) (Nat.le_refl _) (by decide) (pm_kv (fun σ' cnt' hq => ?_))
                obtain ⟨rfl, rfl⟩ := hq
                obtain ⟨n_608, en_608⟩ : ∃ f : Nat → Int32, f = upd n_601 (14 * kc2 + 110) (nI k3) := ⟨_, rfl⟩
                rw [← en_608]
                have hnn_608 := KI.w en_608 hnn_601 (okv_f (show kd (14 * kc2 + 110) = (0, 0, false) from (kd_P (k := kc2) (c := 0) (by omega) (by omega) (by decide))))
                have hrn_608 := NRx.w en_608 hrn_601 (by rw [(show kd (14 * kc2 + 110) = (0, 0, false) from (kd_P (k := kc2) (c := 0) (by omega) (by omega) (by decide)))])
                have ksn_608 := KSh.w (h := 14 * kc2 + 110) en_608 ksn_601 (by unfold tS; omega)
                have e609 : n_608 0 = nI kc0 := by rw [en_608, pk_un (by omega)]; exact e602
                have e610 : n_608 8 = nI kc8 := by rw [en_608, pk_un (by omega)]; exact e603
                have e611 : n_608 2 = nI (kc2 + 1) := by rw [en_608, pk_un (by omega)]; exact e604
                have e612 : n_608 (14 * kc2 + 111) = nI 0 := by rw [en_608, pk_un (by omega)]; exact e606
                have e613 : n_608 (14 * kc2 + 110) = nI k3 := by rw [en_608, pk_us]
                refine pm_aloadn hG dX12_person_151 rfl ?_
                refine pm_iloadi hG dX12_person_152 rfl ?_
                refine pm_iconst (v := nI 1) hG dX12_person_154 (by decide) ?_
                refine pm_iloadn hG dX12_person_155 rfl ?_
                refine pm_callV (As := [.int (nI kc2), .int (nI 1), .int zb]) (rest := []) hG hR dX12_person_156 (lkX12_97 _ rfl) okV_X12_sets rfl rfl (m_sets (d := 2) (e := 14 * kc2 + 111) (by omega) (by omega) (by omega)) rfl rfl hdd (Nat.le_refl _) (Nat.le_refl _) (by decide) (pm_kv (fun σ' cnt' hq => ?_))
                obtain ⟨rfl, rfl⟩ := hq
                obtain ⟨n_614, en_614⟩ : ∃ f : Nat → Int32, f = upd n_608 (14 * kc2 + 111) zb := ⟨_, rfl⟩
                rw [← en_614]
                have hnn_614 := KI.w en_614 hnn_608 (okv_f (show kd (14 * kc2 + 111) = (0, 0, false) from (kd_P (k := kc2) (c := 1) (by omega) (by omega) (by decide))))
                have hrn_614 := NRx.w en_614 hrn_608 (by rw [(show kd (14 * kc2 + 111) = (0, 0, false) from (kd_P (k := kc2) (c := 1) (by omega) (by omega) (by decide)))])
                have ksn_614 := KSh.w (h := 14 * kc2 + 110) en_614 ksn_608 (by unfold tS; omega)
                have e615 : n_614 0 = nI kc0 := by rw [en_614, pk_un (by omega)]; exact e609
                have e616 : n_614 8 = nI kc8 := by rw [en_614, pk_un (by omega)]; exact e610
                have e617 : n_614 2 = nI (kc2 + 1) := by rw [en_614, pk_un (by omega)]; exact e611
                have e618 : n_614 (14 * kc2 + 110) = nI k3 := by rw [en_614, pk_un (by omega)]; exact e613
                have e619 : n_614 (14 * kc2 + 111) = zb := by rw [en_614, pk_us]
                refine pm_aloadn hG dX12_person_159 rfl ?_
                refine pm_iloadi hG dX12_person_160 rfl ?_
                refine pm_iconst (v := nI 2) hG dX12_person_162 (by decide) ?_
                refine pm_iloadn hG dX12_person_163 rfl ?_
                refine pm_top (v := nI k9) ek9 ?_
                refine pm_bipush (v := nI 100) hG dX12_person_164 (by decide) ?_
                refine pm_idivN hG dX12_person_166 (by omega) (by decide) (by decide) ?_
                refine pm_iconst (v := nI 1) hG dX12_person_167 (by decide) ?_
                refine pm_isub hG dX12_person_168 ?_
                refine pm_top (v := nI k11) ek11 ?_
                refine pm_callV (As := [.int (nI kc2), .int (nI 2), .int (nI k11)]) (rest := []) hG hR dX12_person_169 (lkX12_97 _ rfl) okV_X12_sets rfl rfl (m_sets (d := 2) (e := 14 * kc2 + 112) (by omega) (by omega) (by omega)) rfl rfl hdd (Nat.le_refl _) (Nat.le_refl _) (by decide) (pm_kv (fun σ' cnt' hq => ?_))
                obtain ⟨rfl, rfl⟩ := hq
                obtain ⟨n_620, en_620⟩ : ∃ f : Nat → Int32, f = upd n_614 (14 * kc2 + 112) (nI k11) := ⟨_, rfl⟩
                rw [← en_620]
                have hnn_620 := KI.w en_620 hnn_614 (okv_o (show kd (14 * kc2 + 112) = (2, 20, false) from (kd_P (k := kc2) (c := 2) (by omega) (by omega) (by decide))) (by omega))
                have hrn_620 := NRx.w en_620 hrn_614 (by rw [(show kd (14 * kc2 + 112) = (2, 20, false) from (kd_P (k := kc2) (c := 2) (by omega) (by omega) (by decide)))])
                have ksn_620 := KSh.w (h := 14 * kc2 + 110) en_620 ksn_614 (by unfold tS; omega)
                have e621 : n_620 0 = nI kc0 := by rw [en_620, pk_un (by omega)]; exact e615
                have e622 : n_620 8 = nI kc8 := by rw [en_620, pk_un (by omega)]; exact e616
                have e623 : n_620 2 = nI (kc2 + 1) := by rw [en_620, pk_un (by omega)]; exact e617
                have e624 : n_620 (14 * kc2 + 110) = nI k3 := by rw [en_620, pk_un (by omega)]; exact e618
                have e625 : n_620 (14 * kc2 + 111) = zb := by rw [en_620, pk_un (by omega)]; exact e619
                have e626 : n_620 (14 * kc2 + 112) = nI k11 := by rw [en_620, pk_us]
                refine pm_aloadn hG dX12_person_172 rfl ?_
                refine pm_iloadi hG dX12_person_173 rfl ?_
                refine pm_iconst (v := nI 3) hG dX12_person_175 (by decide) ?_
                refine pm_iloadn hG dX12_person_176 rfl ?_
                refine pm_top (v := nI k9) ek9 ?_
                refine pm_bipush (v := nI 100) hG dX12_person_177 (by decide) ?_
                refine pm_iremM hG dX12_person_179 (by omega) (by decide) (by decide) ?_
                refine pm_iconst (v := nI 1) hG dX12_person_180 (by decide) ?_
                refine pm_isub hG dX12_person_181 ?_
                refine pm_top (v := nI k341) ek341 ?_
                refine pm_callV (As := [.int (nI kc2), .int (nI 3), .int (nI k341)]) (rest := []) hG hR dX12_person_182 (lkX12_97 _ rfl) okV_X12_sets rfl rfl (m_sets (d := 2) (e := 14 * kc2 + 113) (by omega) (by omega) (by omega)) rfl rfl hdd (Nat.le_refl _) (Nat.le_refl _) (by decide) (pm_kv (fun σ' cnt' hq => ?_))
                obtain ⟨rfl, rfl⟩ := hq
                obtain ⟨n_627, en_627⟩ : ∃ f : Nat → Int32, f = upd n_620 (14 * kc2 + 113) (nI k341) := ⟨_, rfl⟩
                rw [← en_627]
                have hnn_627 := KI.w en_627 hnn_620 (okv_o (show kd (14 * kc2 + 113) = (2, 20, false) from (kd_P (k := kc2) (c := 3) (by omega) (by omega) (by decide))) (by omega))
                have hrn_627 := NRx.w en_627 hrn_620 (by rw [(show kd (14 * kc2 + 113) = (2, 20, false) from (kd_P (k := kc2) (c := 3) (by omega) (by omega) (by decide)))])
                have ksn_627 := KSh.w (h := 14 * kc2 + 110) en_627 ksn_620 (by unfold tS; omega)
                have e628 : n_627 0 = nI kc0 := by rw [en_627, pk_un (by omega)]; exact e621
                have e629 : n_627 8 = nI kc8 := by rw [en_627, pk_un (by omega)]; exact e622
                have e630 : n_627 2 = nI (kc2 + 1) := by rw [en_627, pk_un (by omega)]; exact e623
                have e631 : n_627 (14 * kc2 + 110) = nI k3 := by rw [en_627, pk_un (by omega)]; exact e624
                have e632 : n_627 (14 * kc2 + 111) = zb := by rw [en_627, pk_un (by omega)]; exact e625
                have e633 : n_627 (14 * kc2 + 113) = nI k341 := by rw [en_627, pk_us]
                refine pm_aloadn hG dX12_person_185 rfl ?_
                refine pm_iloadi hG dX12_person_186 rfl ?_
                refine pm_iconst (v := nI 4) hG dX12_person_188 (by decide) ?_
                refine pm_iloadi hG dX12_person_189 rfl ?_
                refine pm_top (v := nI k507) ek507 ?_
                refine pm_callV (As := [.int (nI kc2), .int (nI 4), .int (nI k507)]) (rest := []) hG hR dX12_person_191 (lkX12_97 _ rfl) okV_X12_sets rfl rfl (m_sets (d := 2) (e := 14 * kc2 + 114) (by omega) (by omega) (by omega)) rfl rfl hdd (Nat.le_refl _) (Nat.le_refl _) (by decide) (pm_kv (fun σ' cnt' hq => ?_))
                obtain ⟨rfl, rfl⟩ := hq
                obtain ⟨n_634, en_634⟩ : ∃ f : Nat → Int32, f = upd n_627 (14 * kc2 + 114) (nI k507) := ⟨_, rfl⟩
                rw [← en_634]
                have hnn_634 := KI.w en_634 hnn_627 (okv_o (show kd (14 * kc2 + 114) = (2, 10, false) from (kd_P (k := kc2) (c := 4) (by omega) (by omega) (by decide))) (by omega))
                have hrn_634 := NRx.w en_634 hrn_627 (by rw [(show kd (14 * kc2 + 114) = (2, 10, false) from (kd_P (k := kc2) (c := 4) (by omega) (by omega) (by decide)))])
                have ksn_634 := KSh.w (h := 14 * kc2 + 110) en_634 ksn_627 (by unfold tS; omega)
                have e635 : n_634 0 = nI kc0 := by rw [en_634, pk_un (by omega)]; exact e628
                have e636 : n_634 8 = nI kc8 := by rw [en_634, pk_un (by omega)]; exact e629
                have e637 : n_634 2 = nI (kc2 + 1) := by rw [en_634, pk_un (by omega)]; exact e630
                have e638 : n_634 (14 * kc2 + 110) = nI k3 := by rw [en_634, pk_un (by omega)]; exact e631
                have e639 : n_634 (14 * kc2 + 111) = zb := by rw [en_634, pk_un (by omega)]; exact e632
                have e640 : n_634 (14 * kc2 + 114) = nI k507 := by rw [en_634, pk_us]
                refine pm_aloadn hG dX12_person_194 rfl ?_
                refine pm_iloadi hG dX12_person_195 rfl ?_
                refine pm_bipush (v := nI 9) hG dX12_person_197 (by decide) ?_
                refine pm_iconst (v := (-1)) hG dX12_person_199 (by decide) ?_
                refine pm_callV (As := [.int (nI kc2), .int (nI 9), .int (-1)]) (rest := []) hG hR dX12_person_200 (lkX12_97 _ rfl) okV_X12_sets rfl rfl (m_sets (d := 2) (e := 14 * kc2 + 119) (by omega) (by omega) (by omega)) rfl rfl hdd (Nat.le_refl _) (Nat.le_refl _) (by decide) (pm_kv (fun σ' cnt' hq => ?_))
                obtain ⟨rfl, rfl⟩ := hq
                obtain ⟨n_641, en_641⟩ : ∃ f : Nat → Int32, f = upd n_634 (14 * kc2 + 119) (-1) := ⟨_, rfl⟩
                rw [← en_641]
                have hnn_641 := KI.w en_641 hnn_634 (okv_m (show kd (14 * kc2 + 119) = (2, 2001, false) from (kd_P (k := kc2) (c := 9) (by omega) (by omega) (by decide))))
                have hrn_641 := NRx.w en_641 hrn_634 (by rw [(show kd (14 * kc2 + 119) = (2, 2001, false) from (kd_P (k := kc2) (c := 9) (by omega) (by omega) (by decide)))])
                have ksn_641 := KSh.w (h := 14 * kc2 + 110) en_641 ksn_634 (by unfold tS; omega)
                have e642 : n_641 0 = nI kc0 := by rw [en_641, pk_un (by omega)]; exact e635
                have e643 : n_641 8 = nI kc8 := by rw [en_641, pk_un (by omega)]; exact e636
                have e644 : n_641 2 = nI (kc2 + 1) := by rw [en_641, pk_un (by omega)]; exact e637
                have e645 : n_641 (14 * kc2 + 110) = nI k3 := by rw [en_641, pk_un (by omega)]; exact e638
                have e646 : n_641 (14 * kc2 + 111) = zb := by rw [en_641, pk_un (by omega)]; exact e639
                have e647 : n_641 (14 * kc2 + 119) = (-1) := by rw [en_641, pk_us]
                refine pm_aloadn hG dX12_person_203 rfl ?_
                refine pm_iloadi hG dX12_person_204 rfl ?_
                refine pm_bipush (v := nI 10) hG dX12_person_206 (by decide) ?_
                refine pm_iconst (v := (-1)) hG dX12_person_208 (by decide) ?_
                refine pm_callV (As := [.int (nI kc2), .int (nI 10), .int (-1)]) (rest := []) hG hR dX12_person_209 (lkX12_97 _ rfl) okV_X12_sets rfl rfl (m_sets (d := 2) (e := 14 * kc2 + 120) (by omega) (by omega) (by omega)) rfl rfl hdd (Nat.le_refl _) (Nat.le_refl _) (by decide) (pm_kv (fun σ' cnt' hq => ?_))
                obtain ⟨rfl, rfl⟩ := hq
                obtain ⟨n_648, en_648⟩ : ∃ f : Nat → Int32, f = upd n_641 (14 * kc2 + 120) (-1) := ⟨_, rfl⟩
                rw [← en_648]
                have hnn_648 := KI.w en_648 hnn_641 (okv_f (show kd (14 * kc2 + 120) = (0, 0, false) from (kd_P (k := kc2) (c := 10) (by omega) (by omega) (by decide))))
                have hrn_648 := NRx.w en_648 hrn_641 (by rw [(show kd (14 * kc2 + 120) = (0, 0, false) from (kd_P (k := kc2) (c := 10) (by omega) (by omega) (by decide)))])
                have ksn_648 := KSh.w (h := 14 * kc2 + 110) en_648 ksn_641 (by unfold tS; omega)
                have e649 : n_648 0 = nI kc0 := by rw [en_648, pk_un (by omega)]; exact e642
                have e650 : n_648 8 = nI kc8 := by rw [en_648, pk_un (by omega)]; exact e643
                have e651 : n_648 2 = nI (kc2 + 1) := by rw [en_648, pk_un (by omega)]; exact e644
                have e652 : n_648 (14 * kc2 + 110) = nI k3 := by rw [en_648, pk_un (by omega)]; exact e645
                have e653 : n_648 (14 * kc2 + 111) = zb := by rw [en_648, pk_un (by omega)]; exact e646
                have e654 : n_648 (14 * kc2 + 120) = (-1) := by rw [en_648, pk_us]
                refine pm_aloadn hG dX12_person_212 rfl ?_
                refine pm_iloadi hG dX12_person_213 rfl ?_
                refine pm_bipush (v := nI 12) hG dX12_person_215 (by decide) ?_
                refine pm_iconst (v := nI 1) hG dX12_person_217 (by decide) ?_
                refine pm_callV (As := [.int (nI kc2), .int (nI 12), .int (nI 1)]) (rest := []) hG hR dX12_person_218 (lkX12_97 _ rfl) okV_X12_sets rfl rfl (m_sets (d := 2) (e := 14 * kc2 + 122) (by omega) (by omega) (by omega)) rfl rfl hdd (Nat.le_refl _) (Nat.le_refl _) (by decide) (pm_kv (fun σ' cnt' hq => ?_))
                obtain ⟨rfl, rfl⟩ := hq
                obtain ⟨n_655, en_655⟩ : ∃ f : Nat → Int32, f = upd n_648 (14 * kc2 + 122) (nI 1) := ⟨_, rfl⟩
                rw [← en_655]
                have hnn_655 := KI.w en_655 hnn_648 (okv_f (show kd (14 * kc2 + 122) = (0, 0, false) from (kd_P (k := kc2) (c := 12) (by omega) (by omega) (by decide))))
                have hrn_655 := NRx.w en_655 hrn_648 (by rw [(show kd (14 * kc2 + 122) = (0, 0, false) from (kd_P (k := kc2) (c := 12) (by omega) (by omega) (by decide)))])
                have ksn_655 := KSh.w (h := 14 * kc2 + 110) en_655 ksn_648 (by unfold tS; omega)
                have e656 : n_655 0 = nI kc0 := by rw [en_655, pk_un (by omega)]; exact e649
                have e657 : n_655 8 = nI kc8 := by rw [en_655, pk_un (by omega)]; exact e650
                have e658 : n_655 2 = nI (kc2 + 1) := by rw [en_655, pk_un (by omega)]; exact e651
                have e659 : n_655 (14 * kc2 + 110) = nI k3 := by rw [en_655, pk_un (by omega)]; exact e652
                have e660 : n_655 (14 * kc2 + 111) = zb := by rw [en_655, pk_un (by omega)]; exact e653
                have e661 : n_655 (14 * kc2 + 122) = nI 1 := by rw [en_655, pk_us]
                refine pm_iloadi hG dX12_person_221 rfl ?_
                exact pm_iret hG hF dX12_person_223 rfl (Nat.le_refl _) (Nat.le_refl _) ⟨_, rfl, ⟨_, _, _, rfl, hnn_655, hrn_655, e656.trans ekc0.symm, e657.trans ekc8.symm, ⟨(vE_y (T := pN n) (d := n 8) (t := n 0) (p := n 2) (a := za) (b := zb) (c := zc) (e := zd) (not6 (rg_in (a := 0) (b := 1) (by omega) ek3 (by omega) (by omega)) (fun q => q.elim ac5 (by rw [ekc8]; exact bc5)) (by rw [ek9]; exact nI_pos (by omega)) (nt_in ekc0 (by omega) ek507 (by omega)) (fun q => q (by rw [dv1 ek9 (by omega)]; exact pk11)) (fun q => q (by rw [rm1 ek9 (by omega)]; exact pk341))) ekc2 (by omega)).1, e658.trans (vE_y (T := pN n) (d := n 8) (t := n 0) (p := n 2) (a := za) (b := zb) (c := zc) (e := zd) (not6 (rg_in (a := 0) (b := 1) (by omega) ek3 (by omega) (by omega)) (fun q => q.elim ac5 (by rw [ekc8]; exact bc5)) (by rw [ek9]; exact nI_pos (by omega)) (nt_in ekc0 (by omega) ek507 (by omega)) (fun q => q (by rw [dv1 ek9 (by omega)]; exact pk11)) (fun q => q (by rw [rm1 ek9 (by omega)]; exact pk341))) ekc2 (by omega)).2.1, fun j hj => by rw [(vE_y (T := pN n) (d := n 8) (t := n 0) (p := n 2) (a := za) (b := zb) (c := zc) (e := zd) (not6 (rg_in (a := 0) (b := 1) (by omega) ek3 (by omega) (by omega)) (fun q => q.elim ac5 (by rw [ekc8]; exact bc5)) (by rw [ek9]; exact nI_pos (by omega)) (nt_in ekc0 (by omega) ek507 (by omega)) (fun q => q (by rw [dv1 ek9 (by omega)]; exact pk11)) (fun q => q (by rw [rm1 ek9 (by omega)]; exact pk341))) ekc2 (by omega)).2.2]; exact tP_ok ksn_655 (e659.trans ek3.symm) e660 (by omega) j hj⟩⟩, rfl⟩
              · refine pm_aloadn hG dX12_person_102 rfl ?_
                refine pm_iconst (v := nI 4) hG dX12_person_103 (by decide) ?_
                refine pm_callV (As := [.int (nI 4)]) (rest := []) hG hR dX12_person_104 (lkX12_80 _ rfl) okV_X12_finds rfl rfl (m_finds (d := 2) (by decide) hn hz (by omega)) rfl rfl hdd (Nat.le_refl _) (Nat.le_refl _) (by decide) (pm_ki (fun v662 σ' cnt' hq => ?_))
                obtain ⟨⟨I663, A663, rfl⟩, rfl, fv662⟩ := hq
                exact pm_iret hG hF dX12_person_107 rfl (Nat.le_refl _) (Nat.le_refl _) ⟨_, rfl, ⟨_, _, _, rfl, hn, hr, ekc0.trans ekc0.symm, ekc8.trans ekc8.symm, ⟨fv662.trans ((by decide : (-1000000 : Int32) - nI 4 = -1000004).trans (vE_f (T := pN n) (d := n 8) (t := n 0) (p := n 2) (a := za) (b := zb) (c := zc) (e := zd) (not6 (rg_in (a := 0) (b := 1) (by omega) ek3 (by omega) (by omega)) (fun q => q.elim ac5 (by rw [ekc8]; exact bc5)) (by rw [ek9]; exact nI_pos (by omega)) (nt_in ekc0 (by omega) ek507 (by omega)) (fun q => q (by rw [dv1 ek9 (by omega)]; exact pk11)) (fun q => q (by rw [rm1 ek9 (by omega)]; exact pk341))) (ekc2.trans (congrArg nI (by omega)))).1), (vE_f (T := pN n) (d := n 8) (t := n 0) (p := n 2) (a := za) (b := zb) (c := zc) (e := zd) (not6 (rg_in (a := 0) (b := 1) (by omega) ek3 (by omega) (by omega)) (fun q => q.elim ac5 (by rw [ekc8]; exact bc5)) (by rw [ek9]; exact nI_pos (by omega)) (nt_in ekc0 (by omega) ek507 (by omega)) (fun q => q (by rw [dv1 ek9 (by omega)]; exact pk11)) (fun q => q (by rw [rm1 ek9 (by omega)]; exact pk341))) (ekc2.trans (congrArg nI (by omega)))).2.1, fun j _ => by rw [(vE_f (T := pN n) (d := n 8) (t := n 0) (p := n 2) (a := za) (b := zb) (c := zc) (e := zd) (not6 (rg_in (a := 0) (b := 1) (by omega) ek3 (by omega) (by omega)) (fun q => q.elim ac5 (by rw [ekc8]; exact bc5)) (by rw [ek9]; exact nI_pos (by omega)) (nt_in ekc0 (by omega) ek507 (by omega)) (fun q => q (by rw [dv1 ek9 (by omega)]; exact pk11)) (fun q => q (by rw [rm1 ek9 (by omega)]; exact pk341))) (ekc2.trans (congrArg nI (by omega)))).2.2]⟩⟩, rfl⟩
            · refine pm_ifN_eq (tgt := 73) hG dX12_person_66 rfl (by omega) (fun _ => ?_) (fun q => absurd q (by omega))
              refine pm_iconst (v := nI 0) hG dX12_person_73 (by decide) ?_
              refine pm_istoreXi (loc' := [some (.ref (B + 54)), some (.int za), some (.int zb), some (.int zc), some (.int zd), some (.int (nI 0)), none, none]) hG dX12_person_74 (by decide) (pm_c1b rfl) rfl ?_
              refine pm_iloadi hG dX12_person_76 rfl ?_
              refine pm_ifN_ne (tgt := 87) hG dX12_person_78 rfl (by omega) (fun q => absurd q (by omega)) (fun _ => ?_)
              refine pm_aloadn hG dX12_person_81 rfl ?_
              refine pm_iconst (v := nI 1) hG dX12_person_82 (by decide) ?_
              refine pm_callV (As := [.int (nI 1)]) (rest := []) hG hR dX12_person_83 (lkX12_80 _ rfl) okV_X12_finds rfl rfl (m_finds (d := 2) (by decide) hn hz (by omega)) rfl rfl hdd (Nat.le_refl _) (Nat.le_refl _) (by decide) (pm_ki (fun v664 σ' cnt' hq => ?_))
              obtain ⟨⟨I665, A665, rfl⟩, rfl, fv664⟩ := hq
              exact pm_iret hG hF dX12_person_86 rfl (Nat.le_refl _) (Nat.le_refl _) ⟨_, rfl, ⟨_, _, _, rfl, hn, hr, ekc0.trans ekc0.symm, ekc8.trans ekc8.symm, ⟨fv664.trans ((by decide : (-1000000 : Int32) - nI 1 = -1000001).trans (vE_n (T := pN n) (d := n 8) (t := n 0) (p := n 2) (a := za) (b := zb) (c := zc) (e := zd) (Or.inr (Or.inr (Or.inr (Or.inl (nt_out ekc0 (by omega) ntk507)))))).1), (vE_n (T := pN n) (d := n 8) (t := n 0) (p := n 2) (a := za) (b := zb) (c := zc) (e := zd) (Or.inr (Or.inr (Or.inr (Or.inl (nt_out ekc0 (by omega) ntk507)))))).2.1, fun j _ => by rw [(vE_n (T := pN n) (d := n 8) (t := n 0) (p := n 2) (a := za) (b := zb) (c := zc) (e := zd) (Or.inr (Or.inr (Or.inr (Or.inl (nt_out ekc0 (by omega) ntk507)))))).2.2]⟩⟩, rfl⟩
    · refine pm_ifN_eq (tgt := 73) hG dX12_person_23 rfl (by omega) (fun _ => ?_) (fun q => absurd q (by omega))
      refine pm_iconst (v := nI 0) hG dX12_person_73 (by decide) ?_
      refine pm_istoreXi (loc' := [some (.ref (B + 54)), some (.int za), some (.int zb), some (.int zc), some (.int zd), some (.int (nI 0)), none, none]) hG dX12_person_74 (by decide) (pm_c1b rfl) rfl ?_
      refine pm_iloadi hG dX12_person_76 rfl ?_
      refine pm_ifN_ne (tgt := 87) hG dX12_person_78 rfl (by omega) (fun q => absurd q (by omega)) (fun _ => ?_)
      refine pm_aloadn hG dX12_person_81 rfl ?_
      refine pm_iconst (v := nI 1) hG dX12_person_82 (by decide) ?_
      refine pm_callV (As := [.int (nI 1)]) (rest := []) hG hR dX12_person_83 (lkX12_80 _ rfl) okV_X12_finds rfl rfl (m_finds (d := 2) (by decide) hn hz (by omega)) rfl rfl hdd (Nat.le_refl _) (Nat.le_refl _) (by decide) (pm_ki (fun v666 σ' cnt' hq => ?_))
      obtain ⟨⟨I667, A667, rfl⟩, rfl, fv666⟩ := hq
      exact pm_iret hG hF dX12_person_86 rfl (Nat.le_refl _) (Nat.le_refl _) ⟨_, rfl, ⟨_, _, _, rfl, hn, hr, ekc0.trans ekc0.symm, ekc8.trans ekc8.symm, ⟨fv666.trans ((by decide : (-1000000 : Int32) - nI 1 = -1000001).trans (vE_n (T := pN n) (d := n 8) (t := n 0) (p := n 2) (a := za) (b := zb) (c := zc) (e := zd) (Or.inr (Or.inl (by rw [ekc8]; exact c5)))).1), (vE_n (T := pN n) (d := n 8) (t := n 0) (p := n 2) (a := za) (b := zb) (c := zc) (e := zd) (Or.inr (Or.inl (by rw [ekc8]; exact c5)))).2.1, fun j _ => by rw [(vE_n (T := pN n) (d := n 8) (t := n 0) (p := n 2) (a := za) (b := zb) (c := zc) (e := zd) (Or.inr (Or.inl (by rw [ekc8]; exact c5)))).2.2]⟩⟩, rfl⟩
  · refine pm_ifN_eq (tgt := 73) hG dX12_person_6 rfl (by omega) (fun _ => ?_) (fun q => absurd q (by omega))
    refine pm_iconst (v := nI 0) hG dX12_person_73 (by decide) ?_
    refine pm_istoreXi (loc' := [some (.ref (B + 54)), some (.int za), some (.int zb), some (.int zc), some (.int zd), some (.int (nI 0)), none, none]) hG dX12_person_74 (by decide) (pm_c1b rfl) rfl ?_
    refine pm_iloadi hG dX12_person_76 rfl ?_
    refine pm_ifN_ne (tgt := 87) hG dX12_person_78 rfl (by omega) (fun q => absurd q (by omega)) (fun _ => ?_)
    refine pm_aloadn hG dX12_person_81 rfl ?_
    refine pm_iconst (v := nI 1) hG dX12_person_82 (by decide) ?_
    refine pm_callV (As := [.int (nI 1)]) (rest := []) hG hR dX12_person_83 (lkX12_80 _ rfl) okV_X12_finds rfl rfl (m_finds (d := 2) (by decide) hn hz (by omega)) rfl rfl hdd (Nat.le_refl _) (Nat.le_refl _) (by decide) (pm_ki (fun v668 σ' cnt' hq => ?_))
    obtain ⟨⟨I669, A669, rfl⟩, rfl, fv668⟩ := hq
    exact pm_iret hG hF dX12_person_86 rfl (Nat.le_refl _) (Nat.le_refl _) ⟨_, rfl, ⟨_, _, _, rfl, hn, hr, ekc0.trans ekc0.symm, ekc8.trans ekc8.symm, ⟨fv668.trans ((by decide : (-1000000 : Int32) - nI 1 = -1000001).trans (vE_n (T := pN n) (d := n 8) (t := n 0) (p := n 2) (a := za) (b := zb) (c := zc) (e := zd) (Or.inl c2)).1), (vE_n (T := pN n) (d := n 8) (t := n 0) (p := n 2) (a := za) (b := zb) (c := zc) (e := zd) (Or.inl c2)).2.1, fun j _ => by rw [(vE_n (T := pN n) (d := n 8) (t := n 0) (p := n 2) (a := za) (b := zb) (c := zc) (e := zd) (Or.inl c2)).2.2]⟩⟩, rfl⟩
