set_option maxRecDepth 100000 in
set_option maxHeartbeats 4000000 in
theorem m_own {d B cnt p0 t0 : Nat} {σ : pm_S} {I : Nat → Int32} {A : Nat → Nat → Int32} {n k z : Nat → Int32} {ac wt pl im : Int32} {za zb : Int32} (hdd : 2 ≤ d) (hn : KI n) (hr : NR n) (hz : SZ z)  : pm_met mX12_own d 0 0 B [.ref (B + 54), .int za, .int zb] cnt (pm_mid σ (md_L B I A n k z ac wt pl (nI p0) (nI t0) im)) (pm_Qi (fun v σ' cnt' => (∃ (I' : Nat → Int32) (A' : Nat → Nat → Int32) (n' : Nat → Int32), σ' = pm_mid σ (md_L B I' A' n' k z ac wt pl (nI p0) (nI t0) im) ∧ KI n' ∧ NR n' ∧ n' 11 = n 11) ∧ cnt = cnt')) := by
  obtain ⟨kc11, hkc11, ekc11⟩ := KI.nat hn (show kd 11 = (1, 21, false) by decide)
  refine pm_enter 1 (by decide) (Nat.le_of_ble_eq_true rfl) rfl (fun G hG hR hF => ?_)
  refine pm_aloadn hG dX12_own_0 rfl ?_
  refine pm_iloadn hG dX12_own_1 rfl ?_
  obtain ⟨k1, hk1, ek1⟩ := KI.nat hn (show kd 0 = (1, 11, true) by decide)
  refine pm_callV (As := [.int za]) (rest := []) hG hR dX12_own_2 (lkX12_84 _ rfl) okV_X12_isTown rfl rfl (m_isTown (d := 1) (by decide) ek1 (by omega)) rfl rfl hdd (Nat.le_refl _) (Nat.le_refl _) (by decide) (pm_ki (fun v2 σ' cnt' hq => ?_))
  obtain ⟨hq, rfl, rfl⟩ := hq
  rcases hq with ⟨rfl, k4, hk4, ek4⟩ | rfl
  · refine pm_ifN_eq (tgt := 29) hG dX12_own_5 rfl (by omega) (fun q => absurd q (by omega)) (fun _ => ?_)
    refine pm_iloadn hG dX12_own_8 rfl ?_
    refine pm_iconst (v := (-1)) hG dX12_own_9 (by decide) ?_
    refine pm_icmp_eq (tgt := 35) hG dX12_own_10 rfl (fun c5 => ?_) (fun c5 => ?_)
    · refine pm_aloadn hG dX12_own_35 rfl ?_
      refine pm_getf hG dX12_own_36 (flX12_7 _ rfl) rfl rfl ?_
      refine pm_bipush (v := nI 20) hG dX12_own_39 (by decide) ?_
      refine pm_iconst (v := nI 3) hG dX12_own_41 (by decide) ?_
      refine pm_iloadn hG dX12_own_42 rfl ?_
      refine pm_top (v := nI k4) ek4 ?_
      refine pm_imulN (c := 3 * k4) hG dX12_own_43 (by omega) ?_
      refine pm_iaddN (c := 3 * k4 + 20) hG dX12_own_44 (by omega) ?_
      refine pm_iconst (v := nI 2) hG dX12_own_45 (by decide) ?_
      refine pm_iaddN (c := 3 * k4 + 22) hG dX12_own_46 (by omega) ?_
      refine pm_ialdN hG dX12_own_47 rfl (by decide) (by omega) ?_
      refine pm_gen (fun x6 ex6 => ?_)
      refine pm_iconst (v := nI 1) hG dX12_own_48 (by decide) ?_
      refine pm_icmp_ne (tgt := 58) hG dX12_own_49 rfl (fun c7 => ?_) (fun c7 => ?_)
      · refine pm_aloadn hG dX12_own_58 rfl ?_
        refine pm_getf hG dX12_own_59 (flX12_7 _ rfl) rfl rfl ?_
        refine pm_bipush (v := nI 20) hG dX12_own_62 (by decide) ?_
        refine pm_iconst (v := nI 3) hG dX12_own_64 (by decide) ?_
        refine pm_iloadn hG dX12_own_65 rfl ?_
        refine pm_top (v := nI k4) ek4 ?_
        refine pm_imulN (c := 3 * k4) hG dX12_own_66 (by omega) ?_
        refine pm_iaddN (c := 3 * k4 + 20) hG dX12_own_67 (by omega) ?_
        refine pm_iconst (v := nI 1) hG dX12_own_68 (by decide) ?_
        refine pm_iaddN (c := 3 * k4 + 21) hG dX12_own_69 (by omega) ?_
        refine pm_ialdN hG dX12_own_70 rfl (by decide) (by omega) ?_
        rcases KI.opt hn (show kd (3 * k4 + 21) = (2, 20, false) from (kd_T (k := k4) (c := 1) (by omega) (by omega) (by decide))) with ek8 | ⟨k8, hk8, ek8⟩
        · refine pm_top (v := (-1)) ek8 ?_
          refine pm_istoreXn (loc' := [some (.ref (B + 54)), some (.int za), some (.int zb), some (.int (-1))]) hG dX12_own_71 (by decide) (pm_c1b rfl) rfl ?_
          refine pm_aloadn hG dX12_own_72 rfl ?_
          refine pm_getf hG dX12_own_73 (flX12_7 _ rfl) rfl rfl ?_
          refine pm_bipush (v := nI 20) hG dX12_own_76 (by decide) ?_
          refine pm_iconst (v := nI 3) hG dX12_own_78 (by decide) ?_
          refine pm_iloadn hG dX12_own_79 rfl ?_
          refine pm_top (v := nI k4) ek4 ?_
          refine pm_imulN (c := 3 * k4) hG dX12_own_80 (by omega) ?_
          refine pm_iaddN (c := 3 * k4 + 20) hG dX12_own_81 (by omega) ?_
          refine pm_iconst (v := nI 1) hG dX12_own_82 (by decide) ?_
          refine pm_iaddN (c := 3 * k4 + 21) hG dX12_own_83 (by omega) ?_
          refine pm_iloadn hG dX12_own_84 rfl ?_
          refine pm_top (v := (-1)) c5 ?_
          refine pm_iastN hG dX12_own_85 rfl (by decide) (by omega) ?_
          refine mdn_now (fun n_9 en_9 => ?_)
          have hnn_9 := KI.w en_9 hn (okv_m (show kd (3 * k4 + 21) = (2, 20, false) from (kd_T (k := k4) (c := 1) (by omega) (by omega) (by decide))))
          have hrn_9 := NRx.w en_9 hr (by rw [(show kd (3 * k4 + 21) = (2, 20, false) from (kd_T (k := k4) (c := 1) (by omega) (by omega) (by decide)))])
          have e10 : n_9 11 = nI kc11 := by rw [en_9, pk_un (by omega)]; exact ekc11
          have e11 : n_9 0 = nI k1 := by rw [en_9, pk_un (by omega)]; exact ek1
          have e12 : n_9 (3 * k4 + 22) = x6 := by rw [en_9, pk_un (by omega)]; exact ex6
          have e13 : n_9 (3 * k4 + 21) = (-1) := by rw [en_9, pk_us]
          refine pm_iloadn hG dX12_own_86 rfl ?_
          exact pm_iret hG hF dX12_own_87 rfl (Nat.le_refl _) (Nat.le_refl _) ⟨_, rfl, ⟨_, _, _, rfl, hnn_9, hrn_9, e10.trans ekc11.symm⟩, rfl⟩
        · refine pm_top (v := nI k8) ek8 ?_
          refine pm_istoreXn (loc' := [some (.ref (B + 54)), some (.int za), some (.int zb), some (.int (nI k8))]) hG dX12_own_71 (by decide) (pm_c1b rfl) rfl ?_
          refine pm_aloadn hG dX12_own_72 rfl ?_
          refine pm_getf hG dX12_own_73 (flX12_7 _ rfl) rfl rfl ?_
          refine pm_bipush (v := nI 20) hG dX12_own_76 (by decide) ?_
          refine pm_iconst (v := nI 3) hG dX12_own_78 (by decide) ?_
          refine pm_iloadn hG dX12_own_79 rfl ?_
          refine pm_top (v := nI k4) ek4 ?_
          refine pm_imulN (c := 3 * k4) hG dX12_own_80 (by omega) ?_
          refine pm_iaddN (c := 3 * k4 + 20) hG dX12_own_81 (by omega) ?_
          refine pm_iconst (v := nI 1) hG dX12_own_82 (by decide) ?_
          refine pm_iaddN (c := 3 * k4 + 21) hG dX12_own_83 (by omega) ?_
          refine pm_iloadn hG dX12_own_84 rfl ?_
          refine pm_top (v := (-1)) c5 ?_
          refine pm_iastN hG dX12_own_85 rfl (by decide) (by omega) ?_
          refine mdn_now (fun n_14 en_14 => ?_)
          have hnn_14 := KI.w en_14 hn (okv_m (show kd (3 * k4 + 21) = (2, 20, false) from (kd_T (k := k4) (c := 1) (by omega) (by omega) (by decide))))
          have hrn_14 := NRx.w en_14 hr (by rw [(show kd (3 * k4 + 21) = (2, 20, false) from (kd_T (k := k4) (c := 1) (by omega) (by omega) (by decide)))])
          have e15 : n_14 11 = nI kc11 := by rw [en_14, pk_un (by omega)]; exact ekc11
          have e16 : n_14 0 = nI k1 := by rw [en_14, pk_un (by omega)]; exact ek1
          have e17 : n_14 (3 * k4 + 22) = x6 := by rw [en_14, pk_un (by omega)]; exact ex6
          have e18 : n_14 (3 * k4 + 21) = (-1) := by rw [en_14, pk_us]
          refine pm_iloadn hG dX12_own_86 rfl ?_
          exact pm_iret hG hF dX12_own_87 rfl (Nat.le_refl _) (Nat.le_refl _) ⟨_, rfl, ⟨_, _, _, rfl, hnn_14, hrn_14, e15.trans ekc11.symm⟩, rfl⟩
      · refine pm_aloadn hG dX12_own_52 rfl ?_
        refine pm_iconst (v := nI 3) hG dX12_own_53 (by decide) ?_
        refine pm_callV (As := [.int (nI 3)]) (rest := []) hG hR dX12_own_54 (lkX12_80 _ rfl) okV_X12_finds rfl rfl (m_finds (d := 1) (by decide) hn hz (by omega)) rfl rfl hdd (Nat.le_refl _) (Nat.le_refl _) (by decide) (pm_ki (fun v19 σ' cnt' hq => ?_))
        obtain ⟨⟨I20, A20, rfl⟩, rfl, fv19⟩ := hq
        exact pm_iret hG hF dX12_own_57 rfl (Nat.le_refl _) (Nat.le_refl _) ⟨_, rfl, ⟨_, _, _, rfl, hn, hr, ekc11.trans ekc11.symm⟩, rfl⟩
    · refine pm_aloadn hG dX12_own_13 rfl ?_
      refine pm_iloadn hG dX12_own_14 rfl ?_
      obtain ⟨k21, hk21, ek21⟩ := KI.nat hn (show kd 2 = (1, 21, true) by decide)
      refine pm_callV (As := [.int zb]) (rest := []) hG hR dX12_own_15 (lkX12_91 _ rfl) okV_X12_isPerson rfl rfl (m_isPerson (d := 1) (by decide) ek21 (by omega)) rfl rfl hdd (Nat.le_refl _) (Nat.le_refl _) (by decide) (pm_ki (fun v22 σ' cnt' hq => ?_))
      obtain ⟨hq, rfl, rfl⟩ := hq
      rcases hq with ⟨rfl, k24, hk24, ek24⟩ | rfl
      · refine pm_ifN_eq (tgt := 29) hG dX12_own_18 rfl (by omega) (fun q => absurd q (by omega)) (fun _ => ?_)
        refine pm_aloadn hG dX12_own_21 rfl ?_
        refine pm_iloadn hG dX12_own_22 rfl ?_
        refine pm_top (v := nI k24) ek24 ?_
        rcases KI.opt hn (show kd (14 * k24 + 119) = (2, 2001, false) from (kd_P (k := k24) (c := 9) (by omega) (by omega) (by decide))) with ek25 | ⟨k25, hk25, ek25⟩
        · refine pm_callV (As := [.int (nI k24)]) (rest := []) hG hR dX12_own_23 (lkX12_101 _ rfl) okV_X12_lives rfl rfl (m_lives1 (d := 1) (by decide) (by omega) (by omega : 14 * k24 + 119 = 14 * k24 + 119) ek25) rfl rfl hdd (Nat.le_refl _) (Nat.le_refl _) (by decide) (pm_ki (fun v26 σ' cnt' hq => ?_))
          obtain ⟨rfl, rfl, rfl⟩ := hq
          refine pm_ifN_ne (tgt := 35) hG dX12_own_26 rfl (by omega) (fun _ => ?_) (fun q => absurd q (by omega))
          refine pm_aloadn hG dX12_own_35 rfl ?_
          refine pm_getf hG dX12_own_36 (flX12_7 _ rfl) rfl rfl ?_
          refine pm_bipush (v := nI 20) hG dX12_own_39 (by decide) ?_
          refine pm_iconst (v := nI 3) hG dX12_own_41 (by decide) ?_
          refine pm_iloadn hG dX12_own_42 rfl ?_
          refine pm_top (v := nI k4) ek4 ?_
          refine pm_imulN (c := 3 * k4) hG dX12_own_43 (by omega) ?_
          refine pm_iaddN (c := 3 * k4 + 20) hG dX12_own_44 (by omega) ?_
          refine pm_iconst (v := nI 2) hG dX12_own_45 (by decide) ?_
          refine pm_iaddN (c := 3 * k4 + 22) hG dX12_own_46 (by omega) ?_
          refine pm_ialdN hG dX12_own_47 rfl (by decide) (by omega) ?_
          refine pm_gen (fun x27 ex27 => ?_)
          refine pm_iconst (v := nI 1) hG dX12_own_48 (by decide) ?_
          refine pm_icmp_ne (tgt := 58) hG dX12_own_49 rfl (fun c28 => ?_) (fun c28 => ?_)
          · refine pm_aloadn hG dX12_own_58 rfl ?_
            refine pm_getf hG dX12_own_59 (flX12_7 _ rfl) rfl rfl ?_
            refine pm_bipush (v := nI 20) hG dX12_own_62 (by decide) ?_
            refine pm_iconst (v := nI 3) hG dX12_own_64 (by decide) ?_
            refine pm_iloadn hG dX12_own_65 rfl ?_
            refine pm_top (v := nI k4) ek4 ?_
            refine pm_imulN (c := 3 * k4) hG dX12_own_66 (by omega) ?_
            refine pm_iaddN (c := 3 * k4 + 20) hG dX12_own_67 (by omega) ?_
            refine pm_iconst (v := nI 1) hG dX12_own_68 (by decide) ?_
            refine pm_iaddN (c := 3 * k4 + 21) hG dX12_own_69 (by omega) ?_
            refine pm_ialdN hG dX12_own_70 rfl (by decide) (by omega) ?_
            rcases KI.opt hn (show kd (3 * k4 + 21) = (2, 20, false) from (kd_T (k := k4) (c := 1) (by omega) (by omega) (by decide))) with ek29 | ⟨k29, hk29, ek29⟩
            · refine pm_top (v := (-1)) ek29 ?_
              refine pm_istoreXn (loc' := [some (.ref (B + 54)), some (.int za), some (.int zb), some (.int (-1))]) hG dX12_own_71 (by decide) (pm_c1b rfl) rfl ?_
              refine pm_aloadn hG dX12_own_72 rfl ?_
              refine pm_getf hG dX12_own_73 (flX12_7 _ rfl) rfl rfl ?_
              refine pm_bipush (v := nI 20) hG dX12_own_76 (by decide) ?_
              refine pm_iconst (v := nI 3) hG dX12_own_78 (by decide) ?_
              refine pm_iloadn hG dX12_own_79 rfl ?_
              refine pm_top (v := nI k4) ek4 ?_
              refine pm_imulN (c := 3 * k4) hG dX12_own_80 (by omega) ?_
              refine pm_iaddN (c := 3 * k4 + 20) hG dX12_own_81 (by omega) ?_
              refine pm_iconst (v := nI 1) hG dX12_own_82 (by decide) ?_
              refine pm_iaddN (c := 3 * k4 + 21) hG dX12_own_83 (by omega) ?_
              refine pm_iloadn hG dX12_own_84 rfl ?_
              refine pm_top (v := nI k24) ek24 ?_
              refine pm_iastN hG dX12_own_85 rfl (by decide) (by omega) ?_
              refine mdn_now (fun n_30 en_30 => ?_)
              have hnn_30 := KI.w en_30 hn (okv_o (show kd (3 * k4 + 21) = (2, 20, false) from (kd_T (k := k4) (c := 1) (by omega) (by omega) (by decide))) (by omega))
              have hrn_30 := NRx.w en_30 hr (by rw [(show kd (3 * k4 + 21) = (2, 20, false) from (kd_T (k := k4) (c := 1) (by omega) (by omega) (by decide)))])
              have e31 : n_30 11 = nI kc11 := by rw [en_30, pk_un (by omega)]; exact ekc11
              have e32 : n_30 0 = nI k1 := by rw [en_30, pk_un (by omega)]; exact ek1
              have e33 : n_30 2 = nI k21 := by rw [en_30, pk_un (by omega)]; exact ek21
              have e34 : n_30 (14 * k24 + 119) = (-1) := by rw [en_30, pk_un (by omega)]; exact ek25
              have e35 : n_30 (3 * k4 + 22) = x27 := by rw [en_30, pk_un (by omega)]; exact ex27
              have e36 : n_30 (3 * k4 + 21) = nI k24 := by rw [en_30, pk_us]
              refine pm_iloadn hG dX12_own_86 rfl ?_
              exact pm_iret hG hF dX12_own_87 rfl (Nat.le_refl _) (Nat.le_refl _) ⟨_, rfl, ⟨_, _, _, rfl, hnn_30, hrn_30, e31.trans ekc11.symm⟩, rfl⟩
            · refine pm_top (v := nI k29) ek29 ?_
              refine pm_istoreXn (loc' := [some (.ref (B + 54)), some (.int za), some (.int zb), some (.int (nI k29))]) hG dX12_own_71 (by decide) (pm_c1b rfl) rfl ?_
              refine pm_aloadn hG dX12_own_72 rfl ?_
              refine pm_getf hG dX12_own_73 (flX12_7 _ rfl) rfl rfl ?_
              refine pm_bipush (v := nI 20) hG dX12_own_76 (by decide) ?_
              refine pm_iconst (v := nI 3) hG dX12_own_78 (by decide) ?_
              refine pm_iloadn hG dX12_own_79 rfl ?_
              refine pm_top (v := nI k4) ek4 ?_
              refine pm_imulN (c := 3 * k4) hG dX12_own_80 (by omega) ?_
              refine pm_iaddN (c := 3 * k4 + 20) hG dX12_own_81 (by omega) ?_
              refine pm_iconst (v := nI 1) hG dX12_own_82 (by decide) ?_
              refine pm_iaddN (c := 3 * k4 + 21) hG dX12_own_83 (by omega) ?_
              refine pm_iloadn hG dX12_own_84 rfl ?_
              refine pm_top (v := nI k24) ek24 ?_
              refine pm_iastN hG dX12_own_85 rfl (by decide) (by omega) ?_
              refine mdn_now (fun n_37 en_37 => ?_)
              have hnn_37 := KI.w en_37 hn (okv_o (show kd (3 * k4 + 21) = (2, 20, false) from (kd_T (k := k4) (c := 1) (by omega) (by omega) (by decide))) (by omega))
              have hrn_37 := NRx.w en_37 hr (by rw [(show kd (3 * k4 + 21) = (2, 20, false) from (kd_T (k := k4) (c := 1) (by omega) (by omega) (by decide)))])
              have e38 : n_37 11 = nI kc11 := by rw [en_37, pk_un (by omega)]; exact ekc11
              have e39 : n_37 0 = nI k1 := by rw [en_37, pk_un (by omega)]; exact ek1
              have e40 : n_37 2 = nI k21 := by rw [en_37, pk_un (by omega)]; exact ek21
              have e41 : n_37 (14 * k24 + 119) = (-1) := by rw [en_37, pk_un (by omega)]; exact ek25
              have e42 : n_37 (3 * k4 + 22) = x27 := by rw [en_37, pk_un (by omega)]; exact ex27
              have e43 : n_37 (3 * k4 + 21) = nI k24 := by rw [en_37, pk_us]
              refine pm_iloadn hG dX12_own_86 rfl ?_
              exact pm_iret hG hF dX12_own_87 rfl (Nat.le_refl _) (Nat.le_refl _) ⟨_, rfl, ⟨_, _, _, rfl, hnn_37, hrn_37, e38.trans ekc11.symm⟩, rfl⟩
          · refine pm_aloadn hG dX12_own_52 rfl ?_
            refine pm_iconst (v := nI 3) hG dX12_own_53 (by decide) ?_
            refine pm_callV (As := [.int (nI 3)]) (rest := []) hG hR dX12_own_54 (lkX12_80 _ rfl) okV_X12_finds rfl rfl (m_finds (d := 1) (by decide) hn hz (by omega)) rfl rfl hdd (Nat.le_refl _) (Nat.le_refl _) (by decide) (pm_ki (fun v44 σ' cnt' hq => ?_))
            obtain ⟨⟨I45, A45, rfl⟩, rfl, fv44⟩ := hq
            exact pm_iret hG hF dX12_own_57 rfl (Nat.le_refl _) (Nat.le_refl _) ⟨_, rfl, ⟨_, _, _, rfl, hn, hr, ekc11.trans ekc11.symm⟩, rfl⟩
        · refine pm_callV (As := [.int (nI k24)]) (rest := []) hG hR dX12_own_23 (lkX12_101 _ rfl) okV_X12_lives rfl rfl (m_lives0 (d := 1) (by decide) (by omega) (by omega : 14 * k24 + 119 = 14 * k24 + 119) ek25 (by omega)) rfl rfl hdd (Nat.le_refl _) (Nat.le_refl _) (by decide) (pm_ki (fun v46 σ' cnt' hq => ?_))
          obtain ⟨rfl, rfl, rfl⟩ := hq
          refine pm_ifN_ne (tgt := 35) hG dX12_own_26 rfl (by omega) (fun q => absurd q (by omega)) (fun _ => ?_)
          refine pm_aloadn hG dX12_own_29 rfl ?_
          refine pm_iconst (v := nI 1) hG dX12_own_30 (by decide) ?_
          refine pm_callV (As := [.int (nI 1)]) (rest := []) hG hR dX12_own_31 (lkX12_80 _ rfl) okV_X12_finds rfl rfl (m_finds (d := 1) (by decide) hn hz (by omega)) rfl rfl hdd (Nat.le_refl _) (Nat.le_refl _) (by decide) (pm_ki (fun v47 σ' cnt' hq => ?_))
          obtain ⟨⟨I48, A48, rfl⟩, rfl, fv47⟩ := hq
          exact pm_iret hG hF dX12_own_34 rfl (Nat.le_refl _) (Nat.le_refl _) ⟨_, rfl, ⟨_, _, _, rfl, hn, hr, ekc11.trans ekc11.symm⟩, rfl⟩
      · refine pm_ifN_eq (tgt := 29) hG dX12_own_18 rfl (by omega) (fun _ => ?_) (fun q => absurd q (by omega))
        refine pm_aloadn hG dX12_own_29 rfl ?_
        refine pm_iconst (v := nI 1) hG dX12_own_30 (by decide) ?_
        refine pm_callV (As := [.int (nI 1)]) (rest := []) hG hR dX12_own_31 (lkX12_80 _ rfl) okV_X12_finds rfl rfl (m_finds (d := 1) (by decide) hn hz (by omega)) rfl rfl hdd (Nat.le_refl _) (Nat.le_refl _) (by decide) (pm_ki (fun v49 σ' cnt' hq => ?_))
        obtain ⟨⟨I50, A50, rfl⟩, rfl, fv49⟩ := hq
        exact pm_iret hG hF dX12_own_34 rfl (Nat.le_refl _) (Nat.le_refl _) ⟨_, rfl, ⟨_, _, _, rfl, hn, hr, ekc11.trans ekc11.symm⟩, rfl⟩
  · refine pm_ifN_eq (tgt := 29) hG dX12_own_5 rfl (by omega) (fun _ => ?_) (fun q => absurd q (by omega))
    refine pm_aloadn hG dX12_own_29 rfl ?_
    refine pm_iconst (v := nI 1) hG dX12_own_30 (by decide) ?_
    refine pm_callV (As := [.int (nI 1)]) (rest := []) hG hR dX12_own_31 (lkX12_80 _ rfl) okV_X12_finds rfl rfl (m_finds (d := 1) (by decide) hn hz (by omega)) rfl rfl hdd (Nat.le_refl _) (Nat.le_refl _) (by decide) (pm_ki (fun v51 σ' cnt' hq => ?_))
    obtain ⟨⟨I52, A52, rfl⟩, rfl, fv51⟩ := hq
    exact pm_iret hG hF dX12_own_34 rfl (Nat.le_refl _) (Nat.le_refl _) ⟨_, rfl, ⟨_, _, _, rfl, hn, hr, ekc11.trans ekc11.symm⟩, rfl⟩

set_option maxRecDepth 100000 in
set_option maxHeartbeats 4000000 in
theorem m_pay {d B cnt p0 t0 : Nat} {σ : pm_S} {I : Nat → Int32} {A : Nat → Nat → Int32} {n k z : Nat → Int32} {ac wt pl im : Int32} {za zb : Int32} (hdd : 2 ≤ d) (hn : KI n) (hr : NR n) (hz : SZ z)  : pm_met mX12_pay d 0 0 B [.ref (B + 54), .int za, .int zb] cnt (pm_mid σ (md_L B I A n k z ac wt pl (nI p0) (nI t0) im)) (pm_Qi (fun v σ' cnt' => (∃ (I' : Nat → Int32) (A' : Nat → Nat → Int32) (n' : Nat → Int32), σ' = pm_mid σ (md_L B I' A' n' k z ac wt pl (nI p0) (nI t0) im) ∧ KI n' ∧ NR n' ∧ n' 11 = n 11) ∧ cnt = cnt')) := by
  obtain ⟨kc11, hkc11, ekc11⟩ := KI.nat hn (show kd 11 = (1, 21, false) by decide)
  refine pm_enter 0 (by decide) (Nat.le_of_ble_eq_true rfl) rfl (fun G hG hR hF => ?_)
  refine pm_aloadn hG dX12_pay_0 rfl ?_
  refine pm_iloadn hG dX12_pay_1 rfl ?_
  obtain ⟨k1, hk1, ek1⟩ := KI.nat hn (show kd 2 = (1, 21, true) by decide)
  refine pm_callV (As := [.int za]) (rest := []) hG hR dX12_pay_2 (lkX12_91 _ rfl) okV_X12_isPerson rfl rfl (m_isPerson (d := 1) (by decide) ek1 (by omega)) rfl rfl hdd (Nat.le_refl _) (Nat.le_refl _) (by decide) (pm_ki (fun v2 σ' cnt' hq => ?_))
  obtain ⟨hq, rfl, rfl⟩ := hq
  rcases hq with ⟨rfl, k4, hk4, ek4⟩ | rfl
  · refine pm_ifN_eq (tgt := 19) hG dX12_pay_5 rfl (by omega) (fun q => absurd q (by omega)) (fun _ => ?_)
    refine pm_iloadn hG dX12_pay_8 rfl ?_
    refine pm_iconst (v := nI 1) hG dX12_pay_9 (by decide) ?_
    refine pm_sipush (v := nI 9999) hG dX12_pay_10 (by decide) ?_
    refine pm_callS (As := [.int zb, .int (nI 1), .int (nI 9999)]) (rest := []) hG hR dX12_pay_13 (lkX12_68 _ rfl) okS_X12_in (m_in (d := 1)) rfl rfl hdd (Nat.le_refl _) (Nat.le_refl _) (by decide) (pm_ki (fun v5 σ' cnt' hq => ?_))
    obtain ⟨hq, rfl, rfl⟩ := hq
    rcases hq with ⟨rfl, ac6, bc6⟩ | ⟨rfl, c6⟩
    · obtain ⟨k7, hk7, ek7⟩ := in_nat (by omega) (by omega) ac6 bc6
      refine pm_ifN_ne (tgt := 25) hG dX12_pay_16 rfl (by omega) (fun _ => ?_) (fun q => absurd q (by omega))
      refine pm_aloadn hG dX12_pay_25 rfl ?_
      refine pm_iloadn hG dX12_pay_26 rfl ?_
      refine pm_top (v := nI k4) ek4 ?_
      rcases KI.opt hn (show kd (14 * k4 + 119) = (2, 2001, false) from (kd_P (k := k4) (c := 9) (by omega) (by omega) (by decide))) with ek8 | ⟨k8, hk8, ek8⟩
      · refine pm_callV (As := [.int (nI k4)]) (rest := []) hG hR dX12_pay_27 (lkX12_101 _ rfl) okV_X12_lives rfl rfl (m_lives1 (d := 1) (by decide) (by omega) (by omega : 14 * k4 + 119 = 14 * k4 + 119) ek8) rfl rfl hdd (Nat.le_refl _) (Nat.le_refl _) (by decide) (pm_ki (fun v9 σ' cnt' hq => ?_))
        obtain ⟨rfl, rfl, rfl⟩ := hq
        refine pm_ifN_ne (tgt := 39) hG dX12_pay_30 rfl (by omega) (fun _ => ?_) (fun q => absurd q (by omega))
        refine pm_aloadn hG dX12_pay_39 rfl ?_
        refine pm_getf hG dX12_pay_40 (flX12_7 _ rfl) rfl rfl ?_
        refine pm_bipush (v := nI 9) hG dX12_pay_43 (by decide) ?_
        refine pm_ialdN hG dX12_pay_45 rfl (by decide) (by omega) ?_
        refine pm_gen (fun x10 ex10 => ?_)
        refine pm_iloadn hG dX12_pay_46 rfl ?_
        refine pm_top (v := nI k7) ek7 ?_
        refine pm_icmp_ge (tgt := 56) hG dX12_pay_47 rfl (fun c11 => ?_) (fun c11 => ?_)
        · refine pm_aloadn hG dX12_pay_56 rfl ?_
          refine pm_getf hG dX12_pay_57 (flX12_7 _ rfl) rfl rfl ?_
          refine pm_bipush (v := nI 9) hG dX12_pay_60 (by decide) ?_
          refine pm_dup2 hG dX12_pay_62 rfl rfl ?_
          refine pm_ialdN hG dX12_pay_63 rfl (by decide) (by omega) ?_
          refine pm_top (v := x10) ex10 ?_
          refine pm_iloadn hG dX12_pay_64 rfl ?_
          refine pm_top (v := nI k7) ek7 ?_
          refine pm_isub hG dX12_pay_65 ?_
          refine pm_iastN hG dX12_pay_66 rfl (by decide) (by omega) ?_
          refine mdn_now (fun n_12 en_12 => ?_)
          have hnn_12 := KI.w en_12 hn (okv_f (show kd 9 = (0, 0, false) by decide))
          have hrn_12 := NRx.w en_12 hr (by rw [(show kd 9 = (0, 0, false) by decide)])
          have e13 : n_12 11 = nI kc11 := by rw [en_12, pk_un (by omega)]; exact ekc11
          have e14 : n_12 2 = nI k1 := by rw [en_12, pk_un (by omega)]; exact ek1
          have e15 : n_12 (14 * k4 + 119) = (-1) := by rw [en_12, pk_un (by omega)]; exact ek8
          have e16 : n_12 9 = x10 - (nI k7) := by rw [en_12, pk_us]
          refine pm_aloadn hG dX12_pay_67 rfl ?_
          refine pm_iloadn hG dX12_pay_68 rfl ?_
          refine pm_top (v := nI k4) ek4 ?_
          refine pm_bipush (v := nI 7) hG dX12_pay_69 (by decide) ?_
          refine pm_aloadn hG dX12_pay_71 rfl ?_
          refine pm_iloadn hG dX12_pay_72 rfl ?_
          refine pm_top (v := nI k4) ek4 ?_
          refine pm_bipush (v := nI 7) hG dX12_pay_73 (by decide) ?_
          refine pm_callV (As := [.int (nI k4), .int (nI 7)]) (rest := [.int (nI 7), .int (nI k4), .ref (B + 54)]) hG hR dX12_pay_75 (lkX12_72 _ rfl) okV_X12_man rfl rfl (m_man (d := 1) (e := 14 * k4 + 117) (by omega) (by omega) (by omega)) rfl rfl hdd (Nat.le_refl _) (Nat.le_refl _) (Nat.le_of_ble_eq_true rfl) (pm_ki (fun v17 σ' cnt' hq => ?_))
          obtain ⟨rfl, rfl, rfl⟩ := hq
          refine pm_gen (fun x18 ex18 => ?_)
          refine pm_iloadn hG dX12_pay_78 rfl ?_
          refine pm_top (v := nI k7) ek7 ?_
          refine pm_iadd hG dX12_pay_79 ?_
          refine pm_callV (As := [.int (nI k4), .int (nI 7), .int (x18 + (nI k7))]) (rest := []) hG hR dX12_pay_80 (lkX12_97 _ rfl) okV_X12_sets rfl rfl (m_sets (d := 1) (e := 14 * k4 + 117) (by omega) (by omega) (by omega)) rfl rfl hdd (Nat.le_refl _) (Nat.le_refl _) (by decide) (pm_kv (fun σ' cnt' hq => ?_))
          obtain ⟨rfl, rfl⟩ := hq
          obtain ⟨n_19, en_19⟩ : ∃ f : Nat → Int32, f = upd n_12 (14 * k4 + 117) (x18 + (nI k7)) := ⟨_, rfl⟩
          rw [← en_19]
          have hnn_19 := KI.w en_19 hnn_12 (okv_f (show kd (14 * k4 + 117) = (0, 0, false) from (kd_P (k := k4) (c := 7) (by omega) (by omega) (by decide))))
          have hrn_19 := NRx.w en_19 hrn_12 (by rw [(show kd (14 * k4 + 117) = (0, 0, false) from (kd_P (k := k4) (c := 7) (by omega) (by omega) (by decide)))])
          have e20 : n_19 11 = nI kc11 := by rw [en_19, pk_un (by omega)]; exact e13
          have e21 : n_19 2 = nI k1 := by rw [en_19, pk_un (by omega)]; exact e14
          have e22 : n_19 (14 * k4 + 119) = (-1) := by rw [en_19, pk_un (by omega)]; exact e15
          have e23 : n_19 9 = x10 - (nI k7) := by rw [en_19, pk_un (by omega)]; exact e16
          have e24 : n_19 (14 * k4 + 117) = x18 + (nI k7) := by rw [en_19, pk_us]
          refine pm_aloadn hG dX12_pay_83 rfl ?_
          refine pm_getf hG dX12_pay_84 (flX12_7 _ rfl) rfl rfl ?_
          refine pm_bipush (v := nI 9) hG dX12_pay_87 (by decide) ?_
          refine pm_ialdN hG dX12_pay_89 rfl (by decide) (by omega) ?_
          refine pm_top (v := x10 - (nI k7)) e23 ?_
          exact pm_iret hG hF dX12_pay_90 rfl (Nat.le_refl _) (Nat.le_refl _) ⟨_, rfl, ⟨_, _, _, rfl, hnn_19, hrn_19, e20.trans ekc11.symm⟩, rfl⟩
        · refine pm_aloadn hG dX12_pay_50 rfl ?_
          refine pm_iconst (v := nI 2) hG dX12_pay_51 (by decide) ?_
          refine pm_callV (As := [.int (nI 2)]) (rest := []) hG hR dX12_pay_52 (lkX12_80 _ rfl) okV_X12_finds rfl rfl (m_finds (d := 1) (by decide) hn hz (by omega)) rfl rfl hdd (Nat.le_refl _) (Nat.le_refl _) (by decide) (pm_ki (fun v25 σ' cnt' hq => ?_))
          obtain ⟨⟨I26, A26, rfl⟩, rfl, fv25⟩ := hq
          exact pm_iret hG hF dX12_pay_55 rfl (Nat.le_refl _) (Nat.le_refl _) ⟨_, rfl, ⟨_, _, _, rfl, hn, hr, ekc11.trans ekc11.symm⟩, rfl⟩
      · refine pm_callV (As := [.int (nI k4)]) (rest := []) hG hR dX12_pay_27 (lkX12_101 _ rfl) okV_X12_lives rfl rfl (m_lives0 (d := 1) (by decide) (by omega) (by omega : 14 * k4 + 119 = 14 * k4 + 119) ek8 (by omega)) rfl rfl hdd (Nat.le_refl _) (Nat.le_refl _) (by decide) (pm_ki (fun v27 σ' cnt' hq => ?_))
        obtain ⟨rfl, rfl, rfl⟩ := hq
        refine pm_ifN_ne (tgt := 39) hG dX12_pay_30 rfl (by omega) (fun q => absurd q (by omega)) (fun _ => ?_)
        refine pm_aloadn hG dX12_pay_33 rfl ?_
        refine pm_iconst (v := nI 3) hG dX12_pay_34 (by decide) ?_
        refine pm_callV (As := [.int (nI 3)]) (rest := []) hG hR dX12_pay_35 (lkX12_80 _ rfl) okV_X12_finds rfl rfl (m_finds (d := 1) (by decide) hn hz (by omega)) rfl rfl hdd (Nat.le_refl _) (Nat.le_refl _) (by decide) (pm_ki (fun v28 σ' cnt' hq => ?_))
        obtain ⟨⟨I29, A29, rfl⟩, rfl, fv28⟩ := hq
        exact pm_iret hG hF dX12_pay_38 rfl (Nat.le_refl _) (Nat.le_refl _) ⟨_, rfl, ⟨_, _, _, rfl, hn, hr, ekc11.trans ekc11.symm⟩, rfl⟩
    · refine pm_ifN_ne (tgt := 25) hG dX12_pay_16 rfl (by omega) (fun q => absurd q (by omega)) (fun _ => ?_)
      refine pm_aloadn hG dX12_pay_19 rfl ?_
      refine pm_iconst (v := nI 1) hG dX12_pay_20 (by decide) ?_
      refine pm_callV (As := [.int (nI 1)]) (rest := []) hG hR dX12_pay_21 (lkX12_80 _ rfl) okV_X12_finds rfl rfl (m_finds (d := 1) (by decide) hn hz (by omega)) rfl rfl hdd (Nat.le_refl _) (Nat.le_refl _) (by decide) (pm_ki (fun v30 σ' cnt' hq => ?_))
      obtain ⟨⟨I31, A31, rfl⟩, rfl, fv30⟩ := hq
      exact pm_iret hG hF dX12_pay_24 rfl (Nat.le_refl _) (Nat.le_refl _) ⟨_, rfl, ⟨_, _, _, rfl, hn, hr, ekc11.trans ekc11.symm⟩, rfl⟩
  · refine pm_ifN_eq (tgt := 19) hG dX12_pay_5 rfl (by omega) (fun _ => ?_) (fun q => absurd q (by omega))
    refine pm_aloadn hG dX12_pay_19 rfl ?_
    refine pm_iconst (v := nI 1) hG dX12_pay_20 (by decide) ?_
    refine pm_callV (As := [.int (nI 1)]) (rest := []) hG hR dX12_pay_21 (lkX12_80 _ rfl) okV_X12_finds rfl rfl (m_finds (d := 1) (by decide) hn hz (by omega)) rfl rfl hdd (Nat.le_refl _) (Nat.le_refl _) (by decide) (pm_ki (fun v32 σ' cnt' hq => ?_))
    obtain ⟨⟨I33, A33, rfl⟩, rfl, fv32⟩ := hq
    exact pm_iret hG hF dX12_pay_24 rfl (Nat.le_refl _) (Nat.le_refl _) ⟨_, rfl, ⟨_, _, _, rfl, hn, hr, ekc11.trans ekc11.symm⟩, rfl⟩

set_option maxRecDepth 100000 in
set_option maxHeartbeats 4000000 in
theorem m_person {d B cnt p0 t0 : Nat} {σ : pm_S} {I : Nat → Int32} {A : Nat → Nat → Int32} {n k z : Nat → Int32} {ac wt pl im : Int32} {za zb zc zd : Int32} (hdd : 3 ≤ d) (hn : KI n) (hr : NR n) (hz : SZ z)  : pm_met mX12_person d 0 0 B [.ref (B + 54), .int za, .int zb, .int zc, .int zd] cnt (pm_mid σ (md_L B I A n k z ac wt pl (nI p0) (nI t0) im)) (pm_Qi (fun v σ' cnt' => (∃ (I' : Nat → Int32) (A' : Nat → Nat → Int32) (n' : Nat → Int32), σ' = pm_mid σ (md_L B I' A' n' k z ac wt pl (nI p0) (nI t0) im) ∧ KI n' ∧ NR n' ∧ n' 11 = n 11) ∧ cnt = cnt')) := by
  obtain ⟨kc11, hkc11, ekc11⟩ := KI.nat hn (show kd 11 = (1, 21, false) by decide)
  refine pm_enter 3 (by decide) (Nat.le_of_ble_eq_true rfl) rfl (fun G hG hR hF => ?_)
  refine pm_iloadn hG dX12_person_0 rfl ?_
  refine pm_iconst (v := nI 0) hG dX12_person_1 (by decide) ?_
  refine pm_iconst (v := nI 1) hG dX12_person_2 (by decide) ?_
  refine pm_callS (As := [.int za, .int (nI 0), .int (nI 1)]) (rest := []) hG hR dX12_person_3 (lkX12_68 _ rfl) okS_X12_in (m_in (d := 2)) rfl rfl hdd (Nat.le_refl _) (Nat.le_refl _) (by decide) (pm_ki (fun v1 σ' cnt' hq => ?_))
  obtain ⟨hq, rfl, rfl⟩ := hq
  rcases hq with ⟨rfl, ac2, bc2⟩ | ⟨rfl, c2⟩
  · obtain ⟨k3, hk3, ek3⟩ := in_nat (by omega) (by omega) ac2 bc2
    refine pm_ifN_eq (tgt := 73) hG dX12_person_6 rfl (by omega) (fun q => absurd q (by omega)) (fun _ => ?_)
    refine pm_iloadn hG dX12_person_9 rfl ?_
    refine pm_sipush (v := (-20000)) hG dX12_person_10 (by decide) ?_
    refine pm_aloadn hG dX12_person_13 rfl ?_
    refine pm_getf hG dX12_person_14 (flX12_7 _ rfl) rfl rfl ?_
    refine pm_bipush (v := nI 8) hG dX12_person_17 (by decide) ?_
    refine pm_ialdN hG dX12_person_19 rfl (by decide) (by omega) ?_
    obtain ⟨k4, hk4, ek4⟩ := KI.nat hn (show kd 8 = (1, 2001, false) by decide)
    refine pm_top (v := nI k4) ek4 ?_
    refine pm_callS (As := [.int zb, .int (-20000), .int (nI k4)]) (rest := []) hG hR dX12_person_20 (lkX12_68 _ rfl) okS_X12_in (m_in (d := 2)) rfl rfl hdd (Nat.le_refl _) (Nat.le_refl _) (by decide) (pm_ki (fun v5 σ' cnt' hq => ?_))
    obtain ⟨hq, rfl, rfl⟩ := hq
    rcases hq with ⟨rfl, ac6, bc6⟩ | ⟨rfl, c6⟩
    · refine pm_ifN_eq (tgt := 73) hG dX12_person_23 rfl (by omega) (fun q => absurd q (by omega)) (fun _ => ?_)
      refine pm_iloadn hG dX12_person_26 rfl ?_
      refine pm_if_lt (tgt := 73) hG dX12_person_27 rfl (fun c7 => ?_) (fun c7 => ?_)
      · refine pm_iconst (v := nI 0) hG dX12_person_73 (by decide) ?_
        refine pm_istoreXi (loc' := [some (.ref (B + 54)), some (.int za), some (.int zb), some (.int zc), some (.int zd), some (.int (nI 0)), none, none]) hG dX12_person_74 (by decide) (pm_c1b rfl) rfl ?_
        refine pm_iloadi hG dX12_person_76 rfl ?_
        refine pm_ifN_ne (tgt := 87) hG dX12_person_78 rfl (by omega) (fun q => absurd q (by omega)) (fun _ => ?_)
        refine pm_aloadn hG dX12_person_81 rfl ?_
        refine pm_iconst (v := nI 1) hG dX12_person_82 (by decide) ?_
        refine pm_callV (As := [.int (nI 1)]) (rest := []) hG hR dX12_person_83 (lkX12_80 _ rfl) okV_X12_finds rfl rfl (m_finds (d := 2) (by decide) hn hz (by omega)) rfl rfl hdd (Nat.le_refl _) (Nat.le_refl _) (by decide) (pm_ki (fun v8 σ' cnt' hq => ?_))
        obtain ⟨⟨I9, A9, rfl⟩, rfl, fv8⟩ := hq
        exact pm_iret hG hF dX12_person_86 rfl (Nat.le_refl _) (Nat.le_refl _) ⟨_, rfl, ⟨_, _, _, rfl, hn, hr, ekc11.trans ekc11.symm⟩, rfl⟩
      · obtain ⟨k10, hk10, ek10⟩ := nI_of c7
        refine pm_aloadn hG dX12_person_30 rfl ?_
        refine pm_iloadn hG dX12_person_31 rfl ?_
        refine pm_top (v := nI k10) ek10 ?_
        refine pm_bipush (v := nI 100) hG dX12_person_32 (by decide) ?_
        refine pm_idivN hG dX12_person_34 (by omega) (by decide) (by decide) ?_
        refine pm_iconst (v := nI 1) hG dX12_person_35 (by decide) ?_
        refine pm_isub hG dX12_person_36 ?_
        refine pm_iconst (v := nI 1) hG dX12_person_37 (by decide) ?_
        refine pm_iloadn hG dX12_person_38 rfl ?_
        refine pm_callV (As := [.int ((nI ((k10 / 100))) - (nI 1)), .int (nI 1), .int zb]) (rest := []) hG hR dX12_person_39 (lkX12_94 _ rfl) okV_X12_isParent rfl rfl (m_isParent (d := 2) (by decide) hn hz) rfl rfl hdd (Nat.le_refl _) (Nat.le_refl _) (by decide) (pm_ki (fun v11 σ' cnt' hq => ?_))
        obtain ⟨rfl, rfl, hq⟩ := hq
        rcases hq with rfl | ⟨rfl, ek12 | ⟨k12, hk12, ek12⟩⟩
        · refine pm_ifN_eq (tgt := 73) hG dX12_person_42 rfl (by omega) (fun _ => ?_) (fun q => absurd q (by omega))
          refine pm_iconst (v := nI 0) hG dX12_person_73 (by decide) ?_
          refine pm_istoreXi (loc' := [some (.ref (B + 54)), some (.int za), some (.int zb), some (.int zc), some (.int zd), some (.int (nI 0)), none, none]) hG dX12_person_74 (by decide) (pm_c1b rfl) rfl ?_
          refine pm_iloadi hG dX12_person_76 rfl ?_
          refine pm_ifN_ne (tgt := 87) hG dX12_person_78 rfl (by omega) (fun q => absurd q (by omega)) (fun _ => ?_)
          refine pm_aloadn hG dX12_person_81 rfl ?_
          refine pm_iconst (v := nI 1) hG dX12_person_82 (by decide) ?_
          refine pm_callV (As := [.int (nI 1)]) (rest := []) hG hR dX12_person_83 (lkX12_80 _ rfl) okV_X12_finds rfl rfl (m_finds (d := 2) (by decide) hn hz (by omega)) rfl rfl hdd (Nat.le_refl _) (Nat.le_refl _) (by decide) (pm_ki (fun v13 σ' cnt' hq => ?_))
          obtain ⟨⟨I14, A14, rfl⟩, rfl, fv13⟩ := hq
          exact pm_iret hG hF dX12_person_86 rfl (Nat.le_refl _) (Nat.le_refl _) ⟨_, rfl, ⟨_, _, _, rfl, hn, hr, ekc11.trans ekc11.symm⟩, rfl⟩
        · refine pm_ifN_eq (tgt := 73) hG dX12_person_42 rfl (by omega) (fun q => absurd q (by omega)) (fun _ => ?_)
          refine pm_aloadn hG dX12_person_45 rfl ?_
          refine pm_iloadn hG dX12_person_46 rfl ?_
          refine pm_top (v := nI k10) ek10 ?_
          refine pm_bipush (v := nI 100) hG dX12_person_47 (by decide) ?_
          refine pm_iremM hG dX12_person_49 (by omega) (by decide) (by decide) ?_
          refine pm_iconst (v := nI 1) hG dX12_person_50 (by decide) ?_
          refine pm_isub hG dX12_person_51 ?_
          refine pm_iconst (v := nI 0) hG dX12_person_52 (by decide) ?_
          refine pm_iloadn hG dX12_person_53 rfl ?_
          refine pm_callV (As := [.int ((nI ((k10 % 100))) - (nI 1)), .int (nI 0), .int zb]) (rest := []) hG hR dX12_person_54 (lkX12_94 _ rfl) okV_X12_isParent rfl rfl (m_isParent (d := 2) (by decide) hn hz) rfl rfl hdd (Nat.le_refl _) (Nat.le_refl _) (by decide) (pm_ki (fun v15 σ' cnt' hq => ?_))
          obtain ⟨rfl, rfl, hq⟩ := hq
          rcases hq with rfl | ⟨rfl, ek16 | ⟨k16, hk16, ek16⟩⟩
          · refine pm_ifN_eq (tgt := 73) hG dX12_person_57 rfl (by omega) (fun _ => ?_) (fun q => absurd q (by omega))
            refine pm_iconst (v := nI 0) hG dX12_person_73 (by decide) ?_
            refine pm_istoreXi (loc' := [some (.ref (B + 54)), some (.int za), some (.int zb), some (.int zc), some (.int zd), some (.int (nI 0)), none, none]) hG dX12_person_74 (by decide) (pm_c1b rfl) rfl ?_
            refine pm_iloadi hG dX12_person_76 rfl ?_
            refine pm_ifN_ne (tgt := 87) hG dX12_person_78 rfl (by omega) (fun q => absurd q (by omega)) (fun _ => ?_)
            refine pm_aloadn hG dX12_person_81 rfl ?_
            refine pm_iconst (v := nI 1) hG dX12_person_82 (by decide) ?_
            refine pm_callV (As := [.int (nI 1)]) (rest := []) hG hR dX12_person_83 (lkX12_80 _ rfl) okV_X12_finds rfl rfl (m_finds (d := 2) (by decide) hn hz (by omega)) rfl rfl hdd (Nat.le_refl _) (Nat.le_refl _) (by decide) (pm_ki (fun v17 σ' cnt' hq => ?_))
            obtain ⟨⟨I18, A18, rfl⟩, rfl, fv17⟩ := hq
            exact pm_iret hG hF dX12_person_86 rfl (Nat.le_refl _) (Nat.le_refl _) ⟨_, rfl, ⟨_, _, _, rfl, hn, hr, ekc11.trans ekc11.symm⟩, rfl⟩
          · refine pm_ifN_eq (tgt := 73) hG dX12_person_57 rfl (by omega) (fun q => absurd q (by omega)) (fun _ => ?_)
            refine pm_aloadn hG dX12_person_60 rfl ?_
            refine pm_iloadi hG dX12_person_61 rfl ?_
            obtain ⟨k19, hk19, ek19⟩ := KI.nat hn (show kd 0 = (1, 11, true) by decide)
            refine pm_callV (As := [.int zd]) (rest := []) hG hR dX12_person_63 (lkX12_84 _ rfl) okV_X12_isTown rfl rfl (m_isTown (d := 2) (by decide) ek19 (by omega)) rfl rfl hdd (Nat.le_refl _) (Nat.le_refl _) (by decide) (pm_ki (fun v20 σ' cnt' hq => ?_))
            obtain ⟨hq, rfl, rfl⟩ := hq
            rcases hq with ⟨rfl, k22, hk22, ek22⟩ | rfl
            · refine pm_ifN_eq (tgt := 73) hG dX12_person_66 rfl (by omega) (fun q => absurd q (by omega)) (fun _ => ?_)
              refine pm_iconst (v := nI 1) hG dX12_person_69 (by decide) ?_
              refine pm_goto (tgt := 74) hG dX12_person_70 rfl ?_
              refine pm_istoreXi (loc' := [some (.ref (B + 54)), some (.int za), some (.int zb), some (.int zc), some (.int zd), some (.int (nI 1)), none, none]) hG dX12_person_74 (by decide) (pm_c1b rfl) rfl ?_
              refine pm_iloadi hG dX12_person_76 rfl ?_
              refine pm_ifN_ne (tgt := 87) hG dX12_person_78 rfl (by omega) (fun _ => ?_) (fun q => absurd q (by omega))
              refine pm_aloadn hG dX12_person_87 rfl ?_
              refine pm_getf hG dX12_person_88 (flX12_7 _ rfl) rfl rfl ?_
              refine pm_iconst (v := nI 2) hG dX12_person_91 (by decide) ?_
              refine pm_ialdN hG dX12_person_92 rfl (by decide) (by omega) ?_
              obtain ⟨k23, hk23, ek23⟩ := KI.nat hn (show kd 2 = (1, 21, true) by decide)
              refine pm_top (v := nI k23) ek23 ?_
              refine pm_istoreXi (loc' := [some (.ref (B + 54)), some (.int za), some (.int zb), some (.int zc), some (.int zd), some (.int (nI 1)), some (.int (nI k23)), none]) hG dX12_person_93 (by decide) (pm_c1b rfl) rfl ?_
              refine pm_iloadi hG dX12_person_95 rfl ?_
              refine pm_bipush (v := nI 20) hG dX12_person_97 (by decide) ?_
              refine pm_icmpN_ne (tgt := 108) hG dX12_person_99 rfl (by omega) (by omega) (fun c24 => ?_) (fun c24 => ?_)
              · refine pm_aloadn hG dX12_person_108 rfl ?_
                refine pm_getf hG dX12_person_109 (flX12_7 _ rfl) rfl rfl ?_
                refine pm_iconst (v := nI 2) hG dX12_person_112 (by decide) ?_
                refine pm_dup2 hG dX12_person_113 rfl rfl ?_
                refine pm_ialdN hG dX12_person_114 rfl (by decide) (by omega) ?_
                refine pm_top (v := nI k23) ek23 ?_
                refine pm_iconst (v := nI 1) hG dX12_person_115 (by decide) ?_
                refine pm_iaddN (c := k23 + 1) hG dX12_person_116 (by omega) ?_
                refine pm_iastN hG dX12_person_117 rfl (by decide) (by omega) ?_
                refine mdn_now (fun n_25 en_25 => ?_)
                have hnn_25 := KI.w en_25 hn (okv_n (show kd 2 = (1, 21, true) by decide) (by omega))
                have hrn_25 := NRx.pers en_25 hr ek19 (by omega) ek23 (by omega)
                have e26 : n_25 11 = nI kc11 := by rw [en_25, pk_un (by omega)]; exact ekc11
                have e27 : n_25 8 = nI k4 := by rw [en_25, pk_un (by omega)]; exact ek4
                have e28 : n_25 0 = nI k19 := by rw [en_25, pk_un (by omega)]; exact ek19
                have e29 : n_25 2 = nI (k23 + 1) := by rw [en_25, pk_us]
                refine pm_iconst (v := nI 0) hG dX12_person_118 (by decide) ?_
                refine pm_istoreXi (loc' := [some (.ref (B + 54)), some (.int za), some (.int zb), some (.int zc), some (.int zd), some (.int (nI 1)), some (.int (nI k23)), some (.int (nI 0))]) hG dX12_person_119 (by decide) (pm_c1b rfl) rfl ?_
                refine pm_iloadi hG dX12_person_121 rfl ?_
                refine pm_bipush (v := nI 14) hG dX12_person_123 (by decide) ?_
                refine pm_icmpN_ge (tgt := 143) hG dX12_person_125 rfl (by omega) (by omega) (fun q => absurd q (by omega)) (fun _ => ?_)
                refine pm_aloadn hG dX12_person_128 rfl ?_
                refine pm_iloadi hG dX12_person_129 rfl ?_
                refine pm_iloadi hG dX12_person_131 rfl ?_
                refine pm_iconst (v := nI 0) hG dX12_person_133 (by decide) ?_
                refine pm_callV (As := [.int (nI k23), .int (nI 0), .int (nI 0)]) (rest := []) hG hR dX12_person_134 (lkX12_97 _ rfl) okV_X12_sets rfl rfl (m_sets (d := 2) (e := 14 * k23 + 110) (by omega) (by omega) (by omega)) rfl rfl hdd (Nat.le_refl _) (Nat.le_refl _) (by decide) (pm_kv (fun σ' cnt' hq => ?_))
                obtain ⟨rfl, rfl⟩ := hq
                obtain ⟨n_30, en_30⟩ : ∃ f : Nat → Int32, f = upd n_25 (14 * k23 + 110) (nI 0) := ⟨_, rfl⟩
                rw [← en_30]
                have hnn_30 := KI.w en_30 hnn_25 (okv_f (show kd (14 * k23 + 110) = (0, 0, false) from (kd_P (k := k23) (c := 0) (by omega) (by omega) (by decide))))
                have hrn_30 := NRx.w en_30 hrn_25 (by rw [(show kd (14 * k23 + 110) = (0, 0, false) from (kd_P (k := k23) (c := 0) (by omega) (by omega) (by decide)))])
                have e31 : n_30 11 = nI kc11 := by rw [en_30, pk_un (by omega)]; exact e26
                have e32 : n_30 8 = nI k4 := by rw [en_30, pk_un (by omega)]; exact e27
                have e33 : n_30 0 = nI k19 := by rw [en_30, pk_un (by omega)]; exact e28
                have e34 : n_30 2 = nI (k23 + 1) := by rw [en_30, pk_un (by omega)]; exact e29
                have e35 : n_30 (14 * k23 + 110) = nI 0 := by rw [en_30, pk_us]
                refine pm_iincX (v := nI 1) (loc' := [some (.ref (B + 54)), some (.int za), some (.int zb), some (.int zc), some (.int zd), some (.int (nI 1)), some (.int (nI k23)), some (.int (nI 1))]) hG dX12_person_137 rfl (nI_1 _) (by decide) (pm_c1b rfl) rfl ?_
                refine pm_goto (tgt := 121) hG dX12_person_140 rfl ?_
                refine pm_iloadi hG dX12_person_121 rfl ?_
                refine pm_bipush (v := nI 14) hG dX12_person_123 (by decide) ?_
                refine pm_icmpN_ge (tgt := 143) hG dX12_person_125 rfl (by omega) (by omega) (fun q => absurd q (by omega)) (fun _ => ?_)
                refine pm_aloadn hG dX12_person_128 rfl ?_
                refine pm_iloadi hG dX12_person_129 rfl ?_
                refine pm_iloadi hG dX12_person_131 rfl ?_
                refine pm_iconst (v := nI 0) hG dX12_person_133 (by decide) ?_
                refine pm_callV (As := [.int (nI k23), .int (nI 1), .int (nI 0)]) (rest := []) hG hR dX12_person_134 (lkX12_97 _ rfl) okV_X12_sets rfl rfl (m_sets (d := 2) (e := 14 * k23 + 111) (by omega) (by omega) (by omega)) rfl rfl hdd (Nat.le_refl _) (Nat.le_refl _) (by decide) (pm_kv (fun σ' cnt' hq => ?_))
                obtain ⟨rfl, rfl⟩ := hq
                obtain ⟨n_36, en_36⟩ : ∃ f : Nat → Int32, f = upd n_30 (14 * k23 + 111) (nI 0) := ⟨_, rfl⟩
                rw [← en_36]
                have hnn_36 := KI.w en_36 hnn_30 (okv_f (show kd (14 * k23 + 111) = (0, 0, false) from (kd_P (k := k23) (c := 1) (by omega) (by omega) (by decide))))
                have hrn_36 := NRx.w en_36 hrn_30 (by rw [(show kd (14 * k23 + 111) = (0, 0, false) from (kd_P (k := k23) (c := 1) (by omega) (by omega) (by decide)))])
                have e37 : n_36 11 = nI kc11 := by rw [en_36, pk_un (by omega)]; exact e31
                have e38 : n_36 8 = nI k4 := by rw [en_36, pk_un (by omega)]; exact e32
                have e39 : n_36 0 = nI k19 := by rw [en_36, pk_un (by omega)]; exact e33
                have e40 : n_36 2 = nI (k23 + 1) := by rw [en_36, pk_un (by omega)]; exact e34
                have e41 : n_36 (14 * k23 + 111) = nI 0 := by rw [en_36, pk_us]
                refine pm_iincX (v := nI 2) (loc' := [some (.ref (B + 54)), some (.int za), some (.int zb), some (.int zc), some (.int zd), some (.int (nI 1)), some (.int (nI k23)), some (.int (nI 2))]) hG dX12_person_137 rfl (nI_1 _) (by decide) (pm_c1b rfl) rfl ?_
                refine pm_goto (tgt := 121) hG dX12_person_140 rfl ?_
                refine pm_iloadi hG dX12_person_121 rfl ?_
                refine pm_bipush (v := nI 14) hG dX12_person_123 (by decide) ?_
                refine pm_icmpN_ge (tgt := 143) hG dX12_person_125 rfl (by omega) (by omega) (fun q => absurd q (by omega)) (fun _ => ?_)
                refine pm_aloadn hG dX12_person_128 rfl ?_
                refine pm_iloadi hG dX12_person_129 rfl ?_
                refine pm_iloadi hG dX12_person_131 rfl ?_
                refine pm_iconst (v := nI 0) hG dX12_person_133 (by decide) ?_
                refine pm_callV (As := [.int (nI k23), .int (nI 2), .int (nI 0)]) (rest := []) hG hR dX12_person_134 (lkX12_97 _ rfl) okV_X12_sets rfl rfl (m_sets (d := 2) (e := 14 * k23 + 112) (by omega) (by omega) (by omega)) rfl rfl hdd (Nat.le_refl _) (Nat.le_refl _) (by decide) (pm_kv (fun σ' cnt' hq => ?_))
                obtain ⟨rfl, rfl⟩ := hq
                obtain ⟨n_42, en_42⟩ : ∃ f : Nat → Int32, f = upd n_36 (14 * k23 + 112) (nI 0) := ⟨_, rfl⟩
                rw [← en_42]
                have hnn_42 := KI.w en_42 hnn_36 (okv_o (show kd (14 * k23 + 112) = (2, 20, false) from (kd_P (k := k23) (c := 2) (by omega) (by omega) (by decide))) (by omega))
                have hrn_42 := NRx.w en_42 hrn_36 (by rw [(show kd (14 * k23 + 112) = (2, 20, false) from (kd_P (k := k23) (c := 2) (by omega) (by omega) (by decide)))])
                have e43 : n_42 11 = nI kc11 := by rw [en_42, pk_un (by omega)]; exact e37
                have e44 : n_42 8 = nI k4 := by rw [en_42, pk_un (by omega)]; exact e38
                have e45 : n_42 0 = nI k19 := by rw [en_42, pk_un (by omega)]; exact e39
                have e46 : n_42 2 = nI (k23 + 1) := by rw [en_42, pk_un (by omega)]; exact e40
                have e47 : n_42 (14 * k23 + 112) = nI 0 := by rw [en_42, pk_us]
                refine pm_iincX (v := nI 3) (loc' := [some (.ref (B + 54)), some (.int za), some (.int zb), some (.int zc), some (.int zd), some (.int (nI 1)), some (.int (nI k23)), some (.int (nI 3))]) hG dX12_person_137 rfl (nI_1 _) (by decide) (pm_c1b rfl) rfl ?_
                refine pm_goto (tgt := 121) hG dX12_person_140 rfl ?_
                refine pm_iloadi hG dX12_person_121 rfl ?_
                refine pm_bipush (v := nI 14) hG dX12_person_123 (by decide) ?_
                refine pm_icmpN_ge (tgt := 143) hG dX12_person_125 rfl (by omega) (by omega) (fun q => absurd q (by omega)) (fun _ => ?_)
                refine pm_aloadn hG dX12_person_128 rfl ?_
                refine pm_iloadi hG dX12_person_129 rfl ?_
                refine pm_iloadi hG dX12_person_131 rfl ?_
                refine pm_iconst (v := nI 0) hG dX12_person_133 (by decide) ?_
                refine pm_callV (As := [.int (nI k23), .int (nI 3), .int (nI 0)]) (rest := []) hG hR dX12_person_134 (lkX12_97 _ rfl) okV_X12_sets rfl rfl (m_sets (d := 2) (e := 14 * k23 + 113) (by omega) (by omega) (by omega)) rfl rfl hdd (Nat.le_refl _) (Nat.le_refl _) (by decide) (pm_kv (fun σ' cnt' hq => ?_))
                obtain ⟨rfl, rfl⟩ := hq
                obtain ⟨n_48, en_48⟩ : ∃ f : Nat → Int32, f = upd n_42 (14 * k23 + 113) (nI 0) := ⟨_, rfl⟩
                rw [← en_48]
                have hnn_48 := KI.w en_48 hnn_42 (okv_o (show kd (14 * k23 + 113) = (2, 20, false) from (kd_P (k := k23) (c := 3) (by omega) (by omega) (by decide))) (by omega))
                have hrn_48 := NRx.w en_48 hrn_42 (by rw [(show kd (14 * k23 + 113) = (2, 20, false) from (kd_P (k := k23) (c := 3) (by omega) (by omega) (by decide)))])
                have e49 : n_48 11 = nI kc11 := by rw [en_48, pk_un (by omega)]; exact e43
                have e50 : n_48 8 = nI k4 := by rw [en_48, pk_un (by omega)]; exact e44
                have e51 : n_48 0 = nI k19 := by rw [en_48, pk_un (by omega)]; exact e45
                have e52 : n_48 2 = nI (k23 + 1) := by rw [en_48, pk_un (by omega)]; exact e46
                have e53 : n_48 (14 * k23 + 113) = nI 0 := by rw [en_48, pk_us]
                refine pm_iincX (v := nI 4) (loc' := [some (.ref (B + 54)), some (.int za), some (.int zb), some (.int zc), some (.int zd), some (.int (nI 1)), some (.int (nI k23)), some (.int (nI 4))]) hG dX12_person_137 rfl (nI_1 _) (by decide) (pm_c1b rfl) rfl ?_
                refine pm_goto (tgt := 121) hG dX12_person_140 rfl ?_
                refine pm_iloadi hG dX12_person_121 rfl ?_
                refine pm_bipush (v := nI 14) hG dX12_person_123 (by decide) ?_
                refine pm_icmpN_ge (tgt := 143) hG dX12_person_125 rfl (by omega) (by omega) (fun q => absurd q (by omega)) (fun _ => ?_)
                refine pm_aloadn hG dX12_person_128 rfl ?_
                refine pm_iloadi hG dX12_person_129 rfl ?_
                refine pm_iloadi hG dX12_person_131 rfl ?_
                refine pm_iconst (v := nI 0) hG dX12_person_133 (by decide) ?_
                refine pm_callV (As := [.int (nI k23), .int (nI 4), .int (nI 0)]) (rest := []) hG hR dX12_person_134 (lkX12_97 _ rfl) okV_X12_sets rfl rfl (m_sets (d := 2) (e := 14 * k23 + 114) (by omega) (by omega) (by omega)) rfl rfl hdd (Nat.le_refl _) (Nat.le_refl _) (by decide) (pm_kv (fun σ' cnt' hq => ?_))
                obtain ⟨rfl, rfl⟩ := hq
                obtain ⟨n_54, en_54⟩ : ∃ f : Nat → Int32, f = upd n_48 (14 * k23 + 114) (nI 0) := ⟨_, rfl⟩
                rw [← en_54]
                have hnn_54 := KI.w en_54 hnn_48 (okv_o (show kd (14 * k23 + 114) = (2, 10, false) from (kd_P (k := k23) (c := 4) (by omega) (by omega) (by decide))) (by omega))
                have hrn_54 := NRx.w en_54 hrn_48 (by rw [(show kd (14 * k23 + 114) = (2, 10, false) from (kd_P (k := k23) (c := 4) (by omega) (by omega) (by decide)))])
                have e55 : n_54 11 = nI kc11 := by rw [en_54, pk_un (by omega)]; exact e49
                have e56 : n_54 8 = nI k4 := by rw [en_54, pk_un (by omega)]; exact e50
                have e57 : n_54 0 = nI k19 := by rw [en_54, pk_un (by omega)]; exact e51
                have e58 : n_54 2 = nI (k23 + 1) := by rw [en_54, pk_un (by omega)]; exact e52
                have e59 : n_54 (14 * k23 + 114) = nI 0 := by rw [en_54, pk_us]
                refine pm_iincX (v := nI 5) (loc' := [some (.ref (B + 54)), some (.int za), some (.int zb), some (.int zc), some (.int zd), some (.int (nI 1)), some (.int (nI k23)), some (.int (nI 5))]) hG dX12_person_137 rfl (nI_1 _) (by decide) (pm_c1b rfl) rfl ?_
                refine pm_goto (tgt := 121) hG dX12_person_140 rfl ?_
                refine pm_iloadi hG dX12_person_121 rfl ?_
                refine pm_bipush (v := nI 14) hG dX12_person_123 (by decide) ?_
                refine pm_icmpN_ge (tgt := 143) hG dX12_person_125 rfl (by omega) (by omega) (fun q => absurd q (by omega)) (fun _ => ?_)
                refine pm_aloadn hG dX12_person_128 rfl ?_
                refine pm_iloadi hG dX12_person_129 rfl ?_
                refine pm_iloadi hG dX12_person_131 rfl ?_
                refine pm_iconst (v := nI 0) hG dX12_person_133 (by decide) ?_
                refine pm_callV (As := [.int (nI k23), .int (nI 5), .int (nI 0)]) (rest := []) hG hR dX12_person_134 (lkX12_97 _ rfl) okV_X12_sets rfl rfl (m_sets (d := 2) (e := 14 * k23 + 115) (by omega) (by omega) (by omega)) rfl rfl hdd (Nat.le_refl _) (Nat.le_refl _) (by decide) (pm_kv (fun σ' cnt' hq => ?_))
                obtain ⟨rfl, rfl⟩ := hq
                obtain ⟨n_60, en_60⟩ : ∃ f : Nat → Int32, f = upd n_54 (14 * k23 + 115) (nI 0) := ⟨_, rfl⟩
                rw [← en_60]
                have hnn_60 := KI.w en_60 hnn_54 (okv_n (show kd (14 * k23 + 115) = (1, 10, false) from (kd_P (k := k23) (c := 5) (by omega) (by omega) (by decide))) (by omega))
                have hrn_60 := NRx.w en_60 hrn_54 (by rw [(show kd (14 * k23 + 115) = (1, 10, false) from (kd_P (k := k23) (c := 5) (by omega) (by omega) (by decide)))])
                have e61 : n_60 11 = nI kc11 := by rw [en_60, pk_un (by omega)]; exact e55
                have e62 : n_60 8 = nI k4 := by rw [en_60, pk_un (by omega)]; exact e56
                have e63 : n_60 0 = nI k19 := by rw [en_60, pk_un (by omega)]; exact e57
                have e64 : n_60 2 = nI (k23 + 1) := by rw [en_60, pk_un (by omega)]; exact e58
                have e65 : n_60 (14 * k23 + 115) = nI 0 := by rw [en_60, pk_us]
                refine pm_iincX (v := nI 6) (loc' := [some (.ref (B + 54)), some (.int za), some (.int zb), some (.int zc), some (.int zd), some (.int (nI 1)), some (.int (nI k23)), some (.int (nI 6))]) hG dX12_person_137 rfl (nI_1 _) (by decide) (pm_c1b rfl) rfl ?_
                refine pm_goto (tgt := 121) hG dX12_person_140 rfl ?_
                refine pm_iloadi hG dX12_person_121 rfl ?_
                refine pm_bipush (v := nI 14) hG dX12_person_123 (by decide) ?_
                refine pm_icmpN_ge (tgt := 143) hG dX12_person_125 rfl (by omega) (by omega) (fun q => absurd q (by omega)) (fun _ => ?_)
                refine pm_aloadn hG dX12_person_128 rfl ?_
                refine pm_iloadi hG dX12_person_129 rfl ?_
                refine pm_iloadi hG dX12_person_131 rfl ?_
                refine pm_iconst (v := nI 0) hG dX12_person_133 (by decide) ?_
                refine pm_callV (As := [.int (nI k23), .int (nI 6), .int (nI 0)]) (rest := []) hG hR dX12_person_134 (lkX12_97 _ rfl) okV_X12_sets rfl rfl (m_sets (d := 2) (e := 14 * k23 + 116) (by omega) (by omega) (by omega)) rfl rfl hdd (Nat.le_refl _) (Nat.le_refl _) (by decide) (pm_kv (fun σ' cnt' hq => ?_))
                obtain ⟨rfl, rfl⟩ := hq
                obtain ⟨n_66, en_66⟩ : ∃ f : Nat → Int32, f = upd n_60 (14 * k23 + 116) (nI 0) := ⟨_, rfl⟩
                rw [← en_66]
                have hnn_66 := KI.w en_66 hnn_60 (okv_f (show kd (14 * k23 + 116) = (0, 0, false) from (kd_P (k := k23) (c := 6) (by omega) (by omega) (by decide))))
                have hrn_66 := NRx.w en_66 hrn_60 (by rw [(show kd (14 * k23 + 116) = (0, 0, false) from (kd_P (k := k23) (c := 6) (by omega) (by omega) (by decide)))])
                have e67 : n_66 11 = nI kc11 := by rw [en_66, pk_un (by omega)]; exact e61
                have e68 : n_66 8 = nI k4 := by rw [en_66, pk_un (by omega)]; exact e62
                have e69 : n_66 0 = nI k19 := by rw [en_66, pk_un (by omega)]; exact e63
                have e70 : n_66 2 = nI (k23 + 1) := by rw [en_66, pk_un (by omega)]; exact e64
                have e71 : n_66 (14 * k23 + 116) = nI 0 := by rw [en_66, pk_us]
                refine pm_iincX (v := nI 7) (loc' := [some (.ref (B + 54)), some (.int za), some (.int zb), some (.int zc), some (.int zd), some (.int (nI 1)), some (.int (nI k23)), some (.int (nI 7))]) hG dX12_person_137 rfl (nI_1 _) (by decide) (pm_c1b rfl) rfl ?_
                refine pm_goto (tgt := 121) hG dX12_person_140 rfl ?_
                refine pm_iloadi hG dX12_person_121 rfl ?_
                refine pm_bipush (v := nI 14) hG dX12_person_123 (by decide) ?_
                refine pm_icmpN_ge (tgt := 143) hG dX12_person_125 rfl (by omega) (by omega) (fun q => absurd q (by omega)) (fun _ => ?_)
                refine pm_aloadn hG dX12_person_128 rfl ?_
                refine pm_iloadi hG dX12_person_129 rfl ?_
                refine pm_iloadi hG dX12_person_131 rfl ?_
                refine pm_iconst (v := nI 0) hG dX12_person_133 (by decide) ?_
                refine pm_callV (As := [.int (nI k23), .int (nI 7), .int (nI 0)]) (rest := []) hG hR dX12_person_134 (lkX12_97 _ rfl) okV_X12_sets rfl rfl (m_sets (d := 2) (e := 14 * k23 + 117) (by omega) (by omega) (by omega)) rfl rfl hdd (Nat.le_refl _) (Nat.le_refl _) (by decide) (pm_kv (fun σ' cnt' hq => ?_))
                obtain ⟨rfl, rfl⟩ := hq
                obtain ⟨n_72, en_72⟩ : ∃ f : Nat → Int32, f = upd n_66 (14 * k23 + 117) (nI 0) := ⟨_, rfl⟩
                rw [← en_72]
                have hnn_72 := KI.w en_72 hnn_66 (okv_f (show kd (14 * k23 + 117) = (0, 0, false) from (kd_P (k := k23) (c := 7) (by omega) (by omega) (by decide))))
                have hrn_72 := NRx.w en_72 hrn_66 (by rw [(show kd (14 * k23 + 117) = (0, 0, false) from (kd_P (k := k23) (c := 7) (by omega) (by omega) (by decide)))])
                have e73 : n_72 11 = nI kc11 := by rw [en_72, pk_un (by omega)]; exact e67
                have e74 : n_72 8 = nI k4 := by rw [en_72, pk_un (by omega)]; exact e68
                have e75 : n_72 0 = nI k19 := by rw [en_72, pk_un (by omega)]; exact e69
                have e76 : n_72 2 = nI (k23 + 1) := by rw [en_72, pk_un (by omega)]; exact e70
                have e77 : n_72 (14 * k23 + 117) = nI 0 := by rw [en_72, pk_us]
                refine pm_iincX (v := nI 8) (loc' := [some (.ref (B + 54)), some (.int za), some (.int zb), some (.int zc), some (.int zd), some (.int (nI 1)), some (.int (nI k23)), some (.int (nI 8))]) hG dX12_person_137 rfl (nI_1 _) (by decide) (pm_c1b rfl) rfl ?_
                refine pm_goto (tgt := 121) hG dX12_person_140 rfl ?_
                refine pm_iloadi hG dX12_person_121 rfl ?_
                refine pm_bipush (v := nI 14) hG dX12_person_123 (by decide) ?_
                refine pm_icmpN_ge (tgt := 143) hG dX12_person_125 rfl (by omega) (by omega) (fun q => absurd q (by omega)) (fun _ => ?_)
                refine pm_aloadn hG dX12_person_128 rfl ?_
                refine pm_iloadi hG dX12_person_129 rfl ?_
                refine pm_iloadi hG dX12_person_131 rfl ?_
                refine pm_iconst (v := nI 0) hG dX12_person_133 (by decide) ?_
                refine pm_callV (As := [.int (nI k23), .int (nI 8), .int (nI 0)]) (rest := []) hG hR dX12_person_134 (lkX12_97 _ rfl) okV_X12_sets rfl rfl (m_sets (d := 2) (e := 14 * k23 + 118) (by omega) (by omega) (by omega)) rfl rfl hdd (Nat.le_refl _) (Nat.le_refl _) (by decide) (pm_kv (fun σ' cnt' hq => ?_))
                obtain ⟨rfl, rfl⟩ := hq
                obtain ⟨n_78, en_78⟩ : ∃ f : Nat → Int32, f = upd n_72 (14 * k23 + 118) (nI 0) := ⟨_, rfl⟩
                rw [← en_78]
                have hnn_78 := KI.w en_78 hnn_72 (okv_f (show kd (14 * k23 + 118) = (0, 0, false) from (kd_P (k := k23) (c := 8) (by omega) (by omega) (by decide))))
                have hrn_78 := NRx.w en_78 hrn_72 (by rw [(show kd (14 * k23 + 118) = (0, 0, false) from (kd_P (k := k23) (c := 8) (by omega) (by omega) (by decide)))])
                have e79 : n_78 11 = nI kc11 := by rw [en_78, pk_un (by omega)]; exact e73
                have e80 : n_78 8 = nI k4 := by rw [en_78, pk_un (by omega)]; exact e74
                have e81 : n_78 0 = nI k19 := by rw [en_78, pk_un (by omega)]; exact e75
                have e82 : n_78 2 = nI (k23 + 1) := by rw [en_78, pk_un (by omega)]; exact e76
                have e83 : n_78 (14 * k23 + 118) = nI 0 := by rw [en_78, pk_us]
                refine pm_iincX (v := nI 9) (loc' := [some (.ref (B + 54)), some (.int za), some (.int zb), some (.int zc), some (.int zd), some (.int (nI 1)), some (.int (nI k23)), some (.int (nI 9))]) hG dX12_person_137 rfl (nI_1 _) (by decide) (pm_c1b rfl) rfl ?_
                refine pm_goto (tgt := 121) hG dX12_person_140 rfl ?_
                refine pm_iloadi hG dX12_person_121 rfl ?_
                refine pm_bipush (v := nI 14) hG dX12_person_123 (by decide) ?_
                refine pm_icmpN_ge (tgt := 143) hG dX12_person_125 rfl (by omega) (by omega) (fun q => absurd q (by omega)) (fun _ => ?_)
                refine pm_aloadn hG dX12_person_128 rfl ?_
                refine pm_iloadi hG dX12_person_129 rfl ?_
                refine pm_iloadi hG dX12_person_131 rfl ?_
                refine pm_iconst (v := nI 0) hG dX12_person_133 (by decide) ?_
                refine pm_callV (As := [.int (nI k23), .int (nI 9), .int (nI 0)]) (rest := []) hG hR dX12_person_134 (lkX12_97 _ rfl) okV_X12_sets rfl rfl (m_sets (d := 2) (e := 14 * k23 + 119) (by omega) (by omega) (by omega)) rfl rfl hdd (Nat.le_refl _) (Nat.le_refl _) (by decide) (pm_kv (fun σ' cnt' hq => ?_))
                obtain ⟨rfl, rfl⟩ := hq
                obtain ⟨n_84, en_84⟩ : ∃ f : Nat → Int32, f = upd n_78 (14 * k23 + 119) (nI 0) := ⟨_, rfl⟩
                rw [← en_84]
                have hnn_84 := KI.w en_84 hnn_78 (okv_o (show kd (14 * k23 + 119) = (2, 2001, false) from (kd_P (k := k23) (c := 9) (by omega) (by omega) (by decide))) (by omega))
                have hrn_84 := NRx.w en_84 hrn_78 (by rw [(show kd (14 * k23 + 119) = (2, 2001, false) from (kd_P (k := k23) (c := 9) (by omega) (by omega) (by decide)))])
                have e85 : n_84 11 = nI kc11 := by rw [en_84, pk_un (by omega)]; exact e79
                have e86 : n_84 8 = nI k4 := by rw [en_84, pk_un (by omega)]; exact e80
                have e87 : n_84 0 = nI k19 := by rw [en_84, pk_un (by omega)]; exact e81
                have e88 : n_84 2 = nI (k23 + 1) := by rw [en_84, pk_un (by omega)]; exact e82
                have e89 : n_84 (14 * k23 + 119) = nI 0 := by rw [en_84, pk_us]
                refine pm_iincX (v := nI 10) (loc' := [some (.ref (B + 54)), some (.int za), some (.int zb), some (.int zc), some (.int zd), some (.int (nI 1)), some (.int (nI k23)), some (.int (nI 10))]) hG dX12_person_137 rfl (nI_1 _) (by decide) (pm_c1b rfl) rfl ?_
                refine pm_goto (tgt := 121) hG dX12_person_140 rfl ?_
                refine pm_iloadi hG dX12_person_121 rfl ?_
                refine pm_bipush (v := nI 14) hG dX12_person_123 (by decide) ?_
                refine pm_icmpN_ge (tgt := 143) hG dX12_person_125 rfl (by omega) (by omega) (fun q => absurd q (by omega)) (fun _ => ?_)
                refine pm_aloadn hG dX12_person_128 rfl ?_
                refine pm_iloadi hG dX12_person_129 rfl ?_
                refine pm_iloadi hG dX12_person_131 rfl ?_
                refine pm_iconst (v := nI 0) hG dX12_person_133 (by decide) ?_
                refine pm_callV (As := [.int (nI k23), .int (nI 10), .int (nI 0)]) (rest := []) hG hR dX12_person_134 (lkX12_97 _ rfl) okV_X12_sets rfl rfl (m_sets (d := 2) (e := 14 * k23 + 120) (by omega) (by omega) (by omega)) rfl rfl hdd (Nat.le_refl _) (Nat.le_refl _) (by decide) (pm_kv (fun σ' cnt' hq => ?_))
                obtain ⟨rfl, rfl⟩ := hq
                obtain ⟨n_90, en_90⟩ : ∃ f : Nat → Int32, f = upd n_84 (14 * k23 + 120) (nI 0) := ⟨_, rfl⟩
                rw [← en_90]
                have hnn_90 := KI.w en_90 hnn_84 (okv_f (show kd (14 * k23 + 120) = (0, 0, false) from (kd_P (k := k23) (c := 10) (by omega) (by omega) (by decide))))
                have hrn_90 := NRx.w en_90 hrn_84 (by rw [(show kd (14 * k23 + 120) = (0, 0, false) from (kd_P (k := k23) (c := 10) (by omega) (by omega) (by decide)))])
                have e91 : n_90 11 = nI kc11 := by rw [en_90, pk_un (by omega)]; exact e85
                have e92 : n_90 8 = nI k4 := by rw [en_90, pk_un (by omega)]; exact e86
                have e93 : n_90 0 = nI k19 := by rw [en_90, pk_un (by omega)]; exact e87
                have e94 : n_90 2 = nI (k23 + 1) := by rw [en_90, pk_un (by omega)]; exact e88
                have e95 : n_90 (14 * k23 + 120) = nI 0 := by rw [en_90, pk_us]
                refine pm_iincX (v := nI 11) (loc' := [some (.ref (B + 54)), some (.int za), some (.int zb), some (.int zc), some (.int zd), some (.int (nI 1)), some (.int (nI k23)), some (.int (nI 11))]) hG dX12_person_137 rfl (nI_1 _) (by decide) (pm_c1b rfl) rfl ?_
                refine pm_goto (tgt := 121) hG dX12_person_140 rfl ?_
                refine pm_iloadi hG dX12_person_121 rfl ?_
                refine pm_bipush (v := nI 14) hG dX12_person_123 (by decide) ?_
                refine pm_icmpN_ge (tgt := 143) hG dX12_person_125 rfl (by omega) (by omega) (fun q => absurd q (by omega)) (fun _ => ?_)
                refine pm_aloadn hG dX12_person_128 rfl ?_
                refine pm_iloadi hG dX12_person_129 rfl ?_
                refine pm_iloadi hG dX12_person_131 rfl ?_
                refine pm_iconst (v := nI 0) hG dX12_person_133 (by decide) ?_
                refine pm_callV (As := [.int (nI k23), .int (nI 11), .int (nI 0)]) (rest := []) hG hR dX12_person_134 (lkX12_97 _ rfl) okV_X12_sets rfl rfl (m_sets (d := 2) (e := 14 * k23 + 121) (by omega) (by omega) (by omega)) rfl rfl hdd (Nat.le_refl _) (Nat.le_refl _) (by decide) (pm_kv (fun σ' cnt' hq => ?_))
                obtain ⟨rfl, rfl⟩ := hq
                obtain ⟨n_96, en_96⟩ : ∃ f : Nat → Int32, f = upd n_90 (14 * k23 + 121) (nI 0) := ⟨_, rfl⟩
                rw [← en_96]
                have hnn_96 := KI.w en_96 hnn_90 (okv_n (show kd (14 * k23 + 121) = (1, 2, true) from (kd_P (k := k23) (c := 11) (by omega) (by omega) (by decide))) (by omega))
                have hrn_96 := NRx.unseat (p := k23) en_96 hrn_90 (by omega)
                have e97 : n_96 11 = nI kc11 := by rw [en_96, pk_un (by omega)]; exact e91
                have e98 : n_96 8 = nI k4 := by rw [en_96, pk_un (by omega)]; exact e92
                have e99 : n_96 0 = nI k19 := by rw [en_96, pk_un (by omega)]; exact e93
                have e100 : n_96 2 = nI (k23 + 1) := by rw [en_96, pk_un (by omega)]; exact e94
                have e101 : n_96 (14 * k23 + 121) = nI 0 := by rw [en_96, pk_us]
                refine pm_iincX (v := nI 12) (loc' := [some (.ref (B + 54)), some (.int za), some (.int zb), some (.int zc), some (.int zd), some (.int (nI 1)), some (.int (nI k23)), some (.int (nI 12))]) hG dX12_person_137 rfl (nI_1 _) (by decide) (pm_c1b rfl) rfl ?_
                refine pm_goto (tgt := 121) hG dX12_person_140 rfl ?_
                refine pm_iloadi hG dX12_person_121 rfl ?_
                refine pm_bipush (v := nI 14) hG dX12_person_123 (by decide) ?_
                refine pm_icmpN_ge (tgt := 143) hG dX12_person_125 rfl (by omega) (by omega) (fun q => absurd q (by omega)) (fun _ => ?_)
                refine pm_aloadn hG dX12_person_128 rfl ?_
                refine pm_iloadi hG dX12_person_129 rfl ?_
                refine pm_iloadi hG dX12_person_131 rfl ?_
                refine pm_iconst (v := nI 0) hG dX12_person_133 (by decide) ?_
                refine pm_callV (As := [.int (nI k23), .int (nI 12), .int (nI 0)]) (rest := []) hG hR dX12_person_134 (lkX12_97 _ rfl) okV_X12_sets rfl rfl (m_sets (d := 2) (e := 14 * k23 + 122) (by omega) (by omega) (by omega)) rfl rfl hdd (Nat.le_refl _) (Nat.le_refl _) (by decide) (pm_kv (fun σ' cnt' hq => ?_))
                obtain ⟨rfl, rfl⟩ := hq
                obtain ⟨n_102, en_102⟩ : ∃ f : Nat → Int32, f = upd n_96 (14 * k23 + 122) (nI 0) := ⟨_, rfl⟩
                rw [← en_102]
                have hnn_102 := KI.w en_102 hnn_96 (okv_f (show kd (14 * k23 + 122) = (0, 0, false) from (kd_P (k := k23) (c := 12) (by omega) (by omega) (by decide))))
                have hrn_102 := NRx.w en_102 hrn_96 (by rw [(show kd (14 * k23 + 122) = (0, 0, false) from (kd_P (k := k23) (c := 12) (by omega) (by omega) (by decide)))])
                have e103 : n_102 11 = nI kc11 := by rw [en_102, pk_un (by omega)]; exact e97
                have e104 : n_102 8 = nI k4 := by rw [en_102, pk_un (by omega)]; exact e98
                have e105 : n_102 0 = nI k19 := by rw [en_102, pk_un (by omega)]; exact e99
                have e106 : n_102 2 = nI (k23 + 1) := by rw [en_102, pk_un (by omega)]; exact e100
                have e107 : n_102 (14 * k23 + 122) = nI 0 := by rw [en_102, pk_us]
                refine pm_iincX (v := nI 13) (loc' := [some (.ref (B + 54)), some (.int za), some (.int zb), some (.int zc), some (.int zd), some (.int (nI 1)), some (.int (nI k23)), some (.int (nI 13))]) hG dX12_person_137 rfl (nI_1 _) (by decide) (pm_c1b rfl) rfl ?_
                refine pm_goto (tgt := 121) hG dX12_person_140 rfl ?_
                refine pm_iloadi hG dX12_person_121 rfl ?_
                refine pm_bipush (v := nI 14) hG dX12_person_123 (by decide) ?_
                refine pm_icmpN_ge (tgt := 143) hG dX12_person_125 rfl (by omega) (by omega) (fun q => absurd q (by omega)) (fun _ => ?_)
                refine pm_aloadn hG dX12_person_128 rfl ?_
                refine pm_iloadi hG dX12_person_129 rfl ?_
                refine pm_iloadi hG dX12_person_131 rfl ?_
                refine pm_iconst (v := nI 0) hG dX12_person_133 (by decide) ?_
                refine pm_callV (As := [.int (nI k23), .int (nI 13), .int (nI 0)]) (rest := []) hG hR dX12_person_134 (lkX12_97 _ rfl) okV_X12_sets rfl rfl (m_sets (d := 2) (e := 14 * k23 + 123) (by omega) (by omega) (by omega)) rfl rfl hdd (Nat.le_refl _) (Nat.le_refl _) (by decide) (pm_kv (fun σ' cnt' hq => ?_))
                obtain ⟨rfl, rfl⟩ := hq
                obtain ⟨n_108, en_108⟩ : ∃ f : Nat → Int32, f = upd n_102 (14 * k23 + 123) (nI 0) := ⟨_, rfl⟩
                rw [← en_108]
                have hnn_108 := KI.w en_108 hnn_102 (okv_f (show kd (14 * k23 + 123) = (0, 0, false) from (kd_P (k := k23) (c := 13) (by omega) (by omega) (by decide))))
                have hrn_108 := NRx.w en_108 hrn_102 (by rw [(show kd (14 * k23 + 123) = (0, 0, false) from (kd_P (k := k23) (c := 13) (by omega) (by omega) (by decide)))])
                have e109 : n_108 11 = nI kc11 := by rw [en_108, pk_un (by omega)]; exact e103
                have e110 : n_108 8 = nI k4 := by rw [en_108, pk_un (by omega)]; exact e104
                have e111 : n_108 0 = nI k19 := by rw [en_108, pk_un (by omega)]; exact e105
                have e112 : n_108 2 = nI (k23 + 1) := by rw [en_108, pk_un (by omega)]; exact e106
                have e113 : n_108 (14 * k23 + 123) = nI 0 := by rw [en_108, pk_us]
                refine pm_iincX (v := nI 14) (loc' := [some (.ref (B + 54)), some (.int za), some (.int zb), some (.int zc), some (.int zd), some (.int (nI 1)), some (.int (nI k23)), some (.int (nI 14))]) hG dX12_person_137 rfl (nI_1 _) (by decide) (pm_c1b rfl) rfl ?_
                refine pm_goto (tgt := 121) hG dX12_person_140 rfl ?_
                refine pm_iloadi hG dX12_person_121 rfl ?_
                refine pm_bipush (v := nI 14) hG dX12_person_123 (by decide) ?_
                refine pm_icmpN_ge (tgt := 143) hG dX12_person_125 rfl (by omega) (by omega) (fun _ => ?_) (fun q => absurd q (by omega))
                refine pm_aloadn hG dX12_person_143 rfl ?_
                refine pm_iloadi hG dX12_person_144 rfl ?_
                refine pm_iconst (v := nI 0) hG dX12_person_146 (by decide) ?_
                refine pm_iloadn hG dX12_person_147 rfl ?_
                refine pm_top (v := nI k3) ek3 ?_
                refine pm_callV (As := [.int (nI k23), .int (nI 0), .int (nI k3)]) (rest := []) hG hR dX12_person_148 (lkX12_97 _ rfl) okV_X12_sets rfl rfl (m_sets (d := 2) (e := 14 * k23 + 110) (by omega) (by omega) (by omega)) rfl rfl hdd (Nat.le_refl _) (Nat.le_refl _) (by decide) (pm_kv (fun σ' cnt' hq => ?_))
                obtain ⟨rfl, rfl⟩ := hq
                obtain ⟨n_114, en_114⟩ : ∃ f : Nat → Int32, f = upd n_108 (14 * k23 + 110) (nI k3) := ⟨_, rfl⟩
                rw [← en_114]
                have hnn_114 := KI.w en_114 hnn_108 (okv_f (show kd (14 * k23 + 110) = (0, 0, false) from (kd_P (k := k23) (c := 0) (by omega) (by omega) (by decide))))
                have hrn_114 := NRx.w en_114 hrn_108 (by rw [(show kd (14 * k23 + 110) = (0, 0, false) from (kd_P (k := k23) (c := 0) (by omega) (by omega) (by decide)))])
                have e115 : n_114 11 = nI kc11 := by rw [en_114, pk_un (by omega)]; exact e109
                have e116 : n_114 8 = nI k4 := by rw [en_114, pk_un (by omega)]; exact e110
                have e117 : n_114 0 = nI k19 := by rw [en_114, pk_un (by omega)]; exact e111
                have e118 : n_114 2 = nI (k23 + 1) := by rw [en_114, pk_un (by omega)]; exact e112
                have e119 : n_114 (14 * k23 + 110) = nI k3 := by rw [en_114, pk_us]
                refine pm_aloadn hG dX12_person_151 rfl ?_
                refine pm_iloadi hG dX12_person_152 rfl ?_
                refine pm_iconst (v := nI 1) hG dX12_person_154 (by decide) ?_
                refine pm_iloadn hG dX12_person_155 rfl ?_
                refine pm_callV (As := [.int (nI k23), .int (nI 1), .int zb]) (rest := []) hG hR dX12_person_156 (lkX12_97 _ rfl) okV_X12_sets rfl rfl (m_sets (d := 2) (e := 14 * k23 + 111) (by omega) (by omega) (by omega)) rfl rfl hdd (Nat.le_refl _) (Nat.le_refl _) (by decide) (pm_kv (fun σ' cnt' hq => ?_))
                obtain ⟨rfl, rfl⟩ := hq
                obtain ⟨n_120, en_120⟩ : ∃ f : Nat → Int32, f = upd n_114 (14 * k23 + 111) zb := ⟨_, rfl⟩
                rw [← en_120]
                have hnn_120 := KI.w en_120 hnn_114 (okv_f (show kd (14 * k23 + 111) = (0, 0, false) from (kd_P (k := k23) (c := 1) (by omega) (by omega) (by decide))))
                have hrn_120 := NRx.w en_120 hrn_114 (by rw [(show kd (14 * k23 + 111) = (0, 0, false) from (kd_P (k := k23) (c := 1) (by omega) (by omega) (by decide)))])
                have e121 : n_120 11 = nI kc11 := by rw [en_120, pk_un (by omega)]; exact e115
                have e122 : n_120 8 = nI k4 := by rw [en_120, pk_un (by omega)]; exact e116
                have e123 : n_120 0 = nI k19 := by rw [en_120, pk_un (by omega)]; exact e117
                have e124 : n_120 2 = nI (k23 + 1) := by rw [en_120, pk_un (by omega)]; exact e118
                have e125 : n_120 (14 * k23 + 111) = zb := by rw [en_120, pk_us]
                refine pm_aloadn hG dX12_person_159 rfl ?_
                refine pm_iloadi hG dX12_person_160 rfl ?_
                refine pm_iconst (v := nI 2) hG dX12_person_162 (by decide) ?_
                refine pm_iloadn hG dX12_person_163 rfl ?_
                refine pm_top (v := nI k10) ek10 ?_
                refine pm_bipush (v := nI 100) hG dX12_person_164 (by decide) ?_
                refine pm_idivN hG dX12_person_166 (by omega) (by decide) (by decide) ?_
                refine pm_iconst (v := nI 1) hG dX12_person_167 (by decide) ?_
                refine pm_isub hG dX12_person_168 ?_
                refine pm_top (v := (-1)) ek12 ?_
                refine pm_callV (As := [.int (nI k23), .int (nI 2), .int (-1)]) (rest := []) hG hR dX12_person_169 (lkX12_97 _ rfl) okV_X12_sets rfl rfl (m_sets (d := 2) (e := 14 * k23 + 112) (by omega) (by omega) (by omega)) rfl rfl hdd (Nat.le_refl _) (Nat.le_refl _) (by decide) (pm_kv (fun σ' cnt' hq => ?_))
                obtain ⟨rfl, rfl⟩ := hq
                obtain ⟨n_126, en_126⟩ : ∃ f : Nat → Int32, f = upd n_120 (14 * k23 + 112) (-1) := ⟨_, rfl⟩
                rw [← en_126]
                have hnn_126 := KI.w en_126 hnn_120 (okv_m (show kd (14 * k23 + 112) = (2, 20, false) from (kd_P (k := k23) (c := 2) (by omega) (by omega) (by decide))))
                have hrn_126 := NRx.w en_126 hrn_120 (by rw [(show kd (14 * k23 + 112) = (2, 20, false) from (kd_P (k := k23) (c := 2) (by omega) (by omega) (by decide)))])
                have e127 : n_126 11 = nI kc11 := by rw [en_126, pk_un (by omega)]; exact e121
                have e128 : n_126 8 = nI k4 := by rw [en_126, pk_un (by omega)]; exact e122
                have e129 : n_126 0 = nI k19 := by rw [en_126, pk_un (by omega)]; exact e123
                have e130 : n_126 2 = nI (k23 + 1) := by rw [en_126, pk_un (by omega)]; exact e124
                have e131 : n_126 (14 * k23 + 112) = (-1) := by rw [en_126, pk_us]
                refine pm_aloadn hG dX12_person_172 rfl ?_
                refine pm_iloadi hG dX12_person_173 rfl ?_
                refine pm_iconst (v := nI 3) hG dX12_person_175 (by decide) ?_
                refine pm_iloadn hG dX12_person_176 rfl ?_
                refine pm_top (v := nI k10) ek10 ?_
                refine pm_bipush (v := nI 100) hG dX12_person_177 (by decide) ?_
                refine pm_iremM hG dX12_person_179 (by omega) (by decide) (by decide) ?_
                refine pm_iconst (v := nI 1) hG dX12_person_180 (by decide) ?_
                refine pm_isub hG dX12_person_181 ?_
                refine pm_top (v := (-1)) ek16 ?_
                refine pm_callV (As := [.int (nI k23), .int (nI 3), .int (-1)]) (rest := []) hG hR dX12_person_182 (lkX12_97 _ rfl) okV_X12_sets rfl rfl (m_sets (d := 2) (e := 14 * k23 + 113) (by omega) (by omega) (by omega)) rfl rfl hdd (Nat.le_refl _) (Nat.le_refl _) (by decide) (pm_kv (fun σ' cnt' hq => ?_))
                obtain ⟨rfl, rfl⟩ := hq
                obtain ⟨n_132, en_132⟩ : ∃ f : Nat → Int32, f = upd n_126 (14 * k23 + 113) (-1) := ⟨_, rfl⟩
                rw [← en_132]
                have hnn_132 := KI.w en_132 hnn_126 (okv_m (show kd (14 * k23 + 113) = (2, 20, false) from (kd_P (k := k23) (c := 3) (by omega) (by omega) (by decide))))
                have hrn_132 := NRx.w en_132 hrn_126 (by rw [(show kd (14 * k23 + 113) = (2, 20, false) from (kd_P (k := k23) (c := 3) (by omega) (by omega) (by decide)))])
                have e133 : n_132 11 = nI kc11 := by rw [en_132, pk_un (by omega)]; exact e127
                have e134 : n_132 8 = nI k4 := by rw [en_132, pk_un (by omega)]; exact e128
                have e135 : n_132 0 = nI k19 := by rw [en_132, pk_un (by omega)]; exact e129
                have e136 : n_132 2 = nI (k23 + 1) := by rw [en_132, pk_un (by omega)]; exact e130
                have e137 : n_132 (14 * k23 + 113) = (-1) := by rw [en_132, pk_us]
                refine pm_aloadn hG dX12_person_185 rfl ?_
                refine pm_iloadi hG dX12_person_186 rfl ?_
                refine pm_iconst (v := nI 4) hG dX12_person_188 (by decide) ?_
                refine pm_iloadi hG dX12_person_189 rfl ?_
                refine pm_top (v := nI k22) ek22 ?_
                refine pm_callV (As := [.int (nI k23), .int (nI 4), .int (nI k22)]) (rest := []) hG hR dX12_person_191 (lkX12_97 _ rfl) okV_X12_sets rfl rfl (m_sets (d := 2) (e := 14 * k23 + 114) (by omega) (by omega) (by omega)) rfl rfl hdd (Nat.le_refl _) (Nat.le_refl _) (by decide) (pm_kv (fun σ' cnt' hq => ?_))
                obtain ⟨rfl, rfl⟩ := hq
                obtain ⟨n_138, en_138⟩ : ∃ f : Nat → Int32, f = upd n_132 (14 * k23 + 114) (nI k22) := ⟨_, rfl⟩
                rw [← en_138]
                have hnn_138 := KI.w en_138 hnn_132 (okv_o (show kd (14 * k23 + 114) = (2, 10, false) from (kd_P (k := k23) (c := 4) (by omega) (by omega) (by decide))) (by omega))
                have hrn_138 := NRx.w en_138 hrn_132 (by rw [(show kd (14 * k23 + 114) = (2, 10, false) from (kd_P (k := k23) (c := 4) (by omega) (by omega) (by decide)))])
                have e139 : n_138 11 = nI kc11 := by rw [en_138, pk_un (by omega)]; exact e133
                have e140 : n_138 8 = nI k4 := by rw [en_138, pk_un (by omega)]; exact e134
                have e141 : n_138 0 = nI k19 := by rw [en_138, pk_un (by omega)]; exact e135
                have e142 : n_138 2 = nI (k23 + 1) := by rw [en_138, pk_un (by omega)]; exact e136
                have e143 : n_138 (14 * k23 + 114) = nI k22 := by rw [en_138, pk_us]
                refine pm_aloadn hG dX12_person_194 rfl ?_
                refine pm_iloadi hG dX12_person_195 rfl ?_
                refine pm_bipush (v := nI 9) hG dX12_person_197 (by decide) ?_
                refine pm_iconst (v := (-1)) hG dX12_person_199 (by decide) ?_
                refine pm_callV (As := [.int (nI k23), .int (nI 9), .int (-1)]) (rest := []) hG hR dX12_person_200 (lkX12_97 _ rfl) okV_X12_sets rfl rfl (m_sets (d := 2) (e := 14 * k23 + 119) (by omega) (by omega) (by omega)) rfl rfl hdd (Nat.le_refl _) (Nat.le_refl _) (by decide) (pm_kv (fun σ' cnt' hq => ?_))
                obtain ⟨rfl, rfl⟩ := hq
                obtain ⟨n_144, en_144⟩ : ∃ f : Nat → Int32, f = upd n_138 (14 * k23 + 119) (-1) := ⟨_, rfl⟩
                rw [← en_144]
                have hnn_144 := KI.w en_144 hnn_138 (okv_m (show kd (14 * k23 + 119) = (2, 2001, false) from (kd_P (k := k23) (c := 9) (by omega) (by omega) (by decide))))
                have hrn_144 := NRx.w en_144 hrn_138 (by rw [(show kd (14 * k23 + 119) = (2, 2001, false) from (kd_P (k := k23) (c := 9) (by omega) (by omega) (by decide)))])
                have e145 : n_144 11 = nI kc11 := by rw [en_144, pk_un (by omega)]; exact e139
                have e146 : n_144 8 = nI k4 := by rw [en_144, pk_un (by omega)]; exact e140
                have e147 : n_144 0 = nI k19 := by rw [en_144, pk_un (by omega)]; exact e141
                have e148 : n_144 2 = nI (k23 + 1) := by rw [en_144, pk_un (by omega)]; exact e142
                have e149 : n_144 (14 * k23 + 119) = (-1) := by rw [en_144, pk_us]
                refine pm_aloadn hG dX12_person_203 rfl ?_
                refine pm_iloadi hG dX12_person_204 rfl ?_
                refine pm_bipush (v := nI 10) hG dX12_person_206 (by decide) ?_
                refine pm_iconst (v := (-1)) hG dX12_person_208 (by decide) ?_
                refine pm_callV (As := [.int (nI k23), .int (nI 10), .int (-1)]) (rest := []) hG hR dX12_person_209 (lkX12_97 _ rfl) okV_X12_sets rfl rfl (m_sets (d := 2) (e := 14 * k23 + 120) (by omega) (by omega) (by omega)) rfl rfl hdd (Nat.le_refl _) (Nat.le_refl _) (by decide) (pm_kv (fun σ' cnt' hq => ?_))
                obtain ⟨rfl, rfl⟩ := hq
                obtain ⟨n_150, en_150⟩ : ∃ f : Nat → Int32, f = upd n_144 (14 * k23 + 120) (-1) := ⟨_, rfl⟩
                rw [← en_150]
                have hnn_150 := KI.w en_150 hnn_144 (okv_f (show kd (14 * k23 + 120) = (0, 0, false) from (kd_P (k := k23) (c := 10) (by omega) (by omega) (by decide))))
                have hrn_150 := NRx.w en_150 hrn_144 (by rw [(show kd (14 * k23 + 120) = (0, 0, false) from (kd_P (k := k23) (c := 10) (by omega) (by omega) (by decide)))])
                have e151 : n_150 11 = nI kc11 := by rw [en_150, pk_un (by omega)]; exact e145
                have e152 : n_150 8 = nI k4 := by rw [en_150, pk_un (by omega)]; exact e146
                have e153 : n_150 0 = nI k19 := by rw [en_150, pk_un (by omega)]; exact e147
                have e154 : n_150 2 = nI (k23 + 1) := by rw [en_150, pk_un (by omega)]; exact e148
                have e155 : n_150 (14 * k23 + 120) = (-1) := by rw [en_150, pk_us]
                refine pm_aloadn hG dX12_person_212 rfl ?_
                refine pm_iloadi hG dX12_person_213 rfl ?_
                refine pm_bipush (v := nI 12) hG dX12_person_215 (by decide) ?_
                refine pm_iconst (v := nI 1) hG dX12_person_217 (by decide) ?_
                refine pm_callV (As := [.int (nI k23), .int (nI 12), .int (nI 1)]) (rest := []) hG hR dX12_person_218 (lkX12_97 _ rfl) okV_X12_sets rfl rfl (m_sets (d := 2) (e := 14 * k23 + 122) (by omega) (by omega) (by omega)) rfl rfl hdd (Nat.le_refl _) (Nat.le_refl _) (by decide) (pm_kv (fun σ' cnt' hq => ?_))
                obtain ⟨rfl, rfl⟩ := hq
                obtain ⟨n_156, en_156⟩ : ∃ f : Nat → Int32, f = upd n_150 (14 * k23 + 122) (nI 1) := ⟨_, rfl⟩
                rw [← en_156]
                have hnn_156 := KI.w en_156 hnn_150 (okv_f (show kd (14 * k23 + 122) = (0, 0, false) from (kd_P (k := k23) (c := 12) (by omega) (by omega) (by decide))))
                have hrn_156 := NRx.w en_156 hrn_150 (by rw [(show kd (14 * k23 + 122) = (0, 0, false) from (kd_P (k := k23) (c := 12) (by omega) (by omega) (by decide)))])
                have e157 : n_156 11 = nI kc11 := by rw [en_156, pk_un (by omega)]; exact e151
                have e158 : n_156 8 = nI k4 := by rw [en_156, pk_un (by omega)]; exact e152
                have e159 : n_156 0 = nI k19 := by rw [en_156, pk_un (by omega)]; exact e153
                have e160 : n_156 2 = nI (k23 + 1) := by rw [en_156, pk_un (by omega)]; exact e154
                have e161 : n_156 (14 * k23 + 122) = nI 1 := by rw [en_156, pk_us]
                refine pm_iloadi hG dX12_person_221 rfl ?_
                exact pm_iret hG hF dX12_person_223 rfl (Nat.le_refl _) (Nat.le_refl _) ⟨_, rfl, ⟨_, _, _, rfl, hnn_156, hrn_156, e157.trans ekc11.symm⟩, rfl⟩
              · refine pm_aloadn hG dX12_person_102 rfl ?_
                refine pm_iconst (v := nI 4) hG dX12_person_103 (by decide) ?_
                refine pm_callV (As := [.int (nI 4)]) (rest := []) hG hR dX12_person_104 (lkX12_80 _ rfl) okV_X12_finds rfl rfl (m_finds (d := 2) (by decide) hn hz (by omega)) rfl rfl hdd (Nat.le_refl _) (Nat.le_refl _) (by decide) (pm_ki (fun v162 σ' cnt' hq => ?_))
                obtain ⟨⟨I163, A163, rfl⟩, rfl, fv162⟩ := hq
                exact pm_iret hG hF dX12_person_107 rfl (Nat.le_refl _) (Nat.le_refl _) ⟨_, rfl, ⟨_, _, _, rfl, hn, hr, ekc11.trans ekc11.symm⟩, rfl⟩
            · refine pm_ifN_eq (tgt := 73) hG dX12_person_66 rfl (by omega) (fun _ => ?_) (fun q => absurd q (by omega))
              refine pm_iconst (v := nI 0) hG dX12_person_73 (by decide) ?_
              refine pm_istoreXi (loc' := [some (.ref (B + 54)), some (.int za), some (.int zb), some (.int zc), some (.int zd), some (.int (nI 0)), none, none]) hG dX12_person_74 (by decide) (pm_c1b rfl) rfl ?_
              refine pm_iloadi hG dX12_person_76 rfl ?_
              refine pm_ifN_ne (tgt := 87) hG dX12_person_78 rfl (by omega) (fun q => absurd q (by omega)) (fun _ => ?_)
              refine pm_aloadn hG dX12_person_81 rfl ?_
              refine pm_iconst (v := nI 1) hG dX12_person_82 (by decide) ?_
              refine pm_callV (As := [.int (nI 1)]) (rest := []) hG hR dX12_person_83 (lkX12_80 _ rfl) okV_X12_finds rfl rfl (m_finds (d := 2) (by decide) hn hz (by omega)) rfl rfl hdd (Nat.le_refl _) (Nat.le_refl _) (by decide) (pm_ki (fun v164 σ' cnt' hq => ?_))
              obtain ⟨⟨I165, A165, rfl⟩, rfl, fv164⟩ := hq
              exact pm_iret hG hF dX12_person_86 rfl (Nat.le_refl _) (Nat.le_refl _) ⟨_, rfl, ⟨_, _, _, rfl, hn, hr, ekc11.trans ekc11.symm⟩, rfl⟩
          · refine pm_ifN_eq (tgt := 73) hG dX12_person_57 rfl (by omega) (fun q => absurd q (by omega)) (fun _ => ?_)
            refine pm_aloadn hG dX12_person_60 rfl ?_
            refine pm_iloadi hG dX12_person_61 rfl ?_
            obtain ⟨k166, hk166, ek166⟩ := KI.nat hn (show kd 0 = (1, 11, true) by decide)
            refine pm_callV (As := [.int zd]) (rest := []) hG hR dX12_person_63 (lkX12_84 _ rfl) okV_X12_isTown rfl rfl (m_isTown (d := 2) (by decide) ek166 (by omega)) rfl rfl hdd (Nat.le_refl _) (Nat.le_refl _) (by decide) (pm_ki (fun v167 σ' cnt' hq => ?_))
            obtain ⟨hq, rfl, rfl⟩ := hq
            rcases hq with ⟨rfl, k169, hk169, ek169⟩ | rfl
            · refine pm_ifN_eq (tgt := 73) hG dX12_person_66 rfl (by omega) (fun q => absurd q (by omega)) (fun _ => ?_)
              refine pm_iconst (v := nI 1) hG dX12_person_69 (by decide) ?_
              refine pm_goto (tgt := 74) hG dX12_person_70 rfl ?_
              refine pm_istoreXi (loc' := [some (.ref (B + 54)), some (.int za), some (.int zb), some (.int zc), some (.int zd), some (.int (nI 1)), none, none]) hG dX12_person_74 (by decide) (pm_c1b rfl) rfl ?_
              refine pm_iloadi hG dX12_person_76 rfl ?_
              refine pm_ifN_ne (tgt := 87) hG dX12_person_78 rfl (by omega) (fun _ => ?_) (fun q => absurd q (by omega))
              refine pm_aloadn hG dX12_person_87 rfl ?_
              refine pm_getf hG dX12_person_88 (flX12_7 _ rfl) rfl rfl ?_
              refine pm_iconst (v := nI 2) hG dX12_person_91 (by decide) ?_
              refine pm_ialdN hG dX12_person_92 rfl (by decide) (by omega) ?_
              obtain ⟨k170, hk170, ek170⟩ := KI.nat hn (show kd 2 = (1, 21, true) by decide)
              refine pm_top (v := nI k170) ek170 ?_
              refine pm_istoreXi (loc' := [some (.ref (B + 54)), some (.int za), some (.int zb), some (.int zc), some (.int zd), some (.int (nI 1)), some (.int (nI k170)), none]) hG dX12_person_93 (by decide) (pm_c1b rfl) rfl ?_
              refine pm_iloadi hG dX12_person_95 rfl ?_
              refine pm_bipush (v := nI 20) hG dX12_person_97 (by decide) ?_
              refine pm_icmpN_ne (tgt := 108) hG dX12_person_99 rfl (by omega) (by omega) (fun c171 => ?_) (fun c171 => ?_)
              · refine pm_aloadn hG dX12_person_108 rfl ?_
                refine pm_getf hG dX12_person_109 (flX12_7 _ rfl) rfl rfl ?_
                refine pm_iconst (v := nI 2) hG dX12_person_112 (by decide) ?_
                refine pm_dup2 hG dX12_person_113 rfl rfl ?_
                refine pm_ialdN hG dX12_person_114 rfl (by decide) (by omega) ?_
                refine pm_top (v := nI k170) ek170 ?_
                refine pm_iconst (v := nI 1) hG dX12_person_115 (by decide) ?_
                refine pm_iaddN (c := k170 + 1) hG dX12_person_116 (by omega) ?_
                refine pm_iastN hG dX12_person_117 rfl (by decide) (by omega) ?_
                refine mdn_now (fun n_172 en_172 => ?_)
                have hnn_172 := KI.w en_172 hn (okv_n (show kd 2 = (1, 21, true) by decide) (by omega))
                have hrn_172 := NRx.pers en_172 hr ek166 (by omega) ek170 (by omega)
                have e173 : n_172 11 = nI kc11 := by rw [en_172, pk_un (by omega)]; exact ekc11
                have e174 : n_172 8 = nI k4 := by rw [en_172, pk_un (by omega)]; exact ek4
                have e175 : n_172 0 = nI k166 := by rw [en_172, pk_un (by omega)]; exact ek166
                have e176 : n_172 2 = nI (k170 + 1) := by rw [en_172, pk_us]
                refine pm_iconst (v := nI 0) hG dX12_person_118 (by decide) ?_
                refine pm_istoreXi (loc' := [some (.ref (B + 54)), some (.int za), some (.int zb), some (.int zc), some (.int zd), some (.int (nI 1)), some (.int (nI k170)), some (.int (nI 0))]) hG dX12_person_119 (by decide) (pm_c1b rfl) rfl ?_
                refine pm_iloadi hG dX12_person_121 rfl ?_
                refine pm_bipush (v := nI 14) hG dX12_person_123 (by decide) ?_
                refine pm_icmpN_ge (tgt := 143) hG dX12_person_125 rfl (by omega) (by omega) (fun q => absurd q (by omega)) (fun _ => ?_)
                refine pm_aloadn hG dX12_person_128 rfl ?_
                refine pm_iloadi hG dX12_person_129 rfl ?_
                refine pm_iloadi hG dX12_person_131 rfl ?_
                refine pm_iconst (v := nI 0) hG dX12_person_133 (by decide) ?_
                refine pm_callV (As := [.int (nI k170), .int (nI 0), .int (nI 0)]) (rest := []) hG hR dX12_person_134 (lkX12_97 _ rfl) okV_X12_sets rfl rfl (m_sets (d := 2) (e := 14 * k170 + 110) (by omega) (by omega) (by omega)) rfl rfl hdd (Nat.le_refl _) (Nat.le_refl _) (by decide) (pm_kv (fun σ' cnt' hq => ?_))
                obtain ⟨rfl, rfl⟩ := hq
                obtain ⟨n_177, en_177⟩ : ∃ f : Nat → Int32, f = upd n_172 (14 * k170 + 110) (nI 0) := ⟨_, rfl⟩
                rw [← en_177]
                have hnn_177 := KI.w en_177 hnn_172 (okv_f (show kd (14 * k170 + 110) = (0, 0, false) from (kd_P (k := k170) (c := 0) (by omega) (by omega) (by decide))))
                have hrn_177 := NRx.w en_177 hrn_172 (by rw [(show kd (14 * k170 + 110) = (0, 0, false) from (kd_P (k := k170) (c := 0) (by omega) (by omega) (by decide)))])
                have e178 : n_177 11 = nI kc11 := by rw [en_177, pk_un (by omega)]; exact e173
                have e179 : n_177 8 = nI k4 := by rw [en_177, pk_un (by omega)]; exact e174
                have e180 : n_177 0 = nI k166 := by rw [en_177, pk_un (by omega)]; exact e175
                have e181 : n_177 2 = nI (k170 + 1) := by rw [en_177, pk_un (by omega)]; exact e176
                have e182 : n_177 (14 * k170 + 110) = nI 0 := by rw [en_177, pk_us]
                refine pm_iincX (v := nI 1) (loc' := [some (.ref (B + 54)), some (.int za), some (.int zb), some (.int zc), some (.int zd), some (.int (nI 1)), some (.int (nI k170)), some (.int (nI 1))]) hG dX12_person_137 rfl (nI_1 _) (by decide) (pm_c1b rfl) rfl ?_
                refine pm_goto (tgt := 121) hG dX12_person_140 rfl ?_
                refine pm_iloadi hG dX12_person_121 rfl ?_
                refine pm_bipush (v := nI 14) hG dX12_person_123 (by decide) ?_
                refine pm_icmpN_ge (tgt := 143) hG dX12_person_125 rfl (by omega) (by omega) (fun q => absurd q (by omega)) (fun _ => ?_)
                refine pm_aloadn hG dX12_person_128 rfl ?_
                refine pm_iloadi hG dX12_person_129 rfl ?_
                refine pm_iloadi hG dX12_person_131 rfl ?_
                refine pm_iconst (v := nI 0) hG dX12_person_133 (by decide) ?_
                refine pm_callV (As := [.int (nI k170), .int (nI 1), .int (nI 0)]) (rest := []) hG hR dX12_person_134 (lkX12_97 _ rfl) okV_X12_sets rfl rfl (m_sets (d := 2) (e := 14 * k170 + 111) (by omega) (by omega) (by omega)) rfl rfl hdd (Nat.le_refl _) (Nat.le_refl _) (by decide) (pm_kv (fun σ' cnt' hq => ?_))
                obtain ⟨rfl, rfl⟩ := hq
                obtain ⟨n_183, en_183⟩ : ∃ f : Nat → Int32, f = upd n_177 (14 * k170 + 111) (nI 0) := ⟨_, rfl⟩
                rw [← en_183]
                have hnn_183 := KI.w en_183 hnn_177 (okv_f (show kd (14 * k170 + 111) = (0, 0, false) from (kd_P (k := k170) (c := 1) (by omega) (by omega) (by decide))))
                have hrn_183 := NRx.w en_183 hrn_177 (by rw [(show kd (14 * k170 + 111) = (0, 0, false) from (kd_P (k := k170) (c := 1) (by omega) (by omega) (by decide)))])
                have e184 : n_183 11 = nI kc11 := by rw [en_183, pk_un (by omega)]; exact e178
                have e185 : n_183 8 = nI k4 := by rw [en_183, pk_un (by omega)]; exact e179
                have e186 : n_183 0 = nI k166 := by rw [en_183, pk_un (by omega)]; exact e180
                have e187 : n_183 2 = nI (k170 + 1) := by rw [en_183, pk_un (by omega)]; exact e181
                have e188 : n_183 (14 * k170 + 111) = nI 0 := by rw [en_183, pk_us]
                refine pm_iincX (v := nI 2) (loc' := [some (.ref (B + 54)), some (.int za), some (.int zb), some (.int zc), some (.int zd), some (.int (nI 1)), some (.int (nI k170)), some (.int (nI 2))]) hG dX12_person_137 rfl (nI_1 _) (by decide) (pm_c1b rfl) rfl ?_
                refine pm_goto (tgt := 121) hG dX12_person_140 rfl ?_
                refine pm_iloadi hG dX12_person_121 rfl ?_
                refine pm_bipush (v := nI 14) hG dX12_person_123 (by decide) ?_
                refine pm_icmpN_ge (tgt := 143) hG dX12_person_125 rfl (by omega) (by omega) (fun q => absurd q (by omega)) (fun _ => ?_)
                refine pm_aloadn hG dX12_person_128 rfl ?_
                refine pm_iloadi hG dX12_person_129 rfl ?_
                refine pm_iloadi hG dX12_person_131 rfl ?_
                refine pm_iconst (v := nI 0) hG dX12_person_133 (by decide) ?_
                refine pm_callV (As := [.int (nI k170), .int (nI 2), .int (nI 0)]) (rest := []) hG hR dX12_person_134 (lkX12_97 _ rfl) okV_X12_sets rfl rfl (m_sets (d := 2) (e := 14 * k170 + 112) (by omega) (by omega) (by omega)) rfl rfl hdd (Nat.le_refl _) (Nat.le_refl _) (by decide) (pm_kv (fun σ' cnt' hq => ?_))
                obtain ⟨rfl, rfl⟩ := hq
                obtain ⟨n_189, en_189⟩ : ∃ f : Nat → Int32, f = upd n_183 (14 * k170 + 112) (nI 0) := ⟨_, rfl⟩
                rw [← en_189]
                have hnn_189 := KI.w en_189 hnn_183 (okv_o (show kd (14 * k170 + 112) = (2, 20, false) from (kd_P (k := k170) (c := 2) (by omega) (by omega) (by decide))) (by omega))
                have hrn_189 := NRx.w en_189 hrn_183 (by rw [(show kd (14 * k170 + 112) = (2, 20, false) from (kd_P (k := k170) (c := 2) (by omega) (by omega) (by decide)))])
                have e190 : n_189 11 = nI kc11 := by rw [en_189, pk_un (by omega)]; exact e184
                have e191 : n_189 8 = nI k4 := by rw [en_189, pk_un (by omega)]; exact e185
                have e192 : n_189 0 = nI k166 := by rw [en_189, pk_un (by omega)]; exact e186
                have e193 : n_189 2 = nI (k170 + 1) := by rw [en_189, pk_un (by omega)]; exact e187
                have e194 : n_189 (14 * k170 + 112) = nI 0 := by rw [en_189, pk_us]
                refine pm_iincX (v := nI 3) (loc' := [some (.ref (B + 54)), some (.int za), some (.int zb), some (.int zc), some (.int zd), some (.int (nI 1)), some (.int (nI k170)), some (.int (nI 3))]) hG dX12_person_137 rfl (nI_1 _) (by decide) (pm_c1b rfl) rfl ?_
                refine pm_goto (tgt := 121) hG dX12_person_140 rfl ?_
                refine pm_iloadi hG dX12_person_121 rfl ?_
                refine pm_bipush (v := nI 14) hG dX12_person_123 (by decide) ?_
                refine pm_icmpN_ge (tgt := 143) hG dX12_person_125 rfl (by omega) (by omega) (fun q => absurd q (by omega)) (fun _ => ?_)
                refine pm_aloadn hG dX12_person_128 rfl ?_
                refine pm_iloadi hG dX12_person_129 rfl ?_
                refine pm_iloadi hG dX12_person_131 rfl ?_
                refine pm_iconst (v := nI 0) hG dX12_person_133 (by decide) ?_
                refine pm_callV (As := [.int (nI k170), .int (nI 3), .int (nI 0)]) (rest := []) hG hR dX12_person_134 (lkX12_97 _ rfl) okV_X12_sets rfl rfl (m_sets (d := 2) (e := 14 * k170 + 113) (by omega) (by omega) (by omega)) rfl rfl hdd (Nat.le_refl _) (Nat.le_refl _) (by decide) (pm_kv (fun σ' cnt' hq => ?_))
                obtain ⟨rfl, rfl⟩ := hq
                obtain ⟨n_195, en_195⟩ : ∃ f : Nat → Int32, f = upd n_189 (14 * k170 + 113) (nI 0) := ⟨_, rfl⟩
                rw [← en_195]
                have hnn_195 := KI.w en_195 hnn_189 (okv_o (show kd (14 * k170 + 113) = (2, 20, false) from (kd_P (k := k170) (c := 3) (by omega) (by omega) (by decide))) (by omega))
                have hrn_195 := NRx.w en_195 hrn_189 (by rw [(show kd (14 * k170 + 113) = (2, 20, false) from (kd_P (k := k170) (c := 3) (by omega) (by omega) (by decide)))])
                have e196 : n_195 11 = nI kc11 := by rw [en_195, pk_un (by omega)]; exact e190
                have e197 : n_195 8 = nI k4 := by rw [en_195, pk_un (by omega)]; exact e191
                have e198 : n_195 0 = nI k166 := by rw [en_195, pk_un (by omega)]; exact e192
                have e199 : n_195 2 = nI (k170 + 1) := by rw [en_195, pk_un (by omega)]; exact e193
                have e200 : n_195 (14 * k170 + 113) = nI 0 := by rw [en_195, pk_us]
                refine pm_iincX (v := nI 4) (loc' := [some (.ref (B + 54)), some (.int za), some (.int zb), some (.int zc), some (.int zd), some (.int (nI 1)), some (.int (nI k170)), some (.int (nI 4))]) hG dX12_person_137 rfl (nI_1 _) (by decide) (pm_c1b rfl) rfl ?_
                refine pm_goto (tgt := 121) hG dX12_person_140 rfl ?_
                refine pm_iloadi hG dX12_person_121 rfl ?_
                refine pm_bipush (v := nI 14) hG dX12_person_123 (by decide) ?_
                refine pm_icmpN_ge (tgt := 143) hG dX12_person_125 rfl (by omega) (by omega) (fun q => absurd q (by omega)) (fun _ => ?_)
                refine pm_aloadn hG dX12_person_128 rfl ?_
                refine pm_iloadi hG dX12_person_129 rfl ?_
                refine pm_iloadi hG dX12_person_131 rfl ?_
                refine pm_iconst (v := nI 0) hG dX12_person_133 (by decide) ?_
                refine pm_callV (As := [.int (nI k170), .int (nI 4), .int (nI 0)]) (rest := []) hG hR dX12_person_134 (lkX12_97 _ rfl) okV_X12_sets rfl rfl (m_sets (d := 2) (e := 14 * k170 + 114) (by omega) (by omega) (by omega)) rfl rfl hdd (Nat.le_refl _) (Nat.le_refl _) (by decide) (pm_kv (fun σ' cnt' hq => ?_))
                obtain ⟨rfl, rfl⟩ := hq
                obtain ⟨n_201, en_201⟩ : ∃ f : Nat → Int32, f = upd n_195 (14 * k170 + 114) (nI 0) := ⟨_, rfl⟩
                rw [← en_201]
                have hnn_201 := KI.w en_201 hnn_195 (okv_o (show kd (14 * k170 + 114) = (2, 10, false) from (kd_P (k := k170) (c := 4) (by omega) (by omega) (by decide))) (by omega))
                have hrn_201 := NRx.w en_201 hrn_195 (by rw [(show kd (14 * k170 + 114) = (2, 10, false) from (kd_P (k := k170) (c := 4) (by omega) (by omega) (by decide)))])
                have e202 : n_201 11 = nI kc11 := by rw [en_201, pk_un (by omega)]; exact e196
                have e203 : n_201 8 = nI k4 := by rw [en_201, pk_un (by omega)]; exact e197
                have e204 : n_201 0 = nI k166 := by rw [en_201, pk_un (by omega)]; exact e198
                have e205 : n_201 2 = nI (k170 + 1) := by rw [en_201, pk_un (by omega)]; exact e199
                have e206 : n_201 (14 * k170 + 114) = nI 0 := by rw [en_201, pk_us]
                refine pm_iincX (v := nI 5) (loc' := [some (.ref (B + 54)), some (.int za), some (.int zb), some (.int zc), some (.int zd), some (.int (nI 1)), some (.int (nI k170)), some (.int (nI 5))]) hG dX12_person_137 rfl (nI_1 _) (by decide) (pm_c1b rfl) rfl ?_
                refine pm_goto (tgt := 121) hG dX12_person_140 rfl ?_
                refine pm_iloadi hG dX12_person_121 rfl ?_
                refine pm_bipush (v := nI 14) hG dX12_person_123 (by decide) ?_
                refine pm_icmpN_ge (tgt := 143) hG dX12_person_125 rfl (by omega) (by omega) (fun q => absurd q (by omega)) (fun _ => ?_)
                refine pm_aloadn hG dX12_person_128 rfl ?_
                refine pm_iloadi hG dX12_person_129 rfl ?_
                refine pm_iloadi hG dX12_person_131 rfl ?_
                refine pm_iconst (v := nI 0) hG dX12_person_133 (by decide) ?_
                refine pm_callV (As := [.int (nI k170), .int (nI 5), .int (nI 0)]) (rest := []) hG hR dX12_person_134 (lkX12_97 _ rfl) okV_X12_sets rfl rfl (m_sets (d := 2) (e := 14 * k170 + 115) (by omega) (by omega) (by omega)) rfl rfl hdd (Nat.le_refl _) (Nat.le_refl _) (by decide) (pm_kv (fun σ' cnt' hq => ?_))
                obtain ⟨rfl, rfl⟩ := hq
                obtain ⟨n_207, en_207⟩ : ∃ f : Nat → Int32, f = upd n_201 (14 * k170 + 115) (nI 0) := ⟨_, rfl⟩
                rw [← en_207]
                have hnn_207 := KI.w en_207 hnn_201 (okv_n (show kd (14 * k170 + 115) = (1, 10, false) from (kd_P (k := k170) (c := 5) (by omega) (by omega) (by decide))) (by omega))
                have hrn_207 := NRx.w en_207 hrn_201 (by rw [(show kd (14 * k170 + 115) = (1, 10, false) from (kd_P (k := k170) (c := 5) (by omega) (by omega) (by decide)))])
                have e208 : n_207 11 = nI kc11 := by rw [en_207, pk_un (by omega)]; exact e202
                have e209 : n_207 8 = nI k4 := by rw [en_207, pk_un (by omega)]; exact e203
                have e210 : n_207 0 = nI k166 := by rw [en_207, pk_un (by omega)]; exact e204
                have e211 : n_207 2 = nI (k170 + 1) := by rw [en_207, pk_un (by omega)]; exact e205
                have e212 : n_207 (14 * k170 + 115) = nI 0 := by rw [en_207, pk_us]
                refine pm_iincX (v := nI 6) (loc' := [some (.ref (B + 54)), some (.int za), some (.int zb), some (.int zc), some (.int zd), some (.int (nI 1)), some (.int (nI k170)), some (.int (nI 6))]) hG dX12_person_137 rfl (nI_1 _) (by decide) (pm_c1b rfl) rfl ?_
                refine pm_goto (tgt := 121) hG dX12_person_140 rfl ?_
                refine pm_iloadi hG dX12_person_121 rfl ?_
                refine pm_bipush (v := nI 14) hG dX12_person_123 (by decide) ?_
                refine pm_icmpN_ge (tgt := 143) hG dX12_person_125 rfl (by omega) (by omega) (fun q => absurd q (by omega)) (fun _ => ?_)
                refine pm_aloadn hG dX12_person_128 rfl ?_
                refine pm_iloadi hG dX12_person_129 rfl ?_
                refine pm_iloadi hG dX12_person_131 rfl ?_
                refine pm_iconst (v := nI 0) hG dX12_person_133 (by decide) ?_
                refine pm_callV (As := [.int (nI k170), .int (nI 6), .int (nI 0)]) (rest := []) hG hR dX12_person_134 (lkX12_97 _ rfl) okV_X12_sets rfl rfl (m_sets (d := 2) (e := 14 * k170 + 116) (by omega) (by omega) (by omega)) rfl rfl hdd (Nat.le_refl _) (Nat.le_refl _) (by decide) (pm_kv (fun σ' cnt' hq => ?_))
                obtain ⟨rfl, rfl⟩ := hq
                obtain ⟨n_213, en_213⟩ : ∃ f : Nat → Int32, f = upd n_207 (14 * k170 + 116) (nI 0) := ⟨_, rfl⟩
                rw [← en_213]
                have hnn_213 := KI.w en_213 hnn_207 (okv_f (show kd (14 * k170 + 116) = (0, 0, false) from (kd_P (k := k170) (c := 6) (by omega) (by omega) (by decide))))
                have hrn_213 := NRx.w en_213 hrn_207 (by rw [(show kd (14 * k170 + 116) = (0, 0, false) from (kd_P (k := k170) (c := 6) (by omega) (by omega) (by decide)))])
                have e214 : n_213 11 = nI kc11 := by rw [en_213, pk_un (by omega)]; exact e208
                have e215 : n_213 8 = nI k4 := by rw [en_213, pk_un (by omega)]; exact e209
                have e216 : n_213 0 = nI k166 := by rw [en_213, pk_un (by omega)]; exact e210
                have e217 : n_213 2 = nI (k170 + 1) := by rw [en_213, pk_un (by omega)]; exact e211
                have e218 : n_213 (14 * k170 + 116) = nI 0 := by rw [en_213, pk_us]
                refine pm_iincX (v := nI 7) (loc' := [some (.ref (B + 54)), some (.int za), some (.int zb), some (.int zc), some (.int zd), some (.int (nI 1)), some (.int (nI k170)), some (.int (nI 7))]) hG dX12_person_137 rfl (nI_1 _) (by decide) (pm_c1b rfl) rfl ?_
                refine pm_goto (tgt := 121) hG dX12_person_140 rfl ?_
                refine pm_iloadi hG dX12_person_121 rfl ?_
                refine pm_bipush (v := nI 14) hG dX12_person_123 (by decide) ?_
                refine pm_icmpN_ge (tgt := 143) hG dX12_person_125 rfl (by omega) (by omega) (fun q => absurd q (by omega)) (fun _ => ?_)
                refine pm_aloadn hG dX12_person_128 rfl ?_
                refine pm_iloadi hG dX12_person_129 rfl ?_
                refine pm_iloadi hG dX12_person_131 rfl ?_
                refine pm_iconst (v := nI 0) hG dX12_person_133 (by decide) ?_
                refine pm_callV (As := [.int (nI k170), .int (nI 7), .int (nI 0)]) (rest := []) hG hR dX12_person_134 (lkX12_97 _ rfl) okV_X12_sets rfl rfl (m_sets (d := 2) (e := 14 * k170 + 117) (by omega) (by omega) (by omega)) rfl rfl hdd (Nat.le_refl _) (Nat.le_refl _) (by decide) (pm_kv (fun σ' cnt' hq => ?_))
                obtain ⟨rfl, rfl⟩ := hq
                obtain ⟨n_219, en_219⟩ : ∃ f : Nat → Int32, f = upd n_213 (14 * k170 + 117) (nI 0) := ⟨_, rfl⟩
                rw [← en_219]
                have hnn_219 := KI.w en_219 hnn_213 (okv_f (show kd (14 * k170 + 117) = (0, 0, false) from (kd_P (k := k170) (c := 7) (by omega) (by omega) (by decide))))
                have hrn_219 := NRx.w en_219 hrn_213 (by rw [(show kd (14 * k170 + 117) = (0, 0, false) from (kd_P (k := k170) (c := 7) (by omega) (by omega) (by decide)))])
                have e220 : n_219 11 = nI kc11 := by rw [en_219, pk_un (by omega)]; exact e214
                have e221 : n_219 8 = nI k4 := by rw [en_219, pk_un (by omega)]; exact e215
                have e222 : n_219 0 = nI k166 := by rw [en_219, pk_un (by omega)]; exact e216
                have e223 : n_219 2 = nI (k170 + 1) := by rw [en_219, pk_un (by omega)]; exact e217
                have e224 : n_219 (14 * k170 + 117) = nI 0 := by rw [en_219, pk_us]
                refine pm_iincX (v := nI 8) (loc' := [some (.ref (B + 54)), some (.int za), some (.int zb), some (.int zc), some (.int zd), some (.int (nI 1)), some (.int (nI k170)), some (.int (nI 8))]) hG dX12_person_137 rfl (nI_1 _) (by decide) (pm_c1b rfl) rfl ?_
                refine pm_goto (tgt := 121) hG dX12_person_140 rfl ?_
                refine pm_iloadi hG dX12_person_121 rfl ?_
                refine pm_bipush (v := nI 14) hG dX12_person_123 (by decide) ?_
                refine pm_icmpN_ge (tgt := 143) hG dX12_person_125 rfl (by omega) (by omega) (fun q => absurd q (by omega)) (fun _ => ?_)
                refine pm_aloadn hG dX12_person_128 rfl ?_
                refine pm_iloadi hG dX12_person_129 rfl ?_
                refine pm_iloadi hG dX12_person_131 rfl ?_
                refine pm_iconst (v := nI 0) hG dX12_person_133 (by decide) ?_
                refine pm_callV (As := [.int (nI k170), .int (nI 8), .int (nI 0)]) (rest := []) hG hR dX12_person_134 (lkX12_97 _ rfl) okV_X12_sets rfl rfl (m_sets (d := 2) (e := 14 * k170 + 118) (by omega) (by omega) (by omega)) rfl rfl hdd (Nat.le_refl _) (Nat.le_refl _) (by decide) (pm_kv (fun σ' cnt' hq => ?_))
                obtain ⟨rfl, rfl⟩ := hq
                obtain ⟨n_225, en_225⟩ : ∃ f : Nat → Int32, f = upd n_219 (14 * k170 + 118) (nI 0) := ⟨_, rfl⟩
                rw [← en_225]
                have hnn_225 := KI.w en_225 hnn_219 (okv_f (show kd (14 * k170 + 118) = (0, 0, false) from (kd_P (k := k170) (c := 8) (by omega) (by omega) (by decide))))
                have hrn_225 := NRx.w en_225 hrn_219 (by rw [(show kd (14 * k170 + 118) = (0, 0, false) from (kd_P (k := k170) (c := 8) (by omega) (by omega) (by decide)))])
                have e226 : n_225 11 = nI kc11 := by rw [en_225, pk_un (by omega)]; exact e220
                have e227 : n_225 8 = nI k4 := by rw [en_225, pk_un (by omega)]; exact e221
                have e228 : n_225 0 = nI k166 := by rw [en_225, pk_un (by omega)]; exact e222
                have e229 : n_225 2 = nI (k170 + 1) := by rw [en_225, pk_un (by omega)]; exact e223
                have e230 : n_225 (14 * k170 + 118) = nI 0 := by rw [en_225, pk_us]
                refine pm_iincX (v := nI 9) (loc' := [some (.ref (B + 54)), some (.int za), some (.int zb), some (.int zc), some (.int zd), some (.int (nI 1)), some (.int (nI k170)), some (.int (nI 9))]) hG dX12_person_137 rfl (nI_1 _) (by decide) (pm_c1b rfl) rfl ?_
                refine pm_goto (tgt := 121) hG dX12_person_140 rfl ?_
                refine pm_iloadi hG dX12_person_121 rfl ?_
                refine pm_bipush (v := nI 14) hG dX12_person_123 (by decide) ?_
                refine pm_icmpN_ge (tgt := 143) hG dX12_person_125 rfl (by omega) (by omega) (fun q => absurd q (by omega)) (fun _ => ?_)
                refine pm_aloadn hG dX12_person_128 rfl ?_
                refine pm_iloadi hG dX12_person_129 rfl ?_
                refine pm_iloadi hG dX12_person_131 rfl ?_
                refine pm_iconst (v := nI 0) hG dX12_person_133 (by decide) ?_
                refine pm_callV (As := [.int (nI k170), .int (nI 9), .int (nI 0)]) (rest := []) hG hR dX12_person_134 (lkX12_97 _ rfl) okV_X12_sets rfl rfl (m_sets (d := 2) (e := 14 * k170 + 119) (by omega) (by omega) (by omega)) rfl rfl hdd (Nat.le_refl _) (Nat.le_refl _) (by decide) (pm_kv (fun σ' cnt' hq => ?_))
                obtain ⟨rfl, rfl⟩ := hq
                obtain ⟨n_231, en_231⟩ : ∃ f : Nat → Int32, f = upd n_225 (14 * k170 + 119) (nI 0) := ⟨_, rfl⟩
                rw [← en_231]
                have hnn_231 := KI.w en_231 hnn_225 (okv_o (show kd (14 * k170 + 119) = (2, 2001, false) from (kd_P (k := k170) (c := 9) (by omega) (by omega) (by decide))) (by omega))
                have hrn_231 := NRx.w en_231 hrn_225 (by rw [(show kd (14 * k170 + 119) = (2, 2001, false) from (kd_P (k := k170) (c := 9) (by omega) (by omega) (by decide)))])
                have e232 : n_231 11 = nI kc11 := by rw [en_231, pk_un (by omega)]; exact e226
                have e233 : n_231 8 = nI k4 := by rw [en_231, pk_un (by omega)]; exact e227
                have e234 : n_231 0 = nI k166 := by rw [en_231, pk_un (by omega)]; exact e228
                have e235 : n_231 2 = nI (k170 + 1) := by rw [en_231, pk_un (by omega)]; exact e229
                have e236 : n_231 (14 * k170 + 119) = nI 0 := by rw [en_231, pk_us]
                refine pm_iincX (v := nI 10) (loc' := [some (.ref (B + 54)), some (.int za), some (.int zb), some (.int zc), some (.int zd), some (.int (nI 1)), some (.int (nI k170)), some (.int (nI 10))]) hG dX12_person_137 rfl (nI_1 _) (by decide) (pm_c1b rfl) rfl ?_
                refine pm_goto (tgt := 121) hG dX12_person_140 rfl ?_
                refine pm_iloadi hG dX12_person_121 rfl ?_
                refine pm_bipush (v := nI 14) hG dX12_person_123 (by decide) ?_
                refine pm_icmpN_ge (tgt := 143) hG dX12_person_125 rfl (by omega) (by omega) (fun q => absurd q (by omega)) (fun _ => ?_)
                refine pm_aloadn hG dX12_person_128 rfl ?_
                refine pm_iloadi hG dX12_person_129 rfl ?_
                refine pm_iloadi hG dX12_person_131 rfl ?_
                refine pm_iconst (v := nI 0) hG dX12_person_133 (by decide) ?_
                refine pm_callV (As := [.int (nI k170), .int (nI 10), .int (nI 0)]) (rest := []) hG hR dX12_person_134 (lkX12_97 _ rfl) okV_X12_sets rfl rfl (m_sets (d := 2) (e := 14 * k170 + 120) (by omega) (by omega) (by omega)) rfl rfl hdd (Nat.le_refl _) (Nat.le_refl _) (by decide) (pm_kv (fun σ' cnt' hq => ?_))
                obtain ⟨rfl, rfl⟩ := hq
                obtain ⟨n_237, en_237⟩ : ∃ f : Nat → Int32, f = upd n_231 (14 * k170 + 120) (nI 0) := ⟨_, rfl⟩
                rw [← en_237]
                have hnn_237 := KI.w en_237 hnn_231 (okv_f (show kd (14 * k170 + 120) = (0, 0, false) from (kd_P (k := k170) (c := 10) (by omega) (by omega) (by decide))))
                have hrn_237 := NRx.w en_237 hrn_231 (by rw [(show kd (14 * k170 + 120) = (0, 0, false) from (kd_P (k := k170) (c := 10) (by omega) (by omega) (by decide)))])
                have e238 : n_237 11 = nI kc11 := by rw [en_237, pk_un (by omega)]; exact e232
                have e239 : n_237 8 = nI k4 := by rw [en_237, pk_un (by omega)]; exact e233
                have e240 : n_237 0 = nI k166 := by rw [en_237, pk_un (by omega)]; exact e234
                have e241 : n_237 2 = nI (k170 + 1) := by rw [en_237, pk_un (by omega)]; exact e235
                have e242 : n_237 (14 * k170 + 120) = nI 0 := by rw [en_237, pk_us]
                refine pm_iincX (v := nI 11) (loc' := [some (.ref (B + 54)), some (.int za), some (.int zb), some (.int zc), some (.int zd), some (.int (nI 1)), some (.int (nI k170)), some (.int (nI 11))]) hG dX12_person_137 rfl (nI_1 _) (by decide) (pm_c1b rfl) rfl ?_
                refine pm_goto (tgt := 121) hG dX12_person_140 rfl ?_
                refine pm_iloadi hG dX12_person_121 rfl ?_
                refine pm_bipush (v := nI 14) hG dX12_person_123 (by decide) ?_
                refine pm_icmpN_ge (tgt := 143) hG dX12_person_125 rfl (by omega) (by omega) (fun q => absurd q (by omega)) (fun _ => ?_)
                refine pm_aloadn hG dX12_person_128 rfl ?_
                refine pm_iloadi hG dX12_person_129 rfl ?_
                refine pm_iloadi hG dX12_person_131 rfl ?_
                refine pm_iconst (v := nI 0) hG dX12_person_133 (by decide) ?_
                refine pm_callV (As := [.int (nI k170), .int (nI 11), .int (nI 0)]) (rest := []) hG hR dX12_person_134 (lkX12_97 _ rfl) okV_X12_sets rfl rfl (m_sets (d := 2) (e := 14 * k170 + 121) (by omega) (by omega) (by omega)) rfl rfl hdd (Nat.le_refl _) (Nat.le_refl _) (by decide) (pm_kv (fun σ' cnt' hq => ?_))
                obtain ⟨rfl, rfl⟩ := hq
                obtain ⟨n_243, en_243⟩ : ∃ f : Nat → Int32, f = upd n_237 (14 * k170 + 121) (nI 0) := ⟨_, rfl⟩
                rw [← en_243]
                have hnn_243 := KI.w en_243 hnn_237 (okv_n (show kd (14 * k170 + 121) = (1, 2, true) from (kd_P (k := k170) (c := 11) (by omega) (by omega) (by decide))) (by omega))
                have hrn_243 := NRx.unseat (p := k170) en_243 hrn_237 (by omega)
                have e244 : n_243 11 = nI kc11 := by rw [en_243, pk_un (by omega)]; exact e238
                have e245 : n_243 8 = nI k4 := by rw [en_243, pk_un (by omega)]; exact e239
                have e246 : n_243 0 = nI k166 := by rw [en_243, pk_un (by omega)]; exact e240
                have e247 : n_243 2 = nI (k170 + 1) := by rw [en_243, pk_un (by omega)]; exact e241
                have e248 : n_243 (14 * k170 + 121) = nI 0 := by rw [en_243, pk_us]
                refine pm_iincX (v := nI 12) (loc' := [some (.ref (B + 54)), some (.int za), some (.int zb), some (.int zc), some (.int zd), some (.int (nI 1)), some (.int (nI k170)), some (.int (nI 12))]) hG dX12_person_137 rfl (nI_1 _) (by decide) (pm_c1b rfl) rfl ?_
                refine pm_goto (tgt := 121) hG dX12_person_140 rfl ?_
                refine pm_iloadi hG dX12_person_121 rfl ?_
                refine pm_bipush (v := nI 14) hG dX12_person_123 (by decide) ?_
                refine pm_icmpN_ge (tgt := 143) hG dX12_person_125 rfl (by omega) (by omega) (fun q => absurd q (by omega)) (fun _ => ?_)
                refine pm_aloadn hG dX12_person_128 rfl ?_
                refine pm_iloadi hG dX12_person_129 rfl ?_
                refine pm_iloadi hG dX12_person_131 rfl ?_
                refine pm_iconst (v := nI 0) hG dX12_person_133 (by decide) ?_
                refine pm_callV (As := [.int (nI k170), .int (nI 12), .int (nI 0)]) (rest := []) hG hR dX12_person_134 (lkX12_97 _ rfl) okV_X12_sets rfl rfl (m_sets (d := 2) (e := 14 * k170 + 122) (by omega) (by omega) (by omega)) rfl rfl hdd (Nat.le_refl _) (Nat.le_refl _) (by decide) (pm_kv (fun σ' cnt' hq => ?_))
                obtain ⟨rfl, rfl⟩ := hq
                obtain ⟨n_249, en_249⟩ : ∃ f : Nat → Int32, f = upd n_243 (14 * k170 + 122) (nI 0) := ⟨_, rfl⟩
                rw [← en_249]
                have hnn_249 := KI.w en_249 hnn_243 (okv_f (show kd (14 * k170 + 122) = (0, 0, false) from (kd_P (k := k170) (c := 12) (by omega) (by omega) (by decide))))
                have hrn_249 := NRx.w en_249 hrn_243 (by rw [(show kd (14 * k170 + 122) = (0, 0, false) from (kd_P (k := k170) (c := 12) (by omega) (by omega) (by decide)))])
                have e250 : n_249 11 = nI kc11 := by rw [en_249, pk_un (by omega)]; exact e244
                have e251 : n_249 8 = nI k4 := by rw [en_249, pk_un (by omega)]; exact e245
                have e252 : n_249 0 = nI k166 := by rw [en_249, pk_un (by omega)]; exact e246
                have e253 : n_249 2 = nI (k170 + 1) := by rw [en_249, pk_un (by omega)]; exact e247
                have e254 : n_249 (14 * k170 + 122) = nI 0 := by rw [en_249, pk_us]
                refine pm_iincX (v := nI 13) (loc' := [some (.ref (B + 54)), some (.int za), some (.int zb), some (.int zc), some (.int zd), some (.int (nI 1)), some (.int (nI k170)), some (.int (nI 13))]) hG dX12_person_137 rfl (nI_1 _) (by decide) (pm_c1b rfl) rfl ?_
                refine pm_goto (tgt := 121) hG dX12_person_140 rfl ?_
                refine pm_iloadi hG dX12_person_121 rfl ?_
                refine pm_bipush (v := nI 14) hG dX12_person_123 (by decide) ?_
                refine pm_icmpN_ge (tgt := 143) hG dX12_person_125 rfl (by omega) (by omega) (fun q => absurd q (by omega)) (fun _ => ?_)
                refine pm_aloadn hG dX12_person_128 rfl ?_
                refine pm_iloadi hG dX12_person_129 rfl ?_
                refine pm_iloadi hG dX12_person_131 rfl ?_
                refine pm_iconst (v := nI 0) hG dX12_person_133 (by decide) ?_
                refine pm_callV (As := [.int (nI k170), .int (nI 13), .int (nI 0)]) (rest := []) hG hR dX12_person_134 (lkX12_97 _ rfl) okV_X12_sets rfl rfl (m_sets (d := 2) (e := 14 * k170 + 123) (by omega) (by omega) (by omega)) rfl rfl hdd (Nat.le_refl _) (Nat.le_refl _) (by decide) (pm_kv (fun σ' cnt' hq => ?_))
                obtain ⟨rfl, rfl⟩ := hq
                obtain ⟨n_255, en_255⟩ : ∃ f : Nat → Int32, f = upd n_249 (14 * k170 + 123) (nI 0) := ⟨_, rfl⟩
                rw [← en_255]
                have hnn_255 := KI.w en_255 hnn_249 (okv_f (show kd (14 * k170 + 123) = (0, 0, false) from (kd_P (k := k170) (c := 13) (by omega) (by omega) (by decide))))
                have hrn_255 := NRx.w en_255 hrn_249 (by rw [(show kd (14 * k170 + 123) = (0, 0, false) from (kd_P (k := k170) (c := 13) (by omega) (by omega) (by decide)))])
                have e256 : n_255 11 = nI kc11 := by rw [en_255, pk_un (by omega)]; exact e250
                have e257 : n_255 8 = nI k4 := by rw [en_255, pk_un (by omega)]; exact e251
                have e258 : n_255 0 = nI k166 := by rw [en_255, pk_un (by omega)]; exact e252
                have e259 : n_255 2 = nI (k170 + 1) := by rw [en_255, pk_un (by omega)]; exact e253
                have e260 : n_255 (14 * k170 + 123) = nI 0 := by rw [en_255, pk_us]
                refine pm_iincX (v := nI 14) (loc' := [some (.ref (B + 54)), some (.int za), some (.int zb), some (.int zc), some (.int zd), some (.int (nI 1)), some (.int (nI k170)), some (.int (nI 14))]) hG dX12_person_137 rfl (nI_1 _) (by decide) (pm_c1b rfl) rfl ?_
                refine pm_goto (tgt := 121) hG dX12_person_140 rfl ?_
                refine pm_iloadi hG dX12_person_121 rfl ?_
                refine pm_bipush (v := nI 14) hG dX12_person_123 (by decide) ?_
                refine pm_icmpN_ge (tgt := 143) hG dX12_person_125 rfl (by omega) (by omega) (fun _ => ?_) (fun q => absurd q (by omega))
                refine pm_aloadn hG dX12_person_143 rfl ?_
                refine pm_iloadi hG dX12_person_144 rfl ?_
                refine pm_iconst (v := nI 0) hG dX12_person_146 (by decide) ?_
                refine pm_iloadn hG dX12_person_147 rfl ?_
                refine pm_top (v := nI k3) ek3 ?_
                refine pm_callV (As := [.int (nI k170), .int (nI 0), .int (nI k3)]) (rest := []) hG hR dX12_person_148 (lkX12_97 _ rfl) okV_X12_sets rfl rfl (m_sets (d := 2) (e := 14 * k170 + 110) (by omega) (by omega) (by omega)) rfl rfl hdd (Nat.le_refl _) (Nat.le_refl _) (by decide) (pm_kv (fun σ' cnt' hq => ?_))
                obtain ⟨rfl, rfl⟩ := hq
                obtain ⟨n_261, en_261⟩ : ∃ f : Nat → Int32, f = upd n_255 (14 * k170 + 110) (nI k3) := ⟨_, rfl⟩
                rw [← en_261]
                have hnn_261 := KI.w en_261 hnn_255 (okv_f (show kd (14 * k170 + 110) = (0, 0, false) from (kd_P (k := k170) (c := 0) (by omega) (by omega) (by decide))))
                have hrn_261 := NRx.w en_261 hrn_255 (by rw [(show kd (14 * k170 + 110) = (0, 0, false) from (kd_P (k := k170) (c := 0) (by omega) (by omega) (by decide)))])
                have e262 : n_261 11 = nI kc11 := by rw [en_261, pk_un (by omega)]; exact e256
                have e263 : n_261 8 = nI k4 := by rw [en_261, pk_un (by omega)]; exact e257
                have e264 : n_261 0 = nI k166 := by rw [en_261, pk_un (by omega)]; exact e258
                have e265 : n_261 2 = nI (k170 + 1) := by rw [en_261, pk_un (by omega)]; exact e259
                have e266 : n_261 (14 * k170 + 110) = nI k3 := by rw [en_261, pk_us]
                refine pm_aloadn hG dX12_person_151 rfl ?_
                refine pm_iloadi hG dX12_person_152 rfl ?_
                refine pm_iconst (v := nI 1) hG dX12_person_154 (by decide) ?_
                refine pm_iloadn hG dX12_person_155 rfl ?_
                refine pm_callV (As := [.int (nI k170), .int (nI 1), .int zb]) (rest := []) hG hR dX12_person_156 (lkX12_97 _ rfl) okV_X12_sets rfl rfl (m_sets (d := 2) (e := 14 * k170 + 111) (by omega) (by omega) (by omega)) rfl rfl hdd (Nat.le_refl _) (Nat.le_refl _) (by decide) (pm_kv (fun σ' cnt' hq => ?_))
                obtain ⟨rfl, rfl⟩ := hq
                obtain ⟨n_267, en_267⟩ : ∃ f : Nat → Int32, f = upd n_261 (14 * k170 + 111) zb := ⟨_, rfl⟩
                rw [← en_267]
                have hnn_267 := KI.w en_267 hnn_261 (okv_f (show kd (14 * k170 + 111) = (0, 0, false) from (kd_P (k := k170) (c := 1) (by omega) (by omega) (by decide))))
                have hrn_267 := NRx.w en_267 hrn_261 (by rw [(show kd (14 * k170 + 111) = (0, 0, false) from (kd_P (k := k170) (c := 1) (by omega) (by omega) (by decide)))])
                have e268 : n_267 11 = nI kc11 := by rw [en_267, pk_un (by omega)]; exact e262
                have e269 : n_267 8 = nI k4 := by rw [en_267, pk_un (by omega)]; exact e263
                have e270 : n_267 0 = nI k166 := by rw [en_267, pk_un (by omega)]; exact e264
                have e271 : n_267 2 = nI (k170 + 1) := by rw [en_267, pk_un (by omega)]; exact e265
                have e272 : n_267 (14 * k170 + 111) = zb := by rw [en_267, pk_us]
                refine pm_aloadn hG dX12_person_159 rfl ?_
                refine pm_iloadi hG dX12_person_160 rfl ?_
                refine pm_iconst (v := nI 2) hG dX12_person_162 (by decide) ?_
                refine pm_iloadn hG dX12_person_163 rfl ?_
                refine pm_top (v := nI k10) ek10 ?_
                refine pm_bipush (v := nI 100) hG dX12_person_164 (by decide) ?_
                refine pm_idivN hG dX12_person_166 (by omega) (by decide) (by decide) ?_
                refine pm_iconst (v := nI 1) hG dX12_person_167 (by decide) ?_
                refine pm_isub hG dX12_person_168 ?_
                refine pm_top (v := (-1)) ek12 ?_
                refine pm_callV (As := [.int (nI k170), .int (nI 2), .int (-1)]) (rest := []) hG hR dX12_person_169 (lkX12_97 _ rfl) okV_X12_sets rfl rfl (m_sets (d := 2) (e := 14 * k170 + 112) (by omega) (by omega) (by omega)) rfl rfl hdd (Nat.le_refl _) (Nat.le_refl _) (by decide) (pm_kv (fun σ' cnt' hq => ?_))
                obtain ⟨rfl, rfl⟩ := hq
                obtain ⟨n_273, en_273⟩ : ∃ f : Nat → Int32, f = upd n_267 (14 * k170 + 112) (-1) := ⟨_, rfl⟩
                rw [← en_273]
                have hnn_273 := KI.w en_273 hnn_267 (okv_m (show kd (14 * k170 + 112) = (2, 20, false) from (kd_P (k := k170) (c := 2) (by omega) (by omega) (by decide))))
                have hrn_273 := NRx.w en_273 hrn_267 (by rw [(show kd (14 * k170 + 112) = (2, 20, false) from (kd_P (k := k170) (c := 2) (by omega) (by omega) (by decide)))])
                have e274 : n_273 11 = nI kc11 := by rw [en_273, pk_un (by omega)]; exact e268
                have e275 : n_273 8 = nI k4 := by rw [en_273, pk_un (by omega)]; exact e269
                have e276 : n_273 0 = nI k166 := by rw [en_273, pk_un (by omega)]; exact e270
                have e277 : n_273 2 = nI (k170 + 1) := by rw [en_273, pk_un (by omega)]; exact e271
                have e278 : n_273 (14 * k170 + 112) = (-1) := by rw [en_273, pk_us]
                refine pm_aloadn hG dX12_person_172 rfl ?_
                refine pm_iloadi hG dX12_person_173 rfl ?_
                refine pm_iconst (v := nI 3) hG dX12_person_175 (by decide) ?_
                refine pm_iloadn hG dX12_person_176 rfl ?_
                refine pm_top (v := nI k10) ek10 ?_
                refine pm_bipush (v := nI 100) hG dX12_person_177 (by decide) ?_
                refine pm_iremM hG dX12_person_179 (by omega) (by decide) (by decide) ?_
                refine pm_iconst (v := nI 1) hG dX12_person_180 (by decide) ?_
                refine pm_isub hG dX12_person_181 ?_
                refine pm_top (v := nI k16) ek16 ?_
                refine pm_callV (As := [.int (nI k170), .int (nI 3), .int (nI k16)]) (rest := []) hG hR dX12_person_182 (lkX12_97 _ rfl) okV_X12_sets rfl rfl (m_sets (d := 2) (e := 14 * k170 + 113) (by omega) (by omega) (by omega)) rfl rfl hdd (Nat.le_refl _) (Nat.le_refl _) (by decide) (pm_kv (fun σ' cnt' hq => ?_))
                obtain ⟨rfl, rfl⟩ := hq
                obtain ⟨n_279, en_279⟩ : ∃ f : Nat → Int32, f = upd n_273 (14 * k170 + 113) (nI k16) := ⟨_, rfl⟩
                rw [← en_279]
                have hnn_279 := KI.w en_279 hnn_273 (okv_o (show kd (14 * k170 + 113) = (2, 20, false) from (kd_P (k := k170) (c := 3) (by omega) (by omega) (by decide))) (by omega))
                have hrn_279 := NRx.w en_279 hrn_273 (by rw [(show kd (14 * k170 + 113) = (2, 20, false) from (kd_P (k := k170) (c := 3) (by omega) (by omega) (by decide)))])
                have e280 : n_279 11 = nI kc11 := by rw [en_279, pk_un (by omega)]; exact e274
                have e281 : n_279 8 = nI k4 := by rw [en_279, pk_un (by omega)]; exact e275
                have e282 : n_279 0 = nI k166 := by rw [en_279, pk_un (by omega)]; exact e276
                have e283 : n_279 2 = nI (k170 + 1) := by rw [en_279, pk_un (by omega)]; exact e277
                have e284 : n_279 (14 * k170 + 113) = nI k16 := by rw [en_279, pk_us]
                refine pm_aloadn hG dX12_person_185 rfl ?_
                refine pm_iloadi hG dX12_person_186 rfl ?_
                refine pm_iconst (v := nI 4) hG dX12_person_188 (by decide) ?_
                refine pm_iloadi hG dX12_person_189 rfl ?_
                refine pm_top (v := nI k169) ek169 ?_
                refine pm_callV (As := [.int (nI k170), .int (nI 4), .int (nI k169)]) (rest := []) hG hR dX12_person_191 (lkX12_97 _ rfl) okV_X12_sets rfl rfl (m_sets (d := 2) (e := 14 * k170 + 114) (by omega) (by omega) (by omega)) rfl rfl hdd (Nat.le_refl _) (Nat.le_refl _) (by decide) (pm_kv (fun σ' cnt' hq => ?_))
                obtain ⟨rfl, rfl⟩ := hq
                obtain ⟨n_285, en_285⟩ : ∃ f : Nat → Int32, f = upd n_279 (14 * k170 + 114) (nI k169) := ⟨_, rfl⟩
                rw [← en_285]
                have hnn_285 := KI.w en_285 hnn_279 (okv_o (show kd (14 * k170 + 114) = (2, 10, false) from (kd_P (k := k170) (c := 4) (by omega) (by omega) (by decide))) (by omega))
                have hrn_285 := NRx.w en_285 hrn_279 (by rw [(show kd (14 * k170 + 114) = (2, 10, false) from (kd_P (k := k170) (c := 4) (by omega) (by omega) (by decide)))])
                have e286 : n_285 11 = nI kc11 := by rw [en_285, pk_un (by omega)]; exact e280
                have e287 : n_285 8 = nI k4 := by rw [en_285, pk_un (by omega)]; exact e281
                have e288 : n_285 0 = nI k166 := by rw [en_285, pk_un (by omega)]; exact e282
                have e289 : n_285 2 = nI (k170 + 1) := by rw [en_285, pk_un (by omega)]; exact e283
                have e290 : n_285 (14 * k170 + 114) = nI k169 := by rw [en_285, pk_us]
                refine pm_aloadn hG dX12_person_194 rfl ?_
                refine pm_iloadi hG dX12_person_195 rfl ?_
                refine pm_bipush (v := nI 9) hG dX12_person_197 (by decide) ?_
                refine pm_iconst (v := (-1)) hG dX12_person_199 (by decide) ?_
                refine pm_callV (As := [.int (nI k170), .int (nI 9), .int (-1)]) (rest := []) hG hR dX12_person_200 (lkX12_97 _ rfl) okV_X12_sets rfl rfl (m_sets (d := 2) (e := 14 * k170 + 119) (by omega) (by omega) (by omega)) rfl rfl hdd (Nat.le_refl _) (Nat.le_refl _) (by decide) (pm_kv (fun σ' cnt' hq => ?_))
                obtain ⟨rfl, rfl⟩ := hq
                obtain ⟨n_291, en_291⟩ : ∃ f : Nat → Int32, f = upd n_285 (14 * k170 + 119) (-1) := ⟨_, rfl⟩
                rw [← en_291]
                have hnn_291 := KI.w en_291 hnn_285 (okv_m (show kd (14 * k170 + 119) = (2, 2001, false) from (kd_P (k := k170) (c := 9) (by omega) (by omega) (by decide))))
                have hrn_291 := NRx.w en_291 hrn_285 (by rw [(show kd (14 * k170 + 119) = (2, 2001, false) from (kd_P (k := k170) (c := 9) (by omega) (by omega) (by decide)))])
                have e292 : n_291 11 = nI kc11 := by rw [en_291, pk_un (by omega)]; exact e286
                have e293 : n_291 8 = nI k4 := by rw [en_291, pk_un (by omega)]; exact e287
                have e294 : n_291 0 = nI k166 := by rw [en_291, pk_un (by omega)]; exact e288
                have e295 : n_291 2 = nI (k170 + 1) := by rw [en_291, pk_un (by omega)]; exact e289
                have e296 : n_291 (14 * k170 + 119) = (-1) := by rw [en_291, pk_us]
                refine pm_aloadn hG dX12_person_203 rfl ?_
                refine pm_iloadi hG dX12_person_204 rfl ?_
                refine pm_bipush (v := nI 10) hG dX12_person_206 (by decide) ?_
                refine pm_iconst (v := (-1)) hG dX12_person_208 (by decide) ?_
                refine pm_callV (As := [.int (nI k170), .int (nI 10), .int (-1)]) (rest := []) hG hR dX12_person_209 (lkX12_97 _ rfl) okV_X12_sets rfl rfl (m_sets (d := 2) (e := 14 * k170 + 120) (by omega) (by omega) (by omega)) rfl rfl hdd (Nat.le_refl _) (Nat.le_refl _) (by decide) (pm_kv (fun σ' cnt' hq => ?_))
                obtain ⟨rfl, rfl⟩ := hq
                obtain ⟨n_297, en_297⟩ : ∃ f : Nat → Int32, f = upd n_291 (14 * k170 + 120) (-1) := ⟨_, rfl⟩
                rw [← en_297]
                have hnn_297 := KI.w en_297 hnn_291 (okv_f (show kd (14 * k170 + 120) = (0, 0, false) from (kd_P (k := k170) (c := 10) (by omega) (by omega) (by decide))))
                have hrn_297 := NRx.w en_297 hrn_291 (by rw [(show kd (14 * k170 + 120) = (0, 0, false) from (kd_P (k := k170) (c := 10) (by omega) (by omega) (by decide)))])
                have e298 : n_297 11 = nI kc11 := by rw [en_297, pk_un (by omega)]; exact e292
                have e299 : n_297 8 = nI k4 := by rw [en_297, pk_un (by omega)]; exact e293
                have e300 : n_297 0 = nI k166 := by rw [en_297, pk_un (by omega)]; exact e294
                have e301 : n_297 2 = nI (k170 + 1) := by rw [en_297, pk_un (by omega)]; exact e295
                have e302 : n_297 (14 * k170 + 120) = (-1) := by rw [en_297, pk_us]
                refine pm_aloadn hG dX12_person_212 rfl ?_
                refine pm_iloadi hG dX12_person_213 rfl ?_
                refine pm_bipush (v := nI 12) hG dX12_person_215 (by decide) ?_
                refine pm_iconst (v := nI 1) hG dX12_person_217 (by decide) ?_
                refine pm_callV (As := [.int (nI k170), .int (nI 12), .int (nI 1)]) (rest := []) hG hR dX12_person_218 (lkX12_97 _ rfl) okV_X12_sets rfl rfl (m_sets (d := 2) (e := 14 * k170 + 122) (by omega) (by omega) (by omega)) rfl rfl hdd (Nat.le_refl _) (Nat.le_refl _) (by decide) (pm_kv (fun σ' cnt' hq => ?_))
                obtain ⟨rfl, rfl⟩ := hq
                obtain ⟨n_303, en_303⟩ : ∃ f : Nat → Int32, f = upd n_297 (14 * k170 + 122) (nI 1) := ⟨_, rfl⟩
                rw [← en_303]
                have hnn_303 := KI.w en_303 hnn_297 (okv_f (show kd (14 * k170 + 122) = (0, 0, false) from (kd_P (k := k170) (c := 12) (by omega) (by omega) (by decide))))
                have hrn_303 := NRx.w en_303 hrn_297 (by rw [(show kd (14 * k170 + 122) = (0, 0, false) from (kd_P (k := k170) (c := 12) (by omega) (by omega) (by decide)))])
                have e304 : n_303 11 = nI kc11 := by rw [en_303, pk_un (by omega)]; exact e298
                have e305 : n_303 8 = nI k4 := by rw [en_303, pk_un (by omega)]; exact e299
                have e306 : n_303 0 = nI k166 := by rw [en_303, pk_un (by omega)]; exact e300
                have e307 : n_303 2 = nI (k170 + 1) := by rw [en_303, pk_un (by omega)]; exact e301
                have e308 : n_303 (14 * k170 + 122) = nI 1 := by rw [en_303, pk_us]
                refine pm_iloadi hG dX12_person_221 rfl ?_
                exact pm_iret hG hF dX12_person_223 rfl (Nat.le_refl _) (Nat.le_refl _) ⟨_, rfl, ⟨_, _, _, rfl, hnn_303, hrn_303, e304.trans ekc11.symm⟩, rfl⟩
              · refine pm_aloadn hG dX12_person_102 rfl ?_
                refine pm_iconst (v := nI 4) hG dX12_person_103 (by decide) ?_
                refine pm_callV (As := [.int (nI 4)]) (rest := []) hG hR dX12_person_104 (lkX12_80 _ rfl) okV_X12_finds rfl rfl (m_finds (d := 2) (by decide) hn hz (by omega)) rfl rfl hdd (Nat.le_refl _) (Nat.le_refl _) (by decide) (pm_ki (fun v309 σ' cnt' hq => ?_))
                obtain ⟨⟨I310, A310, rfl⟩, rfl, fv309⟩ := hq
                exact pm_iret hG hF dX12_person_107 rfl (Nat.le_refl _) (Nat.le_refl _) ⟨_, rfl, ⟨_, _, _, rfl, hn, hr, ekc11.trans ekc11.symm⟩, rfl⟩
            · refine pm_ifN_eq (tgt := 73) hG dX12_person_66 rfl (by omega) (fun _ => ?_) (fun q => absurd q (by omega))
              refine pm_iconst (v := nI 0) hG dX12_person_73 (by decide) ?_
              refine pm_istoreXi (loc' := [some (.ref (B + 54)), some (.int za), some (.int zb), some (.int zc), some (.int zd), some (.int (nI 0)), none, none]) hG dX12_person_74 (by decide) (pm_c1b rfl) rfl ?_
              refine pm_iloadi hG dX12_person_76 rfl ?_
              refine pm_ifN_ne (tgt := 87) hG dX12_person_78 rfl (by omega) (fun q => absurd q (by omega)) (fun _ => ?_)
              refine pm_aloadn hG dX12_person_81 rfl ?_
              refine pm_iconst (v := nI 1) hG dX12_person_82 (by decide) ?_
              refine pm_callV (As := [.int (nI 1)]) (rest := []) hG hR dX12_person_83 (lkX12_80 _ rfl) okV_X12_finds rfl rfl (m_finds (d := 2) (by decide) hn hz (by omega)) rfl rfl hdd (Nat.le_refl _) (Nat.le_refl _) (by decide) (pm_ki (fun v311 σ' cnt' hq => ?_))
              obtain ⟨⟨I312, A312, rfl⟩, rfl, fv311⟩ := hq
              exact pm_iret hG hF dX12_person_86 rfl (Nat.le_refl _) (Nat.le_refl _) ⟨_, rfl, ⟨_, _, _, rfl, hn, hr, ekc11.trans ekc11.symm⟩, rfl⟩
        · refine pm_ifN_eq (tgt := 73) hG dX12_person_42 rfl (by omega) (fun q => absurd q (by omega)) (fun _ => ?_)
          refine pm_aloadn hG dX12_person_45 rfl ?_
          refine pm_iloadn hG dX12_person_46 rfl ?_
          refine pm_top (v := nI k10) ek10 ?_
          refine pm_bipush (v := nI 100) hG dX12_person_47 (by decide) ?_
          refine pm_iremM hG dX12_person_49 (by omega) (by decide) (by decide) ?_
          refine pm_iconst (v := nI 1) hG dX12_person_50 (by decide) ?_
          refine pm_isub hG dX12_person_51 ?_
          refine pm_iconst (v := nI 0) hG dX12_person_52 (by decide) ?_
          refine pm_iloadn hG dX12_person_53 rfl ?_
          refine pm_callV (As := [.int ((nI ((k10 % 100))) - (nI 1)), .int (nI 0), .int zb]) (rest := []) hG hR dX12_person_54 (lkX12_94 _ rfl) okV_X12_isParent rfl rfl (m_isParent (d := 2) (by decide) hn hz) rfl rfl hdd (Nat.le_refl _) (Nat.le_refl _) (by decide) (pm_ki (fun v313 σ' cnt' hq => ?_))
          obtain ⟨rfl, rfl, hq⟩ := hq
          rcases hq with rfl | ⟨rfl, ek314 | ⟨k314, hk314, ek314⟩⟩
          · refine pm_ifN_eq (tgt := 73) hG dX12_person_57 rfl (by omega) (fun _ => ?_) (fun q => absurd q (by omega))
            refine pm_iconst (v := nI 0) hG dX12_person_73 (by decide) ?_
            refine pm_istoreXi (loc' := [some (.ref (B + 54)), some (.int za), some (.int zb), some (.int zc), some (.int zd), some (.int (nI 0)), none, none]) hG dX12_person_74 (by decide) (pm_c1b rfl) rfl ?_
            refine pm_iloadi hG dX12_person_76 rfl ?_
            refine pm_ifN_ne (tgt := 87) hG dX12_person_78 rfl (by omega) (fun q => absurd q (by omega)) (fun _ => ?_)
            refine pm_aloadn hG dX12_person_81 rfl ?_
            refine pm_iconst (v := nI 1) hG dX12_person_82 (by decide) ?_
            refine pm_callV (As := [.int (nI 1)]) (rest := []) hG hR dX12_person_83 (lkX12_80 _ rfl) okV_X12_finds rfl rfl (m_finds (d := 2) (by decide) hn hz (by omega)) rfl rfl hdd (Nat.le_refl _) (Nat.le_refl _) (by decide) (pm_ki (fun v315 σ' cnt' hq => ?_))
            obtain ⟨⟨I316, A316, rfl⟩, rfl, fv315⟩ := hq
            exact pm_iret hG hF dX12_person_86 rfl (Nat.le_refl _) (Nat.le_refl _) ⟨_, rfl, ⟨_, _, _, rfl, hn, hr, ekc11.trans ekc11.symm⟩, rfl⟩
          · refine pm_ifN_eq (tgt := 73) hG dX12_person_57 rfl (by omega) (fun q => absurd q (by omega)) (fun _ => ?_)
            refine pm_aloadn hG dX12_person_60 rfl ?_
            refine pm_iloadi hG dX12_person_61 rfl ?_
            obtain ⟨k317, hk317, ek317⟩ := KI.nat hn (show kd 0 = (1, 11, true) by decide)
            refine pm_callV (As := [.int zd]) (rest := []) hG hR dX12_person_63 (lkX12_84 _ rfl) okV_X12_isTown rfl rfl (m_isTown (d := 2) (by decide) ek317 (by omega)) rfl rfl hdd (Nat.le_refl _) (Nat.le_refl _) (by decide) (pm_ki (fun v318 σ' cnt' hq => ?_))
            obtain ⟨hq, rfl, rfl⟩ := hq
            rcases hq with ⟨rfl, k320, hk320, ek320⟩ | rfl
            · refine pm_ifN_eq (tgt := 73) hG dX12_person_66 rfl (by omega) (fun q => absurd q (by omega)) (fun _ => ?_)
              refine pm_iconst (v := nI 1) hG dX12_person_69 (by decide) ?_
              refine pm_goto (tgt := 74) hG dX12_person_70 rfl ?_
              refine pm_istoreXi (loc' := [some (.ref (B + 54)), some (.int za), some (.int zb), some (.int zc), some (.int zd), some (.int (nI 1)), none, none]) hG dX12_person_74 (by decide) (pm_c1b rfl) rfl ?_
              refine pm_iloadi hG dX12_person_76 rfl ?_
              refine pm_ifN_ne (tgt := 87) hG dX12_person_78 rfl (by omega) (fun _ => ?_) (fun q => absurd q (by omega))
              refine pm_aloadn hG dX12_person_87 rfl ?_
              refine pm_getf hG dX12_person_88 (flX12_7 _ rfl) rfl rfl ?_
              refine pm_iconst (v := nI 2) hG dX12_person_91 (by decide) ?_
              refine pm_ialdN hG dX12_person_92 rfl (by decide) (by omega) ?_
              obtain ⟨k321, hk321, ek321⟩ := KI.nat hn (show kd 2 = (1, 21, true) by decide)
              refine pm_top (v := nI k321) ek321 ?_
              refine pm_istoreXi (loc' := [some (.ref (B + 54)), some (.int za), some (.int zb), some (.int zc), some (.int zd), some (.int (nI 1)), some (.int (nI k321)), none]) hG dX12_person_93 (by decide) (pm_c1b rfl) rfl ?_
              refine pm_iloadi hG dX12_person_95 rfl ?_
              refine pm_bipush (v := nI 20) hG dX12_person_97 (by decide) ?_
              refine pm_icmpN_ne (tgt := 108) hG dX12_person_99 rfl (by omega) (by omega) (fun c322 => ?_) (fun c322 => ?_)
              · refine pm_aloadn hG dX12_person_108 rfl ?_
                refine pm_getf hG dX12_person_109 (flX12_7 _ rfl) rfl rfl ?_
                refine pm_iconst (v := nI 2) hG dX12_person_112 (by decide) ?_
                refine pm_dup2 hG dX12_person_113 rfl rfl ?_
                refine pm_ialdN hG dX12_person_114 rfl (by decide) (by omega) ?_
                refine pm_top (v := nI k321) ek321 ?_
                refine pm_iconst (v := nI 1) hG dX12_person_115 (by decide) ?_
                refine pm_iaddN (c := k321 + 1) hG dX12_person_116 (by omega) ?_
                refine pm_iastN hG dX12_person_117 rfl (by decide) (by omega) ?_
                refine mdn_now (fun n_323 en_323 => ?_)
                have hnn_323 := KI.w en_323 hn (okv_n (show kd 2 = (1, 21, true) by decide) (by omega))
                have hrn_323 := NRx.pers en_323 hr ek317 (by omega) ek321 (by omega)
                have e324 : n_323 11 = nI kc11 := by rw [en_323, pk_un (by omega)]; exact ekc11
                have e325 : n_323 8 = nI k4 := by rw [en_323, pk_un (by omega)]; exact ek4
                have e326 : n_323 0 = nI k317 := by rw [en_323, pk_un (by omega)]; exact ek317
                have e327 : n_323 2 = nI (k321 + 1) := by rw [en_323, pk_us]
                refine pm_iconst (v := nI 0) hG dX12_person_118 (by decide) ?_
                refine pm_istoreXi (loc' := [some (.ref (B + 54)), some (.int za), some (.int zb), some (.int zc), some (.int zd), some (.int (nI 1)), some (.int (nI k321)), some (.int (nI 0))]) hG dX12_person_119 (by decide) (pm_c1b rfl) rfl ?_
                refine pm_iloadi hG dX12_person_121 rfl ?_
                refine pm_bipush (v := nI 14) hG dX12_person_123 (by decide) ?_
                refine pm_icmpN_ge (tgt := 143) hG dX12_person_125 rfl (by omega) (by omega) (fun q => absurd q (by omega)) (fun _ => ?_)
                refine pm_aloadn hG dX12_person_128 rfl ?_
                refine pm_iloadi hG dX12_person_129 rfl ?_
                refine pm_iloadi hG dX12_person_131 rfl ?_
                refine pm_iconst (v := nI 0) hG dX12_person_133 (by decide) ?_
                refine pm_callV (As := [.int (nI k321), .int (nI 0), .int (nI 0)]) (rest := []) hG hR dX12_person_134 (lkX12_97 _ rfl) okV_X12_sets rfl rfl (m_sets (d := 2) (e := 14 * k321 + 110) (by omega) (by omega) (by omega)) rfl rfl hdd (Nat.le_refl _) (Nat.le_refl _) (by decide) (pm_kv (fun σ' cnt' hq => ?_))
                obtain ⟨rfl, rfl⟩ := hq
                obtain ⟨n_328, en_328⟩ : ∃ f : Nat → Int32, f = upd n_323 (14 * k321 + 110) (nI 0) := ⟨_, rfl⟩
                rw [← en_328]
                have hnn_328 := KI.w en_328 hnn_323 (okv_f (show kd (14 * k321 + 110) = (0, 0, false) from (kd_P (k := k321) (c := 0) (by omega) (by omega) (by decide))))
                have hrn_328 := NRx.w en_328 hrn_323 (by rw [(show kd (14 * k321 + 110) = (0, 0, false) from (kd_P (k := k321) (c := 0) (by omega) (by omega) (by decide)))])
                have e329 : n_328 11 = nI kc11 := by rw [en_328, pk_un (by omega)]; exact e324
                have e330 : n_328 8 = nI k4 := by rw [en_328, pk_un (by omega)]; exact e325
                have e331 : n_328 0 = nI k317 := by rw [en_328, pk_un (by omega)]; exact e326
                have e332 : n_328 2 = nI (k321 + 1) := by rw [en_328, pk_un (by omega)]; exact e327
                have e333 : n_328 (14 * k321 + 110) = nI 0 := by rw [en_328, pk_us]
                refine pm_iincX (v := nI 1) (loc' := [some (.ref (B + 54)), some (.int za), some (.int zb), some (.int zc), some (.int zd), some (.int (nI 1)), some (.int (nI k321)), some (.int (nI 1))]) hG dX12_person_137 rfl (nI_1 _) (by decide) (pm_c1b rfl) rfl ?_
                refine pm_goto (tgt := 121) hG dX12_person_140 rfl ?_
                refine pm_iloadi hG dX12_person_121 rfl ?_
                refine pm_bipush (v := nI 14) hG dX12_person_123 (by decide) ?_
                refine pm_icmpN_ge (tgt := 143) hG dX12_person_125 rfl (by omega) (by omega) (fun q => absurd q (by omega)) (fun _ => ?_)
                refine pm_aloadn hG dX12_person_128 rfl ?_
                refine pm_iloadi hG dX12_person_129 rfl ?_
                refine pm_iloadi hG dX12_person_131 rfl ?_
                refine pm_iconst (v := nI 0) hG dX12_person_133 (by decide) ?_
                refine pm_callV (As := [.int (nI k321), .int (nI 1), .int (nI 0)]) (rest := []) hG hR dX12_person_134 (lkX12_97 _ rfl) okV_X12_sets rfl rfl (m_sets (d := 2) (e := 14 * k321 + 111) (by omega) (by omega) (by omega)) rfl rfl hdd (Nat.le_refl _) (Nat.le_refl _) (by decide) (pm_kv (fun σ' cnt' hq => ?_))
                obtain ⟨rfl, rfl⟩ := hq
                obtain ⟨n_334, en_334⟩ : ∃ f : Nat → Int32, f = upd n_328 (14 * k321 + 111) (nI 0) := ⟨_, rfl⟩
                rw [← en_334]
                have hnn_334 := KI.w en_334 hnn_328 (okv_f (show kd (14 * k321 + 111) = (0, 0, false) from (kd_P (k := k321) (c := 1) (by omega) (by omega) (by decide))))
                have hrn_334 := NRx.w en_334 hrn_328 (by rw [(show kd (14 * k321 + 111) = (0, 0, false) from (kd_P (k := k321) (c := 1) (by omega) (by omega) (by decide)))])
                have e335 : n_334 11 = nI kc11 := by rw [en_334, pk_un (by omega)]; exact e329
                have e336 : n_334 8 = nI k4 := by rw [en_334, pk_un (by omega)]; exact e330
                have e337 : n_334 0 = nI k317 := by rw [en_334, pk_un (by omega)]; exact e331
                have e338 : n_334 2 = nI (k321 + 1) := by rw [en_334, pk_un (by omega)]; exact e332
                have e339 : n_334 (14 * k321 + 111) = nI 0 := by rw [en_334, pk_us]
                refine pm_iincX (v := nI 2) (loc' := [some (.ref (B + 54)), some (.int za), some (.int zb), some (.int zc), some (.int zd), some (.int (nI 1)), some (.int (nI k321)), some (.int (nI 2))]) hG dX12_person_137 rfl (nI_1 _) (by decide) (pm_c1b rfl) rfl ?_
                refine pm_goto (tgt := 121) hG dX12_person_140 rfl ?_
                refine pm_iloadi hG dX12_person_121 rfl ?_
                refine pm_bipush (v := nI 14) hG dX12_person_123 (by decide) ?_
                refine pm_icmpN_ge (tgt := 143) hG dX12_person_125 rfl (by omega) (by omega) (fun q => absurd q (by omega)) (fun _ => ?_)
                refine pm_aloadn hG dX12_person_128 rfl ?_
                refine pm_iloadi hG dX12_person_129 rfl ?_
                refine pm_iloadi hG dX12_person_131 rfl ?_
                refine pm_iconst (v := nI 0) hG dX12_person_133 (by decide) ?_
                refine pm_callV (As := [.int (nI k321), .int (nI 2), .int (nI 0)]) (rest := []) hG hR dX12_person_134 (lkX12_97 _ rfl) okV_X12_sets rfl rfl (m_sets (d := 2) (e := 14 * k321 + 112) (by omega) (by omega) (by omega)) rfl rfl hdd (Nat.le_refl _) (Nat.le_refl _) (by decide) (pm_kv (fun σ' cnt' hq => ?_))
                obtain ⟨rfl, rfl⟩ := hq
                obtain ⟨n_340, en_340⟩ : ∃ f : Nat → Int32, f = upd n_334 (14 * k321 + 112) (nI 0) := ⟨_, rfl⟩
                rw [← en_340]
                have hnn_340 := KI.w en_340 hnn_334 (okv_o (show kd (14 * k321 + 112) = (2, 20, false) from (kd_P (k := k321) (c := 2) (by omega) (by omega) (by decide))) (by omega))
                have hrn_340 := NRx.w en_340 hrn_334 (by rw [(show kd (14 * k321 + 112) = (2, 20, false) from (kd_P (k := k321) (c := 2) (by omega) (by omega) (by decide)))])
                have e341 : n_340 11 = nI kc11 := by rw [en_340, pk_un (by omega)]; exact e335
                have e342 : n_340 8 = nI k4 := by rw [en_340, pk_un (by omega)]; exact e336
                have e343 : n_340 0 = nI k317 := by rw [en_340, pk_un (by omega)]; exact e337
                have e344 : n_340 2 = nI (k321 + 1) := by rw [en_340, pk_un (by omega)]; exact e338
                have e345 : n_340 (14 * k321 + 112) = nI 0 := by rw [en_340, pk_us]
                refine pm_iincX (v := nI 3) (loc' := [some (.ref (B + 54)), some (.int za), some (.int zb), some (.int zc), some (.int zd), some (.int (nI 1)), some (.int (nI k321)), some (.int (nI 3))]) hG dX12_person_137 rfl (nI_1 _) (by decide) (pm_c1b rfl) rfl ?_
                refine pm_goto (tgt := 121) hG dX12_person_140 rfl ?_
                refine pm_iloadi hG dX12_person_121 rfl ?_
                refine pm_bipush (v := nI 14) hG dX12_person_123 (by decide) ?_
                refine pm_icmpN_ge (tgt := 143) hG dX12_person_125 rfl (by omega) (by omega) (fun q => absurd q (by omega)) (fun _ => ?_)
                refine pm_aloadn hG dX12_person_128 rfl ?_
                refine pm_iloadi hG dX12_person_129 rfl ?_
                refine pm_iloadi hG dX12_person_131 rfl ?_
                refine pm_iconst (v := nI 0) hG dX12_person_133 (by decide) ?_
                refine pm_callV (As := [.int (nI k321), .int (nI 3), .int (nI 0)]) (rest := []) hG hR dX12_person_134 (lkX12_97 _ rfl) okV_X12_sets rfl rfl (m_sets (d := 2) (e := 14 * k321 + 113) (by omega) (by omega) (by omega)) rfl rfl hdd (Nat.le_refl _) (Nat.le_refl _) (by decide) (pm_kv (fun σ' cnt' hq => ?_))
                obtain ⟨rfl, rfl⟩ := hq
                obtain ⟨n_346, en_346⟩ : ∃ f : Nat → Int32, f = upd n_340 (14 * k321 + 113) (nI 0) := ⟨_, rfl⟩
                rw [← en_346]
                have hnn_346 := KI.w en_346 hnn_340 (okv_o (show kd (14 * k321 + 113) = (2, 20, false) from (kd_P (k := k321) (c := 3) (by omega) (by omega) (by decide))) (by omega))
                have hrn_346 := NRx.w en_346 hrn_340 (by rw [(show kd (14 * k321 + 113) = (2, 20, false) from (kd_P (k := k321) (c := 3) (by omega) (by omega) (by decide)))])
                have e347 : n_346 11 = nI kc11 := by rw [en_346, pk_un (by omega)]; exact e341
                have e348 : n_346 8 = nI k4 := by rw [en_346, pk_un (by omega)]; exact e342
                have e349 : n_346 0 = nI k317 := by rw [en_346, pk_un (by omega)]; exact e343
                have e350 : n_346 2 = nI (k321 + 1) := by rw [en_346, pk_un (by omega)]; exact e344
                have e351 : n_346 (14 * k321 + 113) = nI 0 := by rw [en_346, pk_us]
                refine pm_iincX (v := nI 4) (loc' := [some (.ref (B + 54)), some (.int za), some (.int zb), some (.int zc), some (.int zd), some (.int (nI 1)), some (.int (nI k321)), some (.int (nI 4))]) hG dX12_person_137 rfl (nI_1 _) (by decide) (pm_c1b rfl) rfl ?_
                refine pm_goto (tgt := 121) hG dX12_person_140 rfl ?_
                refine pm_iloadi hG dX12_person_121 rfl ?_
                refine pm_bipush (v := nI 14) hG dX12_person_123 (by decide) ?_
                refine pm_icmpN_ge (tgt := 143) hG dX12_person_125 rfl (by omega) (by omega) (fun q => absurd q (by omega)) (fun _ => ?_)
                refine pm_aloadn hG dX12_person_128 rfl ?_
                refine pm_iloadi hG dX12_person_129 rfl ?_
                refine pm_iloadi hG dX12_person_131 rfl ?_
                refine pm_iconst (v := nI 0) hG dX12_person_133 (by decide) ?_
                refine pm_callV (As := [.int (nI k321), .int (nI 4), .int (nI 0)]) (rest := []) hG hR dX12_person_134 (lkX12_97 _ rfl) okV_X12_sets rfl rfl (m_sets (d := 2) (e := 14 * k321 + 114) (by omega) (by omega) (by omega)) rfl rfl hdd (Nat.le_refl _) (Nat.le_refl _) (by decide) (pm_kv (fun σ' cnt' hq => ?_))
                obtain ⟨rfl, rfl⟩ := hq
                obtain ⟨n_352, en_352⟩ : ∃ f : Nat → Int32, f = upd n_346 (14 * k321 + 114) (nI 0) := ⟨_, rfl⟩
                rw [← en_352]
                have hnn_352 := KI.w en_352 hnn_346 (okv_o (show kd (14 * k321 + 114) = (2, 10, false) from (kd_P (k := k321) (c := 4) (by omega) (by omega) (by decide))) (by omega))
                have hrn_352 := NRx.w en_352 hrn_346 (by rw [(show kd (14 * k321 + 114) = (2, 10, false) from (kd_P (k := k321) (c := 4) (by omega) (by omega) (by decide)))])
                have e353 : n_352 11 = nI kc11 := by rw [en_352, pk_un (by omega)]; exact e347
                have e354 : n_352 8 = nI k4 := by rw [en_352, pk_un (by omega)]; exact e348
                have e355 : n_352 0 = nI k317 := by rw [en_352, pk_un (by omega)]; exact e349
                have e356 : n_352 2 = nI (k321 + 1) := by rw [en_352, pk_un (by omega)]; exact e350
                have e357 : n_352 (14 * k321 + 114) = nI 0 := by rw [en_352, pk_us]
                refine pm_iincX (v := nI 5) (loc' := [some (.ref (B + 54)), some (.int za), some (.int zb), some (.int zc), some (.int zd), some (.int (nI 1)), some (.int (nI k321)), some (.int (nI 5))]) hG dX12_person_137 rfl (nI_1 _) (by decide) (pm_c1b rfl) rfl ?_
                refine pm_goto (tgt := 121) hG dX12_person_140 rfl ?_
                refine pm_iloadi hG dX12_person_121 rfl ?_
                refine pm_bipush (v := nI 14) hG dX12_person_123 (by decide) ?_
                refine pm_icmpN_ge (tgt := 143) hG dX12_person_125 rfl (by omega) (by omega) (fun q => absurd q (by omega)) (fun _ => ?_)
                refine pm_aloadn hG dX12_person_128 rfl ?_
                refine pm_iloadi hG dX12_person_129 rfl ?_
                refine pm_iloadi hG dX12_person_131 rfl ?_
                refine pm_iconst (v := nI 0) hG dX12_person_133 (by decide) ?_
                refine pm_callV (As := [.int (nI k321), .int (nI 5), .int (nI 0)]) (rest := []) hG hR dX12_person_134 (lkX12_97 _ rfl) okV_X12_sets rfl rfl (m_sets (d := 2) (e := 14 * k321 + 115) (by omega) (by omega) (by omega)) rfl rfl hdd (Nat.le_refl _) (Nat.le_refl _) (by decide) (pm_kv (fun σ' cnt' hq => ?_))
                obtain ⟨rfl, rfl⟩ := hq
                obtain ⟨n_358, en_358⟩ : ∃ f : Nat → Int32, f = upd n_352 (14 * k321 + 115) (nI 0) := ⟨_, rfl⟩
                rw [← en_358]
                have hnn_358 := KI.w en_358 hnn_352 (okv_n (show kd (14 * k321 + 115) = (1, 10, false) from (kd_P (k := k321) (c := 5) (by omega) (by omega) (by decide))) (by omega))
                have hrn_358 := NRx.w en_358 hrn_352 (by rw [(show kd (14 * k321 + 115) = (1, 10, false) from (kd_P (k := k321) (c := 5) (by omega) (by omega) (by decide)))])
                have e359 : n_358 11 = nI kc11 := by rw [en_358, pk_un (by omega)]; exact e353
                have e360 : n_358 8 = nI k4 := by rw [en_358, pk_un (by omega)]; exact e354
                have e361 : n_358 0 = nI k317 := by rw [en_358, pk_un (by omega)]; exact e355
                have e362 : n_358 2 = nI (k321 + 1) := by rw [en_358, pk_un (by omega)]; exact e356
                have e363 : n_358 (14 * k321 + 115) = nI 0 := by rw [en_358, pk_us]
                refine pm_iincX (v := nI 6) (loc' := [some (.ref (B + 54)), some (.int za), some (.int zb), some (.int zc), some (.int zd), some (.int (nI 1)), some (.int (nI k321)), some (.int (nI 6))]) hG dX12_person_137 rfl (nI_1 _) (by decide) (pm_c1b rfl) rfl ?_
                refine pm_goto (tgt := 121) hG dX12_person_140 rfl ?_
                refine pm_iloadi hG dX12_person_121 rfl ?_
                refine pm_bipush (v := nI 14) hG dX12_person_123 (by decide) ?_
                refine pm_icmpN_ge (tgt := 143) hG dX12_person_125 rfl (by omega) (by omega) (fun q => absurd q (by omega)) (fun _ => ?_)
                refine pm_aloadn hG dX12_person_128 rfl ?_
                refine pm_iloadi hG dX12_person_129 rfl ?_
                refine pm_iloadi hG dX12_person_131 rfl ?_
                refine pm_iconst (v := nI 0) hG dX12_person_133 (by decide) ?_
                refine pm_callV (As := [.int (nI k321), .int (nI 6), .int (nI 0)]) (rest := []) hG hR dX12_person_134 (lkX12_97 _ rfl) okV_X12_sets rfl rfl (m_sets (d := 2) (e := 14 * k321 + 116) (by omega) (by omega) (by omega)) rfl rfl hdd (Nat.le_refl _) (Nat.le_refl _) (by decide) (pm_kv (fun σ' cnt' hq => ?_))
                obtain ⟨rfl, rfl⟩ := hq
                obtain ⟨n_364, en_364⟩ : ∃ f : Nat → Int32, f = upd n_358 (14 * k321 + 116) (nI 0) := ⟨_, rfl⟩
                rw [← en_364]
                have hnn_364 := KI.w en_364 hnn_358 (okv_f (show kd (14 * k321 + 116) = (0, 0, false) from (kd_P (k := k321) (c := 6) (by omega) (by omega) (by decide))))
                have hrn_364 := NRx.w en_364 hrn_358 (by rw [(show kd (14 * k321 + 116) = (0, 0, false) from (kd_P (k := k321) (c := 6) (by omega) (by omega) (by decide)))])
                have e365 : n_364 11 = nI kc11 := by rw [en_364, pk_un (by omega)]; exact e359
                have e366 : n_364 8 = nI k4 := by rw [en_364, pk_un (by omega)]; exact e360
                have e367 : n_364 0 = nI k317 := by rw [en_364, pk_un (by omega)]; exact e361
                have e368 : n_364 2 = nI (k321 + 1) := by rw [en_364, pk_un (by omega)]; exact e362
                have e369 : n_364 (14 * k321 + 116) = nI 0 := by rw [en_364, pk_us]
                refine pm_iincX (v := nI 7) (loc' := [some (.ref (B + 54)), some (.int za), some (.int zb), some (.int zc), some (.int zd), some (.int (nI 1)), some (.int (nI k321)), some (.int (nI 7))]) hG dX12_person_137 rfl (nI_1 _) (by decide) (pm_c1b rfl) rfl ?_
                refine pm_goto (tgt := 121) hG dX12_person_140 rfl ?_
                refine pm_iloadi hG dX12_person_121 rfl ?_
                refine pm_bipush (v := nI 14) hG dX12_person_123 (by decide) ?_
                refine pm_icmpN_ge (tgt := 143) hG dX12_person_125 rfl (by omega) (by omega) (fun q => absurd q (by omega)) (fun _ => ?_)
                refine pm_aloadn hG dX12_person_128 rfl ?_
                refine pm_iloadi hG dX12_person_129 rfl ?_
                refine pm_iloadi hG dX12_person_131 rfl ?_
                refine pm_iconst (v := nI 0) hG dX12_person_133 (by decide) ?_
                refine pm_callV (As := [.int (nI k321), .int (nI 7), .int (nI 0)]) (rest := []) hG hR dX12_person_134 (lkX12_97 _ rfl) okV_X12_sets rfl rfl (m_sets (d := 2) (e := 14 * k321 + 117) (by omega) (by omega) (by omega)) rfl rfl hdd (Nat.le_refl _) (Nat.le_refl _) (by decide) (pm_kv (fun σ' cnt' hq => ?_))
                obtain ⟨rfl, rfl⟩ := hq
                obtain ⟨n_370, en_370⟩ : ∃ f : Nat → Int32, f = upd n_364 (14 * k321 + 117) (nI 0) := ⟨_, rfl⟩
                rw [← en_370]
                have hnn_370 := KI.w en_370 hnn_364 (okv_f (show kd (14 * k321 + 117) = (0, 0, false) from (kd_P (k := k321) (c := 7) (by omega) (by omega) (by decide))))
                have hrn_370 := NRx.w en_370 hrn_364 (by rw [(show kd (14 * k321 + 117) = (0, 0, false) from (kd_P (k := k321) (c := 7) (by omega) (by omega) (by decide)))])
                have e371 : n_370 11 = nI kc11 := by rw [en_370, pk_un (by omega)]; exact e365
                have e372 : n_370 8 = nI k4 := by rw [en_370, pk_un (by omega)]; exact e366
                have e373 : n_370 0 = nI k317 := by rw [en_370, pk_un (by omega)]; exact e367
                have e374 : n_370 2 = nI (k321 + 1) := by rw [en_370, pk_un (by omega)]; exact e368
                have e375 : n_370 (14 * k321 + 117) = nI 0 := by rw [en_370, pk_us]
                refine pm_iincX (v := nI 8) (loc' := [some (.ref (B + 54)), some (.int za), some (.int zb), some (.int zc), some (.int zd), some (.int (nI 1)), some (.int (nI k321)), some (.int (nI 8))]) hG dX12_person_137 rfl (nI_1 _) (by decide) (pm_c1b rfl) rfl ?_
                refine pm_goto (tgt := 121) hG dX12_person_140 rfl ?_
                refine pm_iloadi hG dX12_person_121 rfl ?_
                refine pm_bipush (v := nI 14) hG dX12_person_123 (by decide) ?_
                refine pm_icmpN_ge (tgt := 143) hG dX12_person_125 rfl (by omega) (by omega) (fun q => absurd q (by omega)) (fun _ => ?_)
                refine pm_aloadn hG dX12_person_128 rfl ?_
                refine pm_iloadi hG dX12_person_129 rfl ?_
                refine pm_iloadi hG dX12_person_131 rfl ?_
                refine pm_iconst (v := nI 0) hG dX12_person_133 (by decide) ?_
                refine pm_callV (As := [.int (nI k321), .int (nI 8), .int (nI 0)]) (rest := []) hG hR dX12_person_134 (lkX12_97 _ rfl) okV_X12_sets rfl rfl (m_sets (d := 2) (e := 14 * k321 + 118) (by omega) (by omega) (by omega)) rfl rfl hdd (Nat.le_refl _) (Nat.le_refl _) (by decide) (pm_kv (fun σ' cnt' hq => ?_))
                obtain ⟨rfl, rfl⟩ := hq
                obtain ⟨n_376, en_376⟩ : ∃ f : Nat → Int32, f = upd n_370 (14 * k321 + 118) (nI 0) := ⟨_, rfl⟩
                rw [← en_376]
                have hnn_376 := KI.w en_376 hnn_370 (okv_f (show kd (14 * k321 + 118) = (0, 0, false) from (kd_P (k := k321) (c := 8) (by omega) (by omega) (by decide))))
                have hrn_376 := NRx.w en_376 hrn_370 (by rw [(show kd (14 * k321 + 118) = (0, 0, false) from (kd_P (k := k321) (c := 8) (by omega) (by omega) (by decide)))])
                have e377 : n_376 11 = nI kc11 := by rw [en_376, pk_un (by omega)]; exact e371
                have e378 : n_376 8 = nI k4 := by rw [en_376, pk_un (by omega)]; exact e372
                have e379 : n_376 0 = nI k317 := by rw [en_376, pk_un (by omega)]; exact e373
                have e380 : n_376 2 = nI (k321 + 1) := by rw [en_376, pk_un (by omega)]; exact e374
                have e381 : n_376 (14 * k321 + 118) = nI 0 := by rw [en_376, pk_us]
                refine pm_iincX (v := nI 9) (loc' := [some (.ref (B + 54)), some (.int za), some (.int zb), some (.int zc), some (.int zd), some (.int (nI 1)), some (.int (nI k321)), some (.int (nI 9))]) hG dX12_person_137 rfl (nI_1 _) (by decide) (pm_c1b rfl) rfl ?_
                refine pm_goto (tgt := 121) hG dX12_person_140 rfl ?_
                refine pm_iloadi hG dX12_person_121 rfl ?_
                refine pm_bipush (v := nI 14) hG dX12_person_123 (by decide) ?_
                refine pm_icmpN_ge (tgt := 143) hG dX12_person_125 rfl (by omega) (by omega) (fun q => absurd q (by omega)) (fun _ => ?_)
                refine pm_aloadn hG dX12_person_128 rfl ?_
                refine pm_iloadi hG dX12_person_129 rfl ?_
                refine pm_iloadi hG dX12_person_131 rfl ?_
                refine pm_iconst (v := nI 0) hG dX12_person_133 (by decide) ?_
                refine pm_callV (As := [.int (nI k321), .int (nI 9), .int (nI 0)]) (rest := []) hG hR dX12_person_134 (lkX12_97 _ rfl) okV_X12_sets rfl rfl (m_sets (d := 2) (e := 14 * k321 + 119) (by omega) (by omega) (by omega)) rfl rfl hdd (Nat.le_refl _) (Nat.le_refl _) (by decide) (pm_kv (fun σ' cnt' hq => ?_))
                obtain ⟨rfl, rfl⟩ := hq
                obtain ⟨n_382, en_382⟩ : ∃ f : Nat → Int32, f = upd n_376 (14 * k321 + 119) (nI 0) := ⟨_, rfl⟩
                rw [← en_382]
                have hnn_382 := KI.w en_382 hnn_376 (okv_o (show kd (14 * k321 + 119) = (2, 2001, false) from (kd_P (k := k321) (c := 9) (by omega) (by omega) (by decide))) (by omega))
                have hrn_382 := NRx.w en_382 hrn_376 (by rw [(show kd (14 * k321 + 119) = (2, 2001, false) from (kd_P (k := k321) (c := 9) (by omega) (by omega) (by decide)))])
                have e383 : n_382 11 = nI kc11 := by rw [en_382, pk_un (by omega)]; exact e377
                have e384 : n_382 8 = nI k4 := by rw [en_382, pk_un (by omega)]; exact e378
                have e385 : n_382 0 = nI k317 := by rw [en_382, pk_un (by omega)]; exact e379
                have e386 : n_382 2 = nI (k321 + 1) := by rw [en_382, pk_un (by omega)]; exact e380
                have e387 : n_382 (14 * k321 + 119) = nI 0 := by rw [en_382, pk_us]
                refine pm_iincX (v := nI 10) (loc' := [some (.ref (B + 54)), some (.int za), some (.int zb), some (.int zc), some (.int zd), some (.int (nI 1)), some (.int (nI k321)), some (.int (nI 10))]) hG dX12_person_137 rfl (nI_1 _) (by decide) (pm_c1b rfl) rfl ?_
                refine pm_goto (tgt := 121) hG dX12_person_140 rfl ?_
                refine pm_iloadi hG dX12_person_121 rfl ?_
                refine pm_bipush (v := nI 14) hG dX12_person_123 (by decide) ?_
                refine pm_icmpN_ge (tgt := 143) hG dX12_person_125 rfl (by omega) (by omega) (fun q => absurd q (by omega)) (fun _ => ?_)
                refine pm_aloadn hG dX12_person_128 rfl ?_
                refine pm_iloadi hG dX12_person_129 rfl ?_
                refine pm_iloadi hG dX12_person_131 rfl ?_
                refine pm_iconst (v := nI 0) hG dX12_person_133 (by decide) ?_
                refine pm_callV (As := [.int (nI k321), .int (nI 10), .int (nI 0)]) (rest := []) hG hR dX12_person_134 (lkX12_97 _ rfl) okV_X12_sets rfl rfl (m_sets (d := 2) (e := 14 * k321 + 120) (by omega) (by omega) (by omega)) rfl rfl hdd (Nat.le_refl _) (Nat.le_refl _) (by decide) (pm_kv (fun σ' cnt' hq => ?_))
                obtain ⟨rfl, rfl⟩ := hq
                obtain ⟨n_388, en_388⟩ : ∃ f : Nat → Int32, f = upd n_382 (14 * k321 + 120) (nI 0) := ⟨_, rfl⟩
                rw [← en_388]
                have hnn_388 := KI.w en_388 hnn_382 (okv_f (show kd (14 * k321 + 120) = (0, 0, false) from (kd_P (k := k321) (c := 10) (by omega) (by omega) (by decide))))
                have hrn_388 := NRx.w en_388 hrn_382 (by rw [(show kd (14 * k321 + 120) = (0, 0, false) from (kd_P (k := k321) (c := 10) (by omega) (by omega) (by decide)))])
                have e389 : n_388 11 = nI kc11 := by rw [en_388, pk_un (by omega)]; exact e383
                have e390 : n_388 8 = nI k4 := by rw [en_388, pk_un (by omega)]; exact e384
                have e391 : n_388 0 = nI k317 := by rw [en_388, pk_un (by omega)]; exact e385
                have e392 : n_388 2 = nI (k321 + 1) := by rw [en_388, pk_un (by omega)]; exact e386
                have e393 : n_388 (14 * k321 + 120) = nI 0 := by rw [en_388, pk_us]
                refine pm_iincX (v := nI 11) (loc' := [some (.ref (B + 54)), some (.int za), some (.int zb), some (.int zc), some (.int zd), some (.int (nI 1)), some (.int (nI k321)), some (.int (nI 11))]) hG dX12_person_137 rfl (nI_1 _) (by decide) (pm_c1b rfl) rfl ?_
                refine pm_goto (tgt := 121) hG dX12_person_140 rfl ?_
                refine pm_iloadi hG dX12_person_121 rfl ?_
                refine pm_bipush (v := nI 14) hG dX12_person_123 (by decide) ?_
                refine pm_icmpN_ge (tgt := 143) hG dX12_person_125 rfl (by omega) (by omega) (fun q => absurd q (by omega)) (fun _ => ?_)
                refine pm_aloadn hG dX12_person_128 rfl ?_
                refine pm_iloadi hG dX12_person_129 rfl ?_
                refine pm_iloadi hG dX12_person_131 rfl ?_
                refine pm_iconst (v := nI 0) hG dX12_person_133 (by decide) ?_
                refine pm_callV (As := [.int (nI k321), .int (nI 11), .int (nI 0)]) (rest := []) hG hR dX12_person_134 (lkX12_97 _ rfl) okV_X12_sets rfl rfl (m_sets (d := 2) (e := 14 * k321 + 121) (by omega) (by omega) (by omega)) rfl rfl hdd (Nat.le_refl _) (Nat.le_refl _) (by decide) (pm_kv (fun σ' cnt' hq => ?_))
                obtain ⟨rfl, rfl⟩ := hq
                obtain ⟨n_394, en_394⟩ : ∃ f : Nat → Int32, f = upd n_388 (14 * k321 + 121) (nI 0) := ⟨_, rfl⟩
                rw [← en_394]
                have hnn_394 := KI.w en_394 hnn_388 (okv_n (show kd (14 * k321 + 121) = (1, 2, true) from (kd_P (k := k321) (c := 11) (by omega) (by omega) (by decide))) (by omega))
                have hrn_394 := NRx.unseat (p := k321) en_394 hrn_388 (by omega)
                have e395 : n_394 11 = nI kc11 := by rw [en_394, pk_un (by omega)]; exact e389
                have e396 : n_394 8 = nI k4 := by rw [en_394, pk_un (by omega)]; exact e390
                have e397 : n_394 0 = nI k317 := by rw [en_394, pk_un (by omega)]; exact e391
                have e398 : n_394 2 = nI (k321 + 1) := by rw [en_394, pk_un (by omega)]; exact e392
                have e399 : n_394 (14 * k321 + 121) = nI 0 := by rw [en_394, pk_us]
                refine pm_iincX (v := nI 12) (loc' := [some (.ref (B + 54)), some (.int za), some (.int zb), some (.int zc), some (.int zd), some (.int (nI 1)), some (.int (nI k321)), some (.int (nI 12))]) hG dX12_person_137 rfl (nI_1 _) (by decide) (pm_c1b rfl) rfl ?_
                refine pm_goto (tgt := 121) hG dX12_person_140 rfl ?_
                refine pm_iloadi hG dX12_person_121 rfl ?_
                refine pm_bipush (v := nI 14) hG dX12_person_123 (by decide) ?_
                refine pm_icmpN_ge (tgt := 143) hG dX12_person_125 rfl (by omega) (by omega) (fun q => absurd q (by omega)) (fun _ => ?_)
                refine pm_aloadn hG dX12_person_128 rfl ?_
                refine pm_iloadi hG dX12_person_129 rfl ?_
                refine pm_iloadi hG dX12_person_131 rfl ?_
                refine pm_iconst (v := nI 0) hG dX12_person_133 (by decide) ?_
                refine pm_callV (As := [.int (nI k321), .int (nI 12), .int (nI 0)]) (rest := []) hG hR dX12_person_134 (lkX12_97 _ rfl) okV_X12_sets rfl rfl (m_sets (d := 2) (e := 14 * k321 + 122) (by omega) (by omega) (by omega)) rfl rfl hdd (Nat.le_refl _) (Nat.le_refl _) (by decide) (pm_kv (fun σ' cnt' hq => ?_))
                obtain ⟨rfl, rfl⟩ := hq
                obtain ⟨n_400, en_400⟩ : ∃ f : Nat → Int32, f = upd n_394 (14 * k321 + 122) (nI 0) := ⟨_, rfl⟩
                rw [← en_400]
                have hnn_400 := KI.w en_400 hnn_394 (okv_f (show kd (14 * k321 + 122) = (0, 0, false) from (kd_P (k := k321) (c := 12) (by omega) (by omega) (by decide))))
                have hrn_400 := NRx.w en_400 hrn_394 (by rw [(show kd (14 * k321 + 122) = (0, 0, false) from (kd_P (k := k321) (c := 12) (by omega) (by omega) (by decide)))])
                have e401 : n_400 11 = nI kc11 := by rw [en_400, pk_un (by omega)]; exact e395
                have e402 : n_400 8 = nI k4 := by rw [en_400, pk_un (by omega)]; exact e396
                have e403 : n_400 0 = nI k317 := by rw [en_400, pk_un (by omega)]; exact e397
                have e404 : n_400 2 = nI (k321 + 1) := by rw [en_400, pk_un (by omega)]; exact e398
                have e405 : n_400 (14 * k321 + 122) = nI 0 := by rw [en_400, pk_us]
                refine pm_iincX (v := nI 13) (loc' := [some (.ref (B + 54)), some (.int za), some (.int zb), some (.int zc), some (.int zd), some (.int (nI 1)), some (.int (nI k321)), some (.int (nI 13))]) hG dX12_person_137 rfl (nI_1 _) (by decide) (pm_c1b rfl) rfl ?_
                refine pm_goto (tgt := 121) hG dX12_person_140 rfl ?_
                refine pm_iloadi hG dX12_person_121 rfl ?_
                refine pm_bipush (v := nI 14) hG dX12_person_123 (by decide) ?_
                refine pm_icmpN_ge (tgt := 143) hG dX12_person_125 rfl (by omega) (by omega) (fun q => absurd q (by omega)) (fun _ => ?_)
                refine pm_aloadn hG dX12_person_128 rfl ?_
                refine pm_iloadi hG dX12_person_129 rfl ?_
                refine pm_iloadi hG dX12_person_131 rfl ?_
                refine pm_iconst (v := nI 0) hG dX12_person_133 (by decide) ?_
                refine pm_callV (As := [.int (nI k321), .int (nI 13), .int (nI 0)]) (rest := []) hG hR dX12_person_134 (lkX12_97 _ rfl) okV_X12_sets rfl rfl (m_sets (d := 2) (e := 14 * k321 + 123) (by omega) (by omega) (by omega)) rfl rfl hdd (Nat.le_refl _) (Nat.le_refl _) (by decide) (pm_kv (fun σ' cnt' hq => ?_))
                obtain ⟨rfl, rfl⟩ := hq
                obtain ⟨n_406, en_406⟩ : ∃ f : Nat → Int32, f = upd n_400 (14 * k321 + 123) (nI 0) := ⟨_, rfl⟩
                rw [← en_406]
                have hnn_406 := KI.w en_406 hnn_400 (okv_f (show kd (14 * k321 + 123) = (0, 0, false) from (kd_P (k := k321) (c := 13) (by omega) (by omega) (by decide))))
                have hrn_406 := NRx.w en_406 hrn_400 (by rw [(show kd (14 * k321 + 123) = (0, 0, false) from (kd_P (k := k321) (c := 13) (by omega) (by omega) (by decide)))])
                have e407 : n_406 11 = nI kc11 := by rw [en_406, pk_un (by omega)]; exact e401
                have e408 : n_406 8 = nI k4 := by rw [en_406, pk_un (by omega)]; exact e402
                have e409 : n_406 0 = nI k317 := by rw [en_406, pk_un (by omega)]; exact e403
                have e410 : n_406 2 = nI (k321 + 1) := by rw [en_406, pk_un (by omega)]; exact e404
                have e411 : n_406 (14 * k321 + 123) = nI 0 := by rw [en_406, pk_us]
                refine pm_iincX (v := nI 14) (loc' := [some (.ref (B + 54)), some (.int za), some (.int zb), some (.int zc), some (.int zd), some (.int (nI 1)), some (.int (nI k321)), some (.int (nI 14))]) hG dX12_person_137 rfl (nI_1 _) (by decide) (pm_c1b rfl) rfl ?_
                refine pm_goto (tgt := 121) hG dX12_person_140 rfl ?_
                refine pm_iloadi hG dX12_person_121 rfl ?_
                refine pm_bipush (v := nI 14) hG dX12_person_123 (by decide) ?_
                refine pm_icmpN_ge (tgt := 143) hG dX12_person_125 rfl (by omega) (by omega) (fun _ => ?_) (fun q => absurd q (by omega))
                refine pm_aloadn hG dX12_person_143 rfl ?_
                refine pm_iloadi hG dX12_person_144 rfl ?_
                refine pm_iconst (v := nI 0) hG dX12_person_146 (by decide) ?_
                refine pm_iloadn hG dX12_person_147 rfl ?_
                refine pm_top (v := nI k3) ek3 ?_
                refine pm_callV (As := [.int (nI k321), .int (nI 0), .int (nI k3)]) (rest := []) hG hR dX12_person_148 (lkX12_97 _ rfl) okV_X12_sets rfl rfl (m_sets (d := 2) (e := 14 * k321 + 110) (by omega) (by omega) (by omega)) rfl rfl hdd (Nat.le_refl _) (Nat.le_refl _) (by decide) (pm_kv (fun σ' cnt' hq => ?_))
                obtain ⟨rfl, rfl⟩ := hq
                obtain ⟨n_412, en_412⟩ : ∃ f : Nat → Int32, f = upd n_406 (14 * k321 + 110) (nI k3) := ⟨_, rfl⟩
                rw [← en_412]
                have hnn_412 := KI.w en_412 hnn_406 (okv_f (show kd (14 * k321 + 110) = (0, 0, false) from (kd_P (k := k321) (c := 0) (by omega) (by omega) (by decide))))
                have hrn_412 := NRx.w en_412 hrn_406 (by rw [(show kd (14 * k321 + 110) = (0, 0, false) from (kd_P (k := k321) (c := 0) (by omega) (by omega) (by decide)))])
                have e413 : n_412 11 = nI kc11 := by rw [en_412, pk_un (by omega)]; exact e407
                have e414 : n_412 8 = nI k4 := by rw [en_412, pk_un (by omega)]; exact e408
                have e415 : n_412 0 = nI k317 := by rw [en_412, pk_un (by omega)]; exact e409
                have e416 : n_412 2 = nI (k321 + 1) := by rw [en_412, pk_un (by omega)]; exact e410
                have e417 : n_412 (14 * k321 + 110) = nI k3 := by rw [en_412, pk_us]
                refine pm_aloadn hG dX12_person_151 rfl ?_
                refine pm_iloadi hG dX12_person_152 rfl ?_
                refine pm_iconst (v := nI 1) hG dX12_person_154 (by decide) ?_
                refine pm_iloadn hG dX12_person_155 rfl ?_
                refine pm_callV (As := [.int (nI k321), .int (nI 1), .int zb]) (rest := []) hG hR dX12_person_156 (lkX12_97 _ rfl) okV_X12_sets rfl rfl (m_sets (d := 2) (e := 14 * k321 + 111) (by omega) (by omega) (by omega)) rfl rfl hdd (Nat.le_refl _) (Nat.le_refl _) (by decide) (pm_kv (fun σ' cnt' hq => ?_))
                obtain ⟨rfl, rfl⟩ := hq
                obtain ⟨n_418, en_418⟩ : ∃ f : Nat → Int32, f = upd n_412 (14 * k321 + 111) zb := ⟨_, rfl⟩
                rw [← en_418]
                have hnn_418 := KI.w en_418 hnn_412 (okv_f (show kd (14 * k321 + 111) = (0, 0, false) from (kd_P (k := k321) (c := 1) (by omega) (by omega) (by decide))))
                have hrn_418 := NRx.w en_418 hrn_412 (by rw [(show kd (14 * k321 + 111) = (0, 0, false) from (kd_P (k := k321) (c := 1) (by omega) (by omega) (by decide)))])
                have e419 : n_418 11 = nI kc11 := by rw [en_418, pk_un (by omega)]; exact e413
                have e420 : n_418 8 = nI k4 := by rw [en_418, pk_un (by omega)]; exact e414
                have e421 : n_418 0 = nI k317 := by rw [en_418, pk_un (by omega)]; exact e415
                have e422 : n_418 2 = nI (k321 + 1) := by rw [en_418, pk_un (by omega)]; exact e416
                have e423 : n_418 (14 * k321 + 111) = zb := by rw [en_418, pk_us]
                refine pm_aloadn hG dX12_person_159 rfl ?_
                refine pm_iloadi hG dX12_person_160 rfl ?_
                refine pm_iconst (v := nI 2) hG dX12_person_162 (by decide) ?_
                refine pm_iloadn hG dX12_person_163 rfl ?_
                refine pm_top (v := nI k10) ek10 ?_
                refine pm_bipush (v := nI 100) hG dX12_person_164 (by decide) ?_
                refine pm_idivN hG dX12_person_166 (by omega) (by decide) (by decide) ?_
                refine pm_iconst (v := nI 1) hG dX12_person_167 (by decide) ?_
                refine pm_isub hG dX12_person_168 ?_
                refine pm_top (v := nI k12) ek12 ?_
                refine pm_callV (As := [.int (nI k321), .int (nI 2), .int (nI k12)]) (rest := []) hG hR dX12_person_169 (lkX12_97 _ rfl) okV_X12_sets rfl rfl (m_sets (d := 2) (e := 14 * k321 + 112) (by omega) (by omega) (by omega)) rfl rfl hdd (Nat.le_refl _) (Nat.le_refl _) (by decide) (pm_kv (fun σ' cnt' hq => ?_))
                obtain ⟨rfl, rfl⟩ := hq
                obtain ⟨n_424, en_424⟩ : ∃ f : Nat → Int32, f = upd n_418 (14 * k321 + 112) (nI k12) := ⟨_, rfl⟩
                rw [← en_424]
                have hnn_424 := KI.w en_424 hnn_418 (okv_o (show kd (14 * k321 + 112) = (2, 20, false) from (kd_P (k := k321) (c := 2) (by omega) (by omega) (by decide))) (by omega))
                have hrn_424 := NRx.w en_424 hrn_418 (by rw [(show kd (14 * k321 + 112) = (2, 20, false) from (kd_P (k := k321) (c := 2) (by omega) (by omega) (by decide)))])
                have e425 : n_424 11 = nI kc11 := by rw [en_424, pk_un (by omega)]; exact e419
                have e426 : n_424 8 = nI k4 := by rw [en_424, pk_un (by omega)]; exact e420
                have e427 : n_424 0 = nI k317 := by rw [en_424, pk_un (by omega)]; exact e421
                have e428 : n_424 2 = nI (k321 + 1) := by rw [en_424, pk_un (by omega)]; exact e422
                have e429 : n_424 (14 * k321 + 112) = nI k12 := by rw [en_424, pk_us]
                refine pm_aloadn hG dX12_person_172 rfl ?_
                refine pm_iloadi hG dX12_person_173 rfl ?_
                refine pm_iconst (v := nI 3) hG dX12_person_175 (by decide) ?_
                refine pm_iloadn hG dX12_person_176 rfl ?_
                refine pm_top (v := nI k10) ek10 ?_
                refine pm_bipush (v := nI 100) hG dX12_person_177 (by decide) ?_
                refine pm_iremM hG dX12_person_179 (by omega) (by decide) (by decide) ?_
                refine pm_iconst (v := nI 1) hG dX12_person_180 (by decide) ?_
                refine pm_isub hG dX12_person_181 ?_
                refine pm_top (v := (-1)) ek314 ?_
                refine pm_callV (As := [.int (nI k321), .int (nI 3), .int (-1)]) (rest := []) hG hR dX12_person_182 (lkX12_97 _ rfl) okV_X12_sets rfl rfl (m_sets (d := 2) (e := 14 * k321 + 113) (by omega) (by omega) (by omega)) rfl rfl hdd (Nat.le_refl _) (Nat.le_refl _) (by decide) (pm_kv (fun σ' cnt' hq => ?_))
                obtain ⟨rfl, rfl⟩ := hq
                obtain ⟨n_430, en_430⟩ : ∃ f : Nat → Int32, f = upd n_424 (14 * k321 + 113) (-1) := ⟨_, rfl⟩
                rw [← en_430]
                have hnn_430 := KI.w en_430 hnn_424 (okv_m (show kd (14 * k321 + 113) = (2, 20, false) from (kd_P (k := k321) (c := 3) (by omega) (by omega) (by decide))))
                have hrn_430 := NRx.w en_430 hrn_424 (by rw [(show kd (14 * k321 + 113) = (2, 20, false) from (kd_P (k := k321) (c := 3) (by omega) (by omega) (by decide)))])
                have e431 : n_430 11 = nI kc11 := by rw [en_430, pk_un (by omega)]; exact e425
                have e432 : n_430 8 = nI k4 := by rw [en_430, pk_un (by omega)]; exact e426
                have e433 : n_430 0 = nI k317 := by rw [en_430, pk_un (by omega)]; exact e427
                have e434 : n_430 2 = nI (k321 + 1) := by rw [en_430, pk_un (by omega)]; exact e428
                have e435 : n_430 (14 * k321 + 113) = (-1) := by rw [en_430, pk_us]
                refine pm_aloadn hG dX12_person_185 rfl ?_
                refine pm_iloadi hG dX12_person_186 rfl ?_
                refine pm_iconst (v := nI 4) hG dX12_person_188 (by decide) ?_
                refine pm_iloadi hG dX12_person_189 rfl ?_
                refine pm_top (v := nI k320) ek320 ?_
                refine pm_callV (As := [.int (nI k321), .int (nI 4), .int (nI k320)]) (rest := []) hG hR dX12_person_191 (lkX12_97 _ rfl) okV_X12_sets rfl rfl (m_sets (d := 2) (e := 14 * k321 + 114) (by omega) (by omega) (by omega)) rfl rfl hdd (Nat.le_refl _) (Nat.le_refl _) (by decide) (pm_kv (fun σ' cnt' hq => ?_))
                obtain ⟨rfl, rfl⟩ := hq
                obtain ⟨n_436, en_436⟩ : ∃ f : Nat → Int32, f = upd n_430 (14 * k321 + 114) (nI k320) := ⟨_, rfl⟩
                rw [← en_436]
                have hnn_436 := KI.w en_436 hnn_430 (okv_o (show kd (14 * k321 + 114) = (2, 10, false) from (kd_P (k := k321) (c := 4) (by omega) (by omega) (by decide))) (by omega))
                have hrn_436 := NRx.w en_436 hrn_430 (by rw [(show kd (14 * k321 + 114) = (2, 10, false) from (kd_P (k := k321) (c := 4) (by omega) (by omega) (by decide)))])
                have e437 : n_436 11 = nI kc11 := by rw [en_436, pk_un (by omega)]; exact e431
                have e438 : n_436 8 = nI k4 := by rw [en_436, pk_un (by omega)]; exact e432
                have e439 : n_436 0 = nI k317 := by rw [en_436, pk_un (by omega)]; exact e433
                have e440 : n_436 2 = nI (k321 + 1) := by rw [en_436, pk_un (by omega)]; exact e434
                have e441 : n_436 (14 * k321 + 114) = nI k320 := by rw [en_436, pk_us]
                refine pm_aloadn hG dX12_person_194 rfl ?_
                refine pm_iloadi hG dX12_person_195 rfl ?_
                refine pm_bipush (v := nI 9) hG dX12_person_197 (by decide) ?_
                refine pm_iconst (v := (-1)) hG dX12_person_199 (by decide) ?_
                refine pm_callV (As := [.int (nI k321), .int (nI 9), .int (-1)]) (rest := []) hG hR dX12_person_200 (lkX12_97 _ rfl) okV_X12_sets rfl rfl (m_sets (d := 2) (e := 14 * k321 + 119) (by omega) (by omega) (by omega)) rfl rfl hdd (Nat.le_refl _) (Nat.le_refl _) (by decide) (pm_kv (fun σ' cnt' hq => ?_))
                obtain ⟨rfl, rfl⟩ := hq
                obtain ⟨n_442, en_442⟩ : ∃ f : Nat → Int32, f = upd n_436 (14 * k321 + 119) (-1) := ⟨_, rfl⟩
                rw [← en_442]
                have hnn_442 := KI.w en_442 hnn_436 (okv_m (show kd (14 * k321 + 119) = (2, 2001, false) from (kd_P (k := k321) (c := 9) (by omega) (by omega) (by decide))))
                have hrn_442 := NRx.w en_442 hrn_436 (by rw [(show kd (14 * k321 + 119) = (2, 2001, false) from (kd_P (k := k321) (c := 9) (by omega) (by omega) (by decide)))])
                have e443 : n_442 11 = nI kc11 := by rw [en_442, pk_un (by omega)]; exact e437
                have e444 : n_442 8 = nI k4 := by rw [en_442, pk_un (by omega)]; exact e438
                have e445 : n_442 0 = nI k317 := by rw [en_442, pk_un (by omega)]; exact e439
                have e446 : n_442 2 = nI (k321 + 1) := by rw [en_442, pk_un (by omega)]; exact e440
                have e447 : n_442 (14 * k321 + 119) = (-1) := by rw [en_442, pk_us]
                refine pm_aloadn hG dX12_person_203 rfl ?_
                refine pm_iloadi hG dX12_person_204 rfl ?_
                refine pm_bipush (v := nI 10) hG dX12_person_206 (by decide) ?_
                refine pm_iconst (v := (-1)) hG dX12_person_208 (by decide) ?_
                refine pm_callV (As := [.int (nI k321), .int (nI 10), .int (-1)]) (rest := []) hG hR dX12_person_209 (lkX12_97 _ rfl) okV_X12_sets rfl rfl (m_sets (d := 2) (e := 14 * k321 + 120) (by omega) (by omega) (by omega)) rfl rfl hdd (Nat.le_refl _) (Nat.le_refl _) (by decide) (pm_kv (fun σ' cnt' hq => ?_))
                obtain ⟨rfl, rfl⟩ := hq
                obtain ⟨n_448, en_448⟩ : ∃ f : Nat → Int32, f = upd n_442 (14 * k321 + 120) (-1) := ⟨_, rfl⟩
                rw [← en_448]
                have hnn_448 := KI.w en_448 hnn_442 (okv_f (show kd (14 * k321 + 120) = (0, 0, false) from (kd_P (k := k321) (c := 10) (by omega) (by omega) (by decide))))
                have hrn_448 := NRx.w en_448 hrn_442 (by rw [(show kd (14 * k321 + 120) = (0, 0, false) from (kd_P (k := k321) (c := 10) (by omega) (by omega) (by decide)))])
                have e449 : n_448 11 = nI kc11 := by rw [en_448, pk_un (by omega)]; exact e443
                have e450 : n_448 8 = nI k4 := by rw [en_448, pk_un (by omega)]; exact e444
                have e451 : n_448 0 = nI k317 := by rw [en_448, pk_un (by omega)]; exact e445
                have e452 : n_448 2 = nI (k321 + 1) := by rw [en_448, pk_un (by omega)]; exact e446
                have e453 : n_448 (14 * k321 + 120) = (-1) := by rw [en_448, pk_us]
                refine pm_aloadn hG dX12_person_212 rfl ?_
                refine pm_iloadi hG dX12_person_213 rfl ?_
                refine pm_bipush (v := nI 12) hG dX12_person_215 (by decide) ?_
                refine pm_iconst (v := nI 1) hG dX12_person_217 (by decide) ?_
                refine pm_callV (As := [.int (nI k321), .int (nI 12), .int (nI 1)]) (rest := []) hG hR dX12_person_218 (lkX12_97 _ rfl) okV_X12_sets rfl rfl (m_sets (d := 2) (e := 14 * k321 + 122) (by omega) (by omega) (by omega)) rfl rfl hdd (Nat.le_refl _) (Nat.le_refl _) (by decide) (pm_kv (fun σ' cnt' hq => ?_))
                obtain ⟨rfl, rfl⟩ := hq
                obtain ⟨n_454, en_454⟩ : ∃ f : Nat → Int32, f = upd n_448 (14 * k321 + 122) (nI 1) := ⟨_, rfl⟩
                rw [← en_454]
                have hnn_454 := KI.w en_454 hnn_448 (okv_f (show kd (14 * k321 + 122) = (0, 0, false) from (kd_P (k := k321) (c := 12) (by omega) (by omega) (by decide))))
                have hrn_454 := NRx.w en_454 hrn_448 (by rw [(show kd (14 * k321 + 122) = (0, 0, false) from (kd_P (k := k321) (c := 12) (by omega) (by omega) (by decide)))])
                have e455 : n_454 11 = nI kc11 := by rw [en_454, pk_un (by omega)]; exact e449
                have e456 : n_454 8 = nI k4 := by rw [en_454, pk_un (by omega)]; exact e450
                have e457 : n_454 0 = nI k317 := by rw [en_454, pk_un (by omega)]; exact e451
                have e458 : n_454 2 = nI (k321 + 1) := by rw [en_454, pk_un (by omega)]; exact e452
                have e459 : n_454 (14 * k321 + 122) = nI 1 := by rw [en_454, pk_us]
                refine pm_iloadi hG dX12_person_221 rfl ?_
                exact pm_iret hG hF dX12_person_223 rfl (Nat.le_refl _) (Nat.le_refl _) ⟨_, rfl, ⟨_, _, _, rfl, hnn_454, hrn_454, e455.trans ekc11.symm⟩, rfl⟩
              · refine pm_aloadn hG dX12_person_102 rfl ?_
                refine pm_iconst (v := nI 4) hG dX12_person_103 (by decide) ?_
                refine pm_callV (As := [.int (nI 4)]) (rest := []) hG hR dX12_person_104 (lkX12_80 _ rfl) okV_X12_finds rfl rfl (m_finds (d := 2) (by decide) hn hz (by omega)) rfl rfl hdd (Nat.le_refl _) (Nat.le_refl _) (by decide) (pm_ki (fun v460 σ' cnt' hq => ?_))
                obtain ⟨⟨I461, A461, rfl⟩, rfl, fv460⟩ := hq
                exact pm_iret hG hF dX12_person_107 rfl (Nat.le_refl _) (Nat.le_refl _) ⟨_, rfl, ⟨_, _, _, rfl, hn, hr, ekc11.trans ekc11.symm⟩, rfl⟩
            · refine pm_ifN_eq (tgt := 73) hG dX12_person_66 rfl (by omega) (fun _ => ?_) (fun q => absurd q (by omega))
              refine pm_iconst (v := nI 0) hG dX12_person_73 (by decide) ?_
              refine pm_istoreXi (loc' := [some (.ref (B + 54)), some (.int za), some (.int zb), some (.int zc), some (.int zd), some (.int (nI 0)), none, none]) hG dX12_person_74 (by decide) (pm_c1b rfl) rfl ?_
              refine pm_iloadi hG dX12_person_76 rfl ?_
              refine pm_ifN_ne (tgt := 87) hG dX12_person_78 rfl (by omega) (fun q => absurd q (by omega)) (fun _ => ?_)
              refine pm_aloadn hG dX12_person_81 rfl ?_
              refine pm_iconst (v := nI 1) hG dX12_person_82 (by decide) ?_
              refine pm_callV (As := [.int (nI 1)]) (rest := []) hG hR dX12_person_83 (lkX12_80 _ rfl) okV_X12_finds rfl rfl (m_finds (d := 2) (by decide) hn hz (by omega)) rfl rfl hdd (Nat.le_refl _) (Nat.le_refl _) (by decide) (pm_ki (fun v462 σ' cnt' hq => ?_))
              obtain ⟨⟨I463, A463, rfl⟩, rfl, fv462⟩ := hq
              exact pm_iret hG hF dX12_person_86 rfl (Nat.le_refl _) (Nat.le_refl _) ⟨_, rfl, ⟨_, _, _, rfl, hn, hr, ekc11.trans ekc11.symm⟩, rfl⟩
          · refine pm_ifN_eq (tgt := 73) hG dX12_person_57 rfl (by omega) (fun q => absurd q (by omega)) (fun _ => ?_)
            refine pm_aloadn hG dX12_person_60 rfl ?_
            refine pm_iloadi hG dX12_person_61 rfl ?_
            obtain ⟨k464, hk464, ek464⟩ := KI.nat hn (show kd 0 = (1, 11, true) by decide)
            refine pm_callV (As := [.int zd]) (rest := []) hG hR dX12_person_63 (lkX12_84 _ rfl) okV_X12_isTown rfl rfl (m_isTown (d := 2) (by decide) ek464 (by omega)) rfl rfl hdd (Nat.le_refl _) (Nat.le_refl _) (by decide) (pm_ki (fun v465 σ' cnt' hq => ?_))
            obtain ⟨hq, rfl, rfl⟩ := hq
            rcases hq with ⟨rfl, k467, hk467, ek467⟩ | rfl
            · refine pm_ifN_eq (tgt := 73) hG dX12_person_66 rfl (by omega) (fun q => absurd q (by omega)) (fun _ => ?_)
              refine pm_iconst (v := nI 1) hG dX12_person_69 (by decide) ?_
              refine pm_goto (tgt := 74) hG dX12_person_70 rfl ?_
              refine pm_istoreXi (loc' := [some (.ref (B + 54)), some (.int za), some (.int zb), some (.int zc), some (.int zd), some (.int (nI 1)), none, none]) hG dX12_person_74 (by decide) (pm_c1b rfl) rfl ?_
              refine pm_iloadi hG dX12_person_76 rfl ?_
              refine pm_ifN_ne (tgt := 87) hG dX12_person_78 rfl (by omega) (fun _ => ?_) (fun q => absurd q (by omega))
              refine pm_aloadn hG dX12_person_87 rfl ?_
              refine pm_getf hG dX12_person_88 (flX12_7 _ rfl) rfl rfl ?_
              refine pm_iconst (v := nI 2) hG dX12_person_91 (by decide) ?_
              refine pm_ialdN hG dX12_person_92 rfl (by decide) (by omega) ?_
              obtain ⟨k468, hk468, ek468⟩ := KI.nat hn (show kd 2 = (1, 21, true) by decide)
              refine pm_top (v := nI k468) ek468 ?_
              refine pm_istoreXi (loc' := [some (.ref (B + 54)), some (.int za), some (.int zb), some (.int zc), some (.int zd), some (.int (nI 1)), some (.int (nI k468)), none]) hG dX12_person_93 (by decide) (pm_c1b rfl) rfl ?_
              refine pm_iloadi hG dX12_person_95 rfl ?_
              refine pm_bipush (v := nI 20) hG dX12_person_97 (by decide) ?_
              refine pm_icmpN_ne (tgt := 108) hG dX12_person_99 rfl (by omega) (by omega) (fun c469 => ?_) (fun c469 => ?_)
              · refine pm_aloadn hG dX12_person_108 rfl ?_
                refine pm_getf hG dX12_person_109 (flX12_7 _ rfl) rfl rfl ?_
                refine pm_iconst (v := nI 2) hG dX12_person_112 (by decide) ?_
                refine pm_dup2 hG dX12_person_113 rfl rfl ?_
                refine pm_ialdN hG dX12_person_114 rfl (by decide) (by omega) ?_
                refine pm_top (v := nI k468) ek468 ?_
                refine pm_iconst (v := nI 1) hG dX12_person_115 (by decide) ?_
                refine pm_iaddN (c := k468 + 1) hG dX12_person_116 (by omega) ?_
                refine pm_iastN hG dX12_person_117 rfl (by decide) (by omega) ?_
                refine mdn_now (fun n_470 en_470 => ?_)
                have hnn_470 := KI.w en_470 hn (okv_n (show kd 2 = (1, 21, true) by decide) (by omega))
                have hrn_470 := NRx.pers en_470 hr ek464 (by omega) ek468 (by omega)
                have e471 : n_470 11 = nI kc11 := by rw [en_470, pk_un (by omega)]; exact ekc11
                have e472 : n_470 8 = nI k4 := by rw [en_470, pk_un (by omega)]; exact ek4
                have e473 : n_470 0 = nI k464 := by rw [en_470, pk_un (by omega)]; exact ek464
                have e474 : n_470 2 = nI (k468 + 1) := by rw [en_470, pk_us]
                refine pm_iconst (v := nI 0) hG dX12_person_118 (by decide) ?_
                refine pm_istoreXi (loc' := [some (.ref (B + 54)), some (.int za), some (.int zb), some (.int zc), some (.int zd), some (.int (nI 1)), some (.int (nI k468)), some (.int (nI 0))]) hG dX12_person_119 (by decide) (pm_c1b rfl) rfl ?_
                refine pm_iloadi hG dX12_person_121 rfl ?_
                refine pm_bipush (v := nI 14) hG dX12_person_123 (by decide) ?_
                refine pm_icmpN_ge (tgt := 143) hG dX12_person_125 rfl (by omega) (by omega) (fun q => absurd q (by omega)) (fun _ => ?_)
                refine pm_aloadn hG dX12_person_128 rfl ?_
                refine pm_iloadi hG dX12_person_129 rfl ?_
                refine pm_iloadi hG dX12_person_131 rfl ?_
                refine pm_iconst (v := nI 0) hG dX12_person_133 (by decide) ?_
                refine pm_callV (As := [.int (nI k468), .int (nI 0), .int (nI 0)]) (rest := []) hG hR dX12_person_134 (lkX12_97 _ rfl) okV_X12_sets rfl rfl (m_sets (d := 2) (e := 14 * k468 + 110) (by omega) (by omega) (by omega)) rfl rfl hdd (Nat.le_refl _) (Nat.le_refl _) (by decide) (pm_kv (fun σ' cnt' hq => ?_))
                obtain ⟨rfl, rfl⟩ := hq
                obtain ⟨n_475, en_475⟩ : ∃ f : Nat → Int32, f = upd n_470 (14 * k468 + 110) (nI 0) := ⟨_, rfl⟩
                rw [← en_475]
                have hnn_475 := KI.w en_475 hnn_470 (okv_f (show kd (14 * k468 + 110) = (0, 0, false) from (kd_P (k := k468) (c := 0) (by omega) (by omega) (by decide))))
                have hrn_475 := NRx.w en_475 hrn_470 (by rw [(show kd (14 * k468 + 110) = (0, 0, false) from (kd_P (k := k468) (c := 0) (by omega) (by omega) (by decide)))])
                have e476 : n_475 11 = nI kc11 := by rw [en_475, pk_un (by omega)]; exact e471
                have e477 : n_475 8 = nI k4 := by rw [en_475, pk_un (by omega)]; exact e472
                have e478 : n_475 0 = nI k464 := by rw [en_475, pk_un (by omega)]; exact e473
                have e479 : n_475 2 = nI (k468 + 1) := by rw [en_475, pk_un (by omega)]; exact e474
                have e480 : n_475 (14 * k468 + 110) = nI 0 := by rw [en_475, pk_us]
                refine pm_iincX (v := nI 1) (loc' := [some (.ref (B + 54)), some (.int za), some (.int zb), some (.int zc), some (.int zd), some (.int (nI 1)), some (.int (nI k468)), some (.int (nI 1))]) hG dX12_person_137 rfl (nI_1 _) (by decide) (pm_c1b rfl) rfl ?_
                refine pm_goto (tgt := 121) hG dX12_person_140 rfl ?_
                refine pm_iloadi hG dX12_person_121 rfl ?_
                refine pm_bipush (v := nI 14) hG dX12_person_123 (by decide) ?_
                refine pm_icmpN_ge (tgt := 143) hG dX12_person_125 rfl (by omega) (by omega) (fun q => absurd q (by omega)) (fun _ => ?_)
                refine pm_aloadn hG dX12_person_128 rfl ?_
                refine pm_iloadi hG dX12_person_129 rfl ?_
                refine pm_iloadi hG dX12_person_131 rfl ?_
                refine pm_iconst (v := nI 0) hG dX12_person_133 (by decide) ?_
                refine pm_callV (As := [.int (nI k468), .int (nI 1), .int (nI 0)]) (rest := []) hG hR dX12_person_134 (lkX12_97 _ rfl) okV_X12_sets rfl rfl (m_sets (d := 2) (e := 14 * k468 + 111) (by omega) (by omega) (by omega)) rfl rfl hdd (Nat.le_refl _) (Nat.le_refl _) (by decide) (pm_kv (fun σ' cnt' hq => ?_))
                obtain ⟨rfl, rfl⟩ := hq
                obtain ⟨n_481, en_481⟩ : ∃ f : Nat → Int32, f = upd n_475 (14 * k468 + 111) (nI 0) := ⟨_, rfl⟩
                rw [← en_481]
                have hnn_481 := KI.w en_481 hnn_475 (okv_f (show kd (14 * k468 + 111) = (0, 0, false) from (kd_P (k := k468) (c := 1) (by omega) (by omega) (by decide))))
                have hrn_481 := NRx.w en_481 hrn_475 (by rw [(show kd (14 * k468 + 111) = (0, 0, false) from (kd_P (k := k468) (c := 1) (by omega) (by omega) (by decide)))])
                have e482 : n_481 11 = nI kc11 := by rw [en_481, pk_un (by omega)]; exact e476
                have e483 : n_481 8 = nI k4 := by rw [en_481, pk_un (by omega)]; exact e477
                have e484 : n_481 0 = nI k464 := by rw [en_481, pk_un (by omega)]; exact e478
                have e485 : n_481 2 = nI (k468 + 1) := by rw [en_481, pk_un (by omega)]; exact e479
                have e486 : n_481 (14 * k468 + 111) = nI 0 := by rw [en_481, pk_us]
                refine pm_iincX (v := nI 2) (loc' := [some (.ref (B + 54)), some (.int za), some (.int zb), some (.int zc), some (.int zd), some (.int (nI 1)), some (.int (nI k468)), some (.int (nI 2))]) hG dX12_person_137 rfl (nI_1 _) (by decide) (pm_c1b rfl) rfl ?_
                refine pm_goto (tgt := 121) hG dX12_person_140 rfl ?_
                refine pm_iloadi hG dX12_person_121 rfl ?_
                refine pm_bipush (v := nI 14) hG dX12_person_123 (by decide) ?_
                refine pm_icmpN_ge (tgt := 143) hG dX12_person_125 rfl (by omega) (by omega) (fun q => absurd q (by omega)) (fun _ => ?_)
                refine pm_aloadn hG dX12_person_128 rfl ?_
                refine pm_iloadi hG dX12_person_129 rfl ?_
                refine pm_iloadi hG dX12_person_131 rfl ?_
                refine pm_iconst (v := nI 0) hG dX12_person_133 (by decide) ?_
                refine pm_callV (As := [.int (nI k468), .int (nI 2), .int (nI 0)]) (rest := []) hG hR dX12_person_134 (lkX12_97 _ rfl) okV_X12_sets rfl rfl (m_sets (d := 2) (e := 14 * k468 + 112) (by omega) (by omega) (by omega)) rfl rfl hdd (Nat.le_refl _) (Nat.le_refl _) (by decide) (pm_kv (fun σ' cnt' hq => ?_))
                obtain ⟨rfl, rfl⟩ := hq
                obtain ⟨n_487, en_487⟩ : ∃ f : Nat → Int32, f = upd n_481 (14 * k468 + 112) (nI 0) := ⟨_, rfl⟩
                rw [← en_487]
                have hnn_487 := KI.w en_487 hnn_481 (okv_o (show kd (14 * k468 + 112) = (2, 20, false) from (kd_P (k := k468) (c := 2) (by omega) (by omega) (by decide))) (by omega))
                have hrn_487 := NRx.w en_487 hrn_481 (by rw [(show kd (14 * k468 + 112) = (2, 20, false) from (kd_P (k := k468) (c := 2) (by omega) (by omega) (by decide)))])
                have e488 : n_487 11 = nI kc11 := by rw [en_487, pk_un (by omega)]; exact e482
                have e489 : n_487 8 = nI k4 := by rw [en_487, pk_un (by omega)]; exact e483
                have e490 : n_487 0 = nI k464 := by rw [en_487, pk_un (by omega)]; exact e484
                have e491 : n_487 2 = nI (k468 + 1) := by rw [en_487, pk_un (by omega)]; exact e485
                have e492 : n_487 (14 * k468 + 112) = nI 0 := by rw [en_487, pk_us]
                refine pm_iincX (v := nI 3) (loc' := [some (.ref (B + 54)), some (.int za), some (.int zb), some (.int zc), some (.int zd), some (.int (nI 1)), some (.int (nI k468)), some (.int (nI 3))]) hG dX12_person_137 rfl (nI_1 _) (by decide) (pm_c1b rfl) rfl ?_
                refine pm_goto (tgt := 121) hG dX12_person_140 rfl ?_
                refine pm_iloadi hG dX12_person_121 rfl ?_
                refine pm_bipush (v := nI 14) hG dX12_person_123 (by decide) ?_
                refine pm_icmpN_ge (tgt := 143) hG dX12_person_125 rfl (by omega) (by omega) (fun q => absurd q (by omega)) (fun _ => ?_)
                refine pm_aloadn hG dX12_person_128 rfl ?_
                refine pm_iloadi hG dX12_person_129 rfl ?_
                refine pm_iloadi hG dX12_person_131 rfl ?_
                refine pm_iconst (v := nI 0) hG dX12_person_133 (by decide) ?_
                refine pm_callV (As := [.int (nI k468), .int (nI 3), .int (nI 0)]) (rest := []) hG hR dX12_person_134 (lkX12_97 _ rfl) okV_X12_sets rfl rfl (m_sets (d := 2) (e := 14 * k468 + 113) (by omega) (by omega) (by omega)) rfl rfl hdd (Nat.le_refl _) (Nat.le_refl _) (by decide) (pm_kv (fun σ' cnt' hq => ?_))
                obtain ⟨rfl, rfl⟩ := hq
                obtain ⟨n_493, en_493⟩ : ∃ f : Nat → Int32, f = upd n_487 (14 * k468 + 113) (nI 0) := ⟨_, rfl⟩
                rw [← en_493]
                have hnn_493 := KI.w en_493 hnn_487 (okv_o (show kd (14 * k468 + 113) = (2, 20, false) from (kd_P (k := k468) (c := 3) (by omega) (by omega) (by decide))) (by omega))
                have hrn_493 := NRx.w en_493 hrn_487 (by rw [(show kd (14 * k468 + 113) = (2, 20, false) from (kd_P (k := k468) (c := 3) (by omega) (by omega) (by decide)))])
                have e494 : n_493 11 = nI kc11 := by rw [en_493, pk_un (by omega)]; exact e488
                have e495 : n_493 8 = nI k4 := by rw [en_493, pk_un (by omega)]; exact e489
                have e496 : n_493 0 = nI k464 := by rw [en_493, pk_un (by omega)]; exact e490
                have e497 : n_493 2 = nI (k468 + 1) := by rw [en_493, pk_un (by omega)]; exact e491
                have e498 : n_493 (14 * k468 + 113) = nI 0 := by rw [en_493, pk_us]
                refine pm_iincX (v := nI 4) (loc' := [some (.ref (B + 54)), some (.int za), some (.int zb), some (.int zc), some (.int zd), some (.int (nI 1)), some (.int (nI k468)), some (.int (nI 4))]) hG dX12_person_137 rfl (nI_1 _) (by decide) (pm_c1b rfl) rfl ?_
                refine pm_goto (tgt := 121) hG dX12_person_140 rfl ?_
                refine pm_iloadi hG dX12_person_121 rfl ?_
                refine pm_bipush (v := nI 14) hG dX12_person_123 (by decide) ?_
                refine pm_icmpN_ge (tgt := 143) hG dX12_person_125 rfl (by omega) (by omega) (fun q => absurd q (by omega)) (fun _ => ?_)
                refine pm_aloadn hG dX12_person_128 rfl ?_
                refine pm_iloadi hG dX12_person_129 rfl ?_
                refine pm_iloadi hG dX12_person_131 rfl ?_
                refine pm_iconst (v := nI 0) hG dX12_person_133 (by decide) ?_
                refine pm_callV (As := [.int (nI k468), .int (nI 4), .int (nI 0)]) (rest := []) hG hR dX12_person_134 (lkX12_97 _ rfl) okV_X12_sets rfl rfl (m_sets (d := 2) (e := 14 * k468 + 114) (by omega) (by omega) (by omega)) rfl rfl hdd (Nat.le_refl _) (Nat.le_refl _) (by decide) (pm_kv (fun σ' cnt' hq => ?_))
                obtain ⟨rfl, rfl⟩ := hq
                obtain ⟨n_499, en_499⟩ : ∃ f : Nat → Int32, f = upd n_493 (14 * k468 + 114) (nI 0) := ⟨_, rfl⟩
                rw [← en_499]
                have hnn_499 := KI.w en_499 hnn_493 (okv_o (show kd (14 * k468 + 114) = (2, 10, false) from (kd_P (k := k468) (c := 4) (by omega) (by omega) (by decide))) (by omega))
                have hrn_499 := NRx.w en_499 hrn_493 (by rw [(show kd (14 * k468 + 114) = (2, 10, false) from (kd_P (k := k468) (c := 4) (by omega) (by omega) (by decide)))])
                have e500 : n_499 11 = nI kc11 := by rw [en_499, pk_un (by omega)]; exact e494
                have e501 : n_499 8 = nI k4 := by rw [en_499, pk_un (by omega)]; exact e495
                have e502 : n_499 0 = nI k464 := by rw [en_499, pk_un (by omega)]; exact e496
                have e503 : n_499 2 = nI (k468 + 1) := by rw [en_499, pk_un (by omega)]; exact e497
                have e504 : n_499 (14 * k468 + 114) = nI 0 := by rw [en_499, pk_us]
                refine pm_iincX (v := nI 5) (loc' := [some (.ref (B + 54)), some (.int za), some (.int zb), some (.int zc), some (.int zd), some (.int (nI 1)), some (.int (nI k468)), some (.int (nI 5))]) hG dX12_person_137 rfl (nI_1 _) (by decide) (pm_c1b rfl) rfl ?_
                refine pm_goto (tgt := 121) hG dX12_person_140 rfl ?_
                refine pm_iloadi hG dX12_person_121 rfl ?_
                refine pm_bipush (v := nI 14) hG dX12_person_123 (by decide) ?_
                refine pm_icmpN_ge (tgt := 143) hG dX12_person_125 rfl (by omega) (by omega) (fun q => absurd q (by omega)) (fun _ => ?_)
                refine pm_aloadn hG dX12_person_128 rfl ?_
                refine pm_iloadi hG dX12_person_129 rfl ?_
                refine pm_iloadi hG dX12_person_131 rfl ?_
                refine pm_iconst (v := nI 0) hG dX12_person_133 (by decide) ?_
                refine pm_callV (As := [.int (nI k468), .int (nI 5), .int (nI 0)]) (rest := []) hG hR dX12_person_134 (lkX12_97 _ rfl) okV_X12_sets rfl rfl (m_sets (d := 2) (e := 14 * k468 + 115) (by omega) (by omega) (by omega)) rfl rfl hdd (Nat.le_refl _) (Nat.le_refl _) (by decide) (pm_kv (fun σ' cnt' hq => ?_))
                obtain ⟨rfl, rfl⟩ := hq
                obtain ⟨n_505, en_505⟩ : ∃ f : Nat → Int32, f = upd n_499 (14 * k468 + 115) (nI 0) := ⟨_, rfl⟩
                rw [← en_505]
                have hnn_505 := KI.w en_505 hnn_499 (okv_n (show kd (14 * k468 + 115) = (1, 10, false) from (kd_P (k := k468) (c := 5) (by omega) (by omega) (by decide))) (by omega))
                have hrn_505 := NRx.w en_505 hrn_499 (by rw [(show kd (14 * k468 + 115) = (1, 10, false) from (kd_P (k := k468) (c := 5) (by omega) (by omega) (by decide)))])
                have e506 : n_505 11 = nI kc11 := by rw [en_505, pk_un (by omega)]; exact e500
                have e507 : n_505 8 = nI k4 := by rw [en_505, pk_un (by omega)]; exact e501
                have e508 : n_505 0 = nI k464 := by rw [en_505, pk_un (by omega)]; exact e502
                have e509 : n_505 2 = nI (k468 + 1) := by rw [en_505, pk_un (by omega)]; exact e503
                have e510 : n_505 (14 * k468 + 115) = nI 0 := by rw [en_505, pk_us]
                refine pm_iincX (v := nI 6) (loc' := [some (.ref (B + 54)), some (.int za), some (.int zb), some (.int zc), some (.int zd), some (.int (nI 1)), some (.int (nI k468)), some (.int (nI 6))]) hG dX12_person_137 rfl (nI_1 _) (by decide) (pm_c1b rfl) rfl ?_
                refine pm_goto (tgt := 121) hG dX12_person_140 rfl ?_
                refine pm_iloadi hG dX12_person_121 rfl ?_
                refine pm_bipush (v := nI 14) hG dX12_person_123 (by decide) ?_
                refine pm_icmpN_ge (tgt := 143) hG dX12_person_125 rfl (by omega) (by omega) (fun q => absurd q (by omega)) (fun _ => ?_)
                refine pm_aloadn hG dX12_person_128 rfl ?_
                refine pm_iloadi hG dX12_person_129 rfl ?_
                refine pm_iloadi hG dX12_person_131 rfl ?_
                refine pm_iconst (v := nI 0) hG dX12_person_133 (by decide) ?_
                refine pm_callV (As := [.int (nI k468), .int (nI 6), .int (nI 0)]) (rest := []) hG hR dX12_person_134 (lkX12_97 _ rfl) okV_X12_sets rfl rfl (m_sets (d := 2) (e := 14 * k468 + 116) (by omega) (by omega) (by omega)) rfl rfl hdd (Nat.le_refl _) (Nat.le_refl _) (by decide) (pm_kv (fun σ' cnt' hq => ?_))
                obtain ⟨rfl, rfl⟩ := hq
                obtain ⟨n_511, en_511⟩ : ∃ f : Nat → Int32, f = upd n_505 (14 * k468 + 116) (nI 0) := ⟨_, rfl⟩
                rw [← en_511]
                have hnn_511 := KI.w en_511 hnn_505 (okv_f (show kd (14 * k468 + 116) = (0, 0, false) from (kd_P (k := k468) (c := 6) (by omega) (by omega) (by decide))))
                have hrn_511 := NRx.w en_511 hrn_505 (by rw [(show kd (14 * k468 + 116) = (0, 0, false) from (kd_P (k := k468) (c := 6) (by omega) (by omega) (by decide)))])
                have e512 : n_511 11 = nI kc11 := by rw [en_511, pk_un (by omega)]; exact e506
                have e513 : n_511 8 = nI k4 := by rw [en_511, pk_un (by omega)]; exact e507
                have e514 : n_511 0 = nI k464 := by rw [en_511, pk_un (by omega)]; exact e508
                have e515 : n_511 2 = nI (k468 + 1) := by rw [en_511, pk_un (by omega)]; exact e509
                have e516 : n_511 (14 * k468 + 116) = nI 0 := by rw [en_511, pk_us]
                refine pm_iincX (v := nI 7) (loc' := [some (.ref (B + 54)), some (.int za), some (.int zb), some (.int zc), some (.int zd), some (.int (nI 1)), some (.int (nI k468)), some (.int (nI 7))]) hG dX12_person_137 rfl (nI_1 _) (by decide) (pm_c1b rfl) rfl ?_
                refine pm_goto (tgt := 121) hG dX12_person_140 rfl ?_
                refine pm_iloadi hG dX12_person_121 rfl ?_
                refine pm_bipush (v := nI 14) hG dX12_person_123 (by decide) ?_
                refine pm_icmpN_ge (tgt := 143) hG dX12_person_125 rfl (by omega) (by omega) (fun q => absurd q (by omega)) (fun _ => ?_)
                refine pm_aloadn hG dX12_person_128 rfl ?_
                refine pm_iloadi hG dX12_person_129 rfl ?_
                refine pm_iloadi hG dX12_person_131 rfl ?_
                refine pm_iconst (v := nI 0) hG dX12_person_133 (by decide) ?_
                refine pm_callV (As := [.int (nI k468), .int (nI 7), .int (nI 0)]) (rest := []) hG hR dX12_person_134 (lkX12_97 _ rfl) okV_X12_sets rfl rfl (m_sets (d := 2) (e := 14 * k468 + 117) (by omega) (by omega) (by omega)) rfl rfl hdd (Nat.le_refl _) (Nat.le_refl _) (by decide) (pm_kv (fun σ' cnt' hq => ?_))
                obtain ⟨rfl, rfl⟩ := hq
                obtain ⟨n_517, en_517⟩ : ∃ f : Nat → Int32, f = upd n_511 (14 * k468 + 117) (nI 0) := ⟨_, rfl⟩
                rw [← en_517]
                have hnn_517 := KI.w en_517 hnn_511 (okv_f (show kd (14 * k468 + 117) = (0, 0, false) from (kd_P (k := k468) (c := 7) (by omega) (by omega) (by decide))))
                have hrn_517 := NRx.w en_517 hrn_511 (by rw [(show kd (14 * k468 + 117) = (0, 0, false) from (kd_P (k := k468) (c := 7) (by omega) (by omega) (by decide)))])
                have e518 : n_517 11 = nI kc11 := by rw [en_517, pk_un (by omega)]; exact e512
                have e519 : n_517 8 = nI k4 := by rw [en_517, pk_un (by omega)]; exact e513
                have e520 : n_517 0 = nI k464 := by rw [en_517, pk_un (by omega)]; exact e514
                have e521 : n_517 2 = nI (k468 + 1) := by rw [en_517, pk_un (by omega)]; exact e515
                have e522 : n_517 (14 * k468 + 117) = nI 0 := by rw [en_517, pk_us]
                refine pm_iincX (v := nI 8) (loc' := [some (.ref (B + 54)), some (.int za), some (.int zb), some (.int zc), some (.int zd), some (.int (nI 1)), some (.int (nI k468)), some (.int (nI 8))]) hG dX12_person_137 rfl (nI_1 _) (by decide) (pm_c1b rfl) rfl ?_
                refine pm_goto (tgt := 121) hG dX12_person_140 rfl ?_
                refine pm_iloadi hG dX12_person_121 rfl ?_
                refine pm_bipush (v := nI 14) hG dX12_person_123 (by decide) ?_
                refine pm_icmpN_ge (tgt := 143) hG dX12_person_125 rfl (by omega) (by omega) (fun q => absurd q (by omega)) (fun _ => ?_)
                refine pm_aloadn hG dX12_person_128 rfl ?_
                refine pm_iloadi hG dX12_person_129 rfl ?_
                refine pm_iloadi hG dX12_person_131 rfl ?_
                refine pm_iconst (v := nI 0) hG dX12_person_133 (by decide) ?_
                refine pm_callV (As := [.int (nI k468), .int (nI 8), .int (nI 0)]) (rest := []) hG hR dX12_person_134 (lkX12_97 _ rfl) okV_X12_sets rfl rfl (m_sets (d := 2) (e := 14 * k468 + 118) (by omega) (by omega) (by omega)) rfl rfl hdd (Nat.le_refl _) (Nat.le_refl _) (by decide) (pm_kv (fun σ' cnt' hq => ?_))
                obtain ⟨rfl, rfl⟩ := hq
                obtain ⟨n_523, en_523⟩ : ∃ f : Nat → Int32, f = upd n_517 (14 * k468 + 118) (nI 0) := ⟨_, rfl⟩
                rw [← en_523]
                have hnn_523 := KI.w en_523 hnn_517 (okv_f (show kd (14 * k468 + 118) = (0, 0, false) from (kd_P (k := k468) (c := 8) (by omega) (by omega) (by decide))))
                have hrn_523 := NRx.w en_523 hrn_517 (by rw [(show kd (14 * k468 + 118) = (0, 0, false) from (kd_P (k := k468) (c := 8) (by omega) (by omega) (by decide)))])
                have e524 : n_523 11 = nI kc11 := by rw [en_523, pk_un (by omega)]; exact e518
                have e525 : n_523 8 = nI k4 := by rw [en_523, pk_un (by omega)]; exact e519
                have e526 : n_523 0 = nI k464 := by rw [en_523, pk_un (by omega)]; exact e520
                have e527 : n_523 2 = nI (k468 + 1) := by rw [en_523, pk_un (by omega)]; exact e521
                have e528 : n_523 (14 * k468 + 118) = nI 0 := by rw [en_523, pk_us]
                refine pm_iincX (v := nI 9) (loc' := [some (.ref (B + 54)), some (.int za), some (.int zb), some (.int zc), some (.int zd), some (.int (nI 1)), some (.int (nI k468)), some (.int (nI 9))]) hG dX12_person_137 rfl (nI_1 _) (by decide) (pm_c1b rfl) rfl ?_
                refine pm_goto (tgt := 121) hG dX12_person_140 rfl ?_
                refine pm_iloadi hG dX12_person_121 rfl ?_
                refine pm_bipush (v := nI 14) hG dX12_person_123 (by decide) ?_
                refine pm_icmpN_ge (tgt := 143) hG dX12_person_125 rfl (by omega) (by omega) (fun q => absurd q (by omega)) (fun _ => ?_)
                refine pm_aloadn hG dX12_person_128 rfl ?_
                refine pm_iloadi hG dX12_person_129 rfl ?_
                refine pm_iloadi hG dX12_person_131 rfl ?_
                refine pm_iconst (v := nI 0) hG dX12_person_133 (by decide) ?_
                refine pm_callV (As := [.int (nI k468), .int (nI 9), .int (nI 0)]) (rest := []) hG hR dX12_person_134 (lkX12_97 _ rfl) okV_X12_sets rfl rfl (m_sets (d := 2) (e := 14 * k468 + 119) (by omega) (by omega) (by omega)) rfl rfl hdd (Nat.le_refl _) (Nat.le_refl _) (by decide) (pm_kv (fun σ' cnt' hq => ?_))
                obtain ⟨rfl, rfl⟩ := hq
                obtain ⟨n_529, en_529⟩ : ∃ f : Nat → Int32, f = upd n_523 (14 * k468 + 119) (nI 0) := ⟨_, rfl⟩
                rw [← en_529]
                have hnn_529 := KI.w en_529 hnn_523 (okv_o (show kd (14 * k468 + 119) = (2, 2001, false) from (kd_P (k := k468) (c := 9) (by omega) (by omega) (by decide))) (by omega))
                have hrn_529 := NRx.w en_529 hrn_523 (by rw [(show kd (14 * k468 + 119) = (2, 2001, false) from (kd_P (k := k468) (c := 9) (by omega) (by omega) (by decide)))])
                have e530 : n_529 11 = nI kc11 := by rw [en_529, pk_un (by omega)]; exact e524
                have e531 : n_529 8 = nI k4 := by rw [en_529, pk_un (by omega)]; exact e525
                have e532 : n_529 0 = nI k464 := by rw [en_529, pk_un (by omega)]; exact e526
                have e533 : n_529 2 = nI (k468 + 1) := by rw [en_529, pk_un (by omega)]; exact e527
                have e534 : n_529 (14 * k468 + 119) = nI 0 := by rw [en_529, pk_us]
                refine pm_iincX (v := nI 10) (loc' := [some (.ref (B + 54)), some (.int za), some (.int zb), some (.int zc), some (.int zd), some (.int (nI 1)), some (.int (nI k468)), some (.int (nI 10))]) hG dX12_person_137 rfl (nI_1 _) (by decide) (pm_c1b rfl) rfl ?_
                refine pm_goto (tgt := 121) hG dX12_person_140 rfl ?_
                refine pm_iloadi hG dX12_person_121 rfl ?_
                refine pm_bipush (v := nI 14) hG dX12_person_123 (by decide) ?_
                refine pm_icmpN_ge (tgt := 143) hG dX12_person_125 rfl (by omega) (by omega) (fun q => absurd q (by omega)) (fun _ => ?_)
                refine pm_aloadn hG dX12_person_128 rfl ?_
                refine pm_iloadi hG dX12_person_129 rfl ?_
                refine pm_iloadi hG dX12_person_131 rfl ?_
                refine pm_iconst (v := nI 0) hG dX12_person_133 (by decide) ?_
                refine pm_callV (As := [.int (nI k468), .int (nI 10), .int (nI 0)]) (rest := []) hG hR dX12_person_134 (lkX12_97 _ rfl) okV_X12_sets rfl rfl (m_sets (d := 2) (e := 14 * k468 + 120) (by omega) (by omega) (by omega)) rfl rfl hdd (Nat.le_refl _) (Nat.le_refl _) (by decide) (pm_kv (fun σ' cnt' hq => ?_))
                obtain ⟨rfl, rfl⟩ := hq
                obtain ⟨n_535, en_535⟩ : ∃ f : Nat → Int32, f = upd n_529 (14 * k468 + 120) (nI 0) := ⟨_, rfl⟩
                rw [← en_535]
                have hnn_535 := KI.w en_535 hnn_529 (okv_f (show kd (14 * k468 + 120) = (0, 0, false) from (kd_P (k := k468) (c := 10) (by omega) (by omega) (by decide))))
                have hrn_535 := NRx.w en_535 hrn_529 (by rw [(show kd (14 * k468 + 120) = (0, 0, false) from (kd_P (k := k468) (c := 10) (by omega) (by omega) (by decide)))])
                have e536 : n_535 11 = nI kc11 := by rw [en_535, pk_un (by omega)]; exact e530
                have e537 : n_535 8 = nI k4 := by rw [en_535, pk_un (by omega)]; exact e531
                have e538 : n_535 0 = nI k464 := by rw [en_535, pk_un (by omega)]; exact e532
                have e539 : n_535 2 = nI (k468 + 1) := by rw [en_535, pk_un (by omega)]; exact e533
                have e540 : n_535 (14 * k468 + 120) = nI 0 := by rw [en_535, pk_us]
                refine pm_iincX (v := nI 11) (loc' := [some (.ref (B + 54)), some (.int za), some (.int zb), some (.int zc), some (.int zd), some (.int (nI 1)), some (.int (nI k468)), some (.int (nI 11))]) hG dX12_person_137 rfl (nI_1 _) (by decide) (pm_c1b rfl) rfl ?_
                refine pm_goto (tgt := 121) hG dX12_person_140 rfl ?_
                refine pm_iloadi hG dX12_person_121 rfl ?_
                refine pm_bipush (v := nI 14) hG dX12_person_123 (by decide) ?_
                refine pm_icmpN_ge (tgt := 143) hG dX12_person_125 rfl (by omega) (by omega) (fun q => absurd q (by omega)) (fun _ => ?_)
                refine pm_aloadn hG dX12_person_128 rfl ?_
                refine pm_iloadi hG dX12_person_129 rfl ?_
                refine pm_iloadi hG dX12_person_131 rfl ?_
                refine pm_iconst (v := nI 0) hG dX12_person_133 (by decide) ?_
                refine pm_callV (As := [.int (nI k468), .int (nI 11), .int (nI 0)]) (rest := []) hG hR dX12_person_134 (lkX12_97 _ rfl) okV_X12_sets rfl rfl (m_sets (d := 2) (e := 14 * k468 + 121) (by omega) (by omega) (by omega)) rfl rfl hdd (Nat.le_refl _) (Nat.le_refl _) (by decide) (pm_kv (fun σ' cnt' hq => ?_))
                obtain ⟨rfl, rfl⟩ := hq
                obtain ⟨n_541, en_541⟩ : ∃ f : Nat → Int32, f = upd n_535 (14 * k468 + 121) (nI 0) := ⟨_, rfl⟩
                rw [← en_541]
                have hnn_541 := KI.w en_541 hnn_535 (okv_n (show kd (14 * k468 + 121) = (1, 2, true) from (kd_P (k := k468) (c := 11) (by omega) (by omega) (by decide))) (by omega))
                have hrn_541 := NRx.unseat (p := k468) en_541 hrn_535 (by omega)
                have e542 : n_541 11 = nI kc11 := by rw [en_541, pk_un (by omega)]; exact e536
                have e543 : n_541 8 = nI k4 := by rw [en_541, pk_un (by omega)]; exact e537
                have e544 : n_541 0 = nI k464 := by rw [en_541, pk_un (by omega)]; exact e538
                have e545 : n_541 2 = nI (k468 + 1) := by rw [en_541, pk_un (by omega)]; exact e539
                have e546 : n_541 (14 * k468 + 121) = nI 0 := by rw [en_541, pk_us]
                refine pm_iincX (v := nI 12) (loc' := [some (.ref (B + 54)), some (.int za), some (.int zb), some (.int zc), some (.int zd), some (.int (nI 1)), some (.int (nI k468)), some (.int (nI 12))]) hG dX12_person_137 rfl (nI_1 _) (by decide) (pm_c1b rfl) rfl ?_
                refine pm_goto (tgt := 121) hG dX12_person_140 rfl ?_
                refine pm_iloadi hG dX12_person_121 rfl ?_
                refine pm_bipush (v := nI 14) hG dX12_person_123 (by decide) ?_
                refine pm_icmpN_ge (tgt := 143) hG dX12_person_125 rfl (by omega) (by omega) (fun q => absurd q (by omega)) (fun _ => ?_)
                refine pm_aloadn hG dX12_person_128 rfl ?_
                refine pm_iloadi hG dX12_person_129 rfl ?_
                refine pm_iloadi hG dX12_person_131 rfl ?_
                refine pm_iconst (v := nI 0) hG dX12_person_133 (by decide) ?_
                refine pm_callV (As := [.int (nI k468), .int (nI 12), .int (nI 0)]) (rest := []) hG hR dX12_person_134 (lkX12_97 _ rfl) okV_X12_sets rfl rfl (m_sets (d := 2) (e := 14 * k468 + 122) (by omega) (by omega) (by omega)) rfl rfl hdd (Nat.le_refl _) (Nat.le_refl _) (by decide) (pm_kv (fun σ' cnt' hq => ?_))
                obtain ⟨rfl, rfl⟩ := hq
                obtain ⟨n_547, en_547⟩ : ∃ f : Nat → Int32, f = upd n_541 (14 * k468 + 122) (nI 0) := ⟨_, rfl⟩
                rw [← en_547]
                have hnn_547 := KI.w en_547 hnn_541 (okv_f (show kd (14 * k468 + 122) = (0, 0, false) from (kd_P (k := k468) (c := 12) (by omega) (by omega) (by decide))))
                have hrn_547 := NRx.w en_547 hrn_541 (by rw [(show kd (14 * k468 + 122) = (0, 0, false) from (kd_P (k := k468) (c := 12) (by omega) (by omega) (by decide)))])
                have e548 : n_547 11 = nI kc11 := by rw [en_547, pk_un (by omega)]; exact e542
                have e549 : n_547 8 = nI k4 := by rw [en_547, pk_un (by omega)]; exact e543
                have e550 : n_547 0 = nI k464 := by rw [en_547, pk_un (by omega)]; exact e544
                have e551 : n_547 2 = nI (k468 + 1) := by rw [en_547, pk_un (by omega)]; exact e545
                have e552 : n_547 (14 * k468 + 122) = nI 0 := by rw [en_547, pk_us]
                refine pm_iincX (v := nI 13) (loc' := [some (.ref (B + 54)), some (.int za), some (.int zb), some (.int zc), some (.int zd), some (.int (nI 1)), some (.int (nI k468)), some (.int (nI 13))]) hG dX12_person_137 rfl (nI_1 _) (by decide) (pm_c1b rfl) rfl ?_
                refine pm_goto (tgt := 121) hG dX12_person_140 rfl ?_
                refine pm_iloadi hG dX12_person_121 rfl ?_
                refine pm_bipush (v := nI 14) hG dX12_person_123 (by decide) ?_
                refine pm_icmpN_ge (tgt := 143) hG dX12_person_125 rfl (by omega) (by omega) (fun q => absurd q (by omega)) (fun _ => ?_)
                refine pm_aloadn hG dX12_person_128 rfl ?_
                refine pm_iloadi hG dX12_person_129 rfl ?_
                refine pm_iloadi hG dX12_person_131 rfl ?_
                refine pm_iconst (v := nI 0) hG dX12_person_133 (by decide) ?_
                refine pm_callV (As := [.int (nI k468), .int (nI 13), .int (nI 0)]) (rest := []) hG hR dX12_person_134 (lkX12_97 _ rfl) okV_X12_sets rfl rfl (m_sets (d := 2) (e := 14 * k468 + 123) (by omega) (by omega) (by omega)) rfl rfl hdd (Nat.le_refl _) (Nat.le_refl _) (by decide) (pm_kv (fun σ' cnt' hq => ?_))
                obtain ⟨rfl, rfl⟩ := hq
                obtain ⟨n_553, en_553⟩ : ∃ f : Nat → Int32, f = upd n_547 (14 * k468 + 123) (nI 0) := ⟨_, rfl⟩
                rw [← en_553]
                have hnn_553 := KI.w en_553 hnn_547 (okv_f (show kd (14 * k468 + 123) = (0, 0, false) from (kd_P (k := k468) (c := 13) (by omega) (by omega) (by decide))))
                have hrn_553 := NRx.w en_553 hrn_547 (by rw [(show kd (14 * k468 + 123) = (0, 0, false) from (kd_P (k := k468) (c := 13) (by omega) (by omega) (by decide)))])
                have e554 : n_553 11 = nI kc11 := by rw [en_553, pk_un (by omega)]; exact e548
                have e555 : n_553 8 = nI k4 := by rw [en_553, pk_un (by omega)]; exact e549
                have e556 : n_553 0 = nI k464 := by rw [en_553, pk_un (by omega)]; exact e550
                have e557 : n_553 2 = nI (k468 + 1) := by rw [en_553, pk_un (by omega)]; exact e551
                have e558 : n_553 (14 * k468 + 123) = nI 0 := by rw [en_553, pk_us]
                refine pm_iincX (v := nI 14) (loc' := [some (.ref (B + 54)), some (.int za), some (.int zb), some (.int zc), some (.int zd), some (.int (nI 1)), some (.int (nI k468)), some (.int (nI 14))]) hG dX12_person_137 rfl (nI_1 _) (by decide) (pm_c1b rfl) rfl ?_
                refine pm_goto (tgt := 121) hG dX12_person_140 rfl ?_
                refine pm_iloadi hG dX12_person_121 rfl ?_
                refine pm_bipush (v := nI 14) hG dX12_person_123 (by decide) ?_
                refine pm_icmpN_ge (tgt := 143) hG dX12_person_125 rfl (by omega) (by omega) (fun _ => ?_) (fun q => absurd q (by omega))
                refine pm_aloadn hG dX12_person_143 rfl ?_
                refine pm_iloadi hG dX12_person_144 rfl ?_
                refine pm_iconst (v := nI 0) hG dX12_person_146 (by decide) ?_
                refine pm_iloadn hG dX12_person_147 rfl ?_
                refine pm_top (v := nI k3) ek3 ?_
                refine pm_callV (As := [.int (nI k468), .int (nI 0), .int (nI k3)]) (rest := []) hG hR dX12_person_148 (lkX12_97 _ rfl) okV_X12_sets rfl rfl (m_sets (d := 2) (e := 14 * k468 + 110) (by omega) (by omega) (by omega)) rfl rfl hdd (Nat.le_refl _) (Nat.le_refl _) (by decide) (pm_kv (fun σ' cnt' hq => ?_))
                obtain ⟨rfl, rfl⟩ := hq
                obtain ⟨n_559, en_559⟩ : ∃ f : Nat → Int32, f = upd n_553 (14 * k468 + 110) (nI k3) := ⟨_, rfl⟩
                rw [← en_559]
                have hnn_559 := KI.w en_559 hnn_553 (okv_f (show kd (14 * k468 + 110) = (0, 0, false) from (kd_P (k := k468) (c := 0) (by omega) (by omega) (by decide))))
                have hrn_559 := NRx.w en_559 hrn_553 (by rw [(show kd (14 * k468 + 110) = (0, 0, false) from (kd_P (k := k468) (c := 0) (by omega) (by omega) (by decide)))])
                have e560 : n_559 11 = nI kc11 := by rw [en_559, pk_un (by omega)]; exact e554
                have e561 : n_559 8 = nI k4 := by rw [en_559, pk_un (by omega)]; exact e555
                have e562 : n_559 0 = nI k464 := by rw [en_559, pk_un (by omega)]; exact e556
                have e563 : n_559 2 = nI (k468 + 1) := by rw [en_559, pk_un (by omega)]; exact e557
                have e564 : n_559 (14 * k468 + 110) = nI k3 := by rw [en_559, pk_us]
                refine pm_aloadn hG dX12_person_151 rfl ?_
                refine pm_iloadi hG dX12_person_152 rfl ?_
                refine pm_iconst (v := nI 1) hG dX12_person_154 (by decide) ?_
                refine pm_iloadn hG dX12_person_155 rfl ?_
                refine pm_callV (As := [.int (nI k468), .int (nI 1), .int zb]) (rest := []) hG hR dX12_person_156 (lkX12_97 _ rfl) okV_X12_sets rfl rfl (m_sets (d := 2) (e := 14 * k468 + 111) (by omega) (by omega) (by omega)) rfl rfl hdd (Nat.le_refl _) (Nat.le_refl _) (by decide) (pm_kv (fun σ' cnt' hq => ?_))
                obtain ⟨rfl, rfl⟩ := hq
                obtain ⟨n_565, en_565⟩ : ∃ f : Nat → Int32, f = upd n_559 (14 * k468 + 111) zb := ⟨_, rfl⟩
                rw [← en_565]
                have hnn_565 := KI.w en_565 hnn_559 (okv_f (show kd (14 * k468 + 111) = (0, 0, false) from (kd_P (k := k468) (c := 1) (by omega) (by omega) (by decide))))
                have hrn_565 := NRx.w en_565 hrn_559 (by rw [(show kd (14 * k468 + 111) = (0, 0, false) from (kd_P (k := k468) (c := 1) (by omega) (by omega) (by decide)))])
                have e566 : n_565 11 = nI kc11 := by rw [en_565, pk_un (by omega)]; exact e560
                have e567 : n_565 8 = nI k4 := by rw [en_565, pk_un (by omega)]; exact e561
                have e568 : n_565 0 = nI k464 := by rw [en_565, pk_un (by omega)]; exact e562
                have e569 : n_565 2 = nI (k468 + 1) := by rw [en_565, pk_un (by omega)]; exact e563
                have e570 : n_565 (14 * k468 + 111) = zb := by rw [en_565, pk_us]
                refine pm_aloadn hG dX12_person_159 rfl ?_
                refine pm_iloadi hG dX12_person_160 rfl ?_
                refine pm_iconst (v := nI 2) hG dX12_person_162 (by decide) ?_
                refine pm_iloadn hG dX12_person_163 rfl ?_
                refine pm_top (v := nI k10) ek10 ?_
                refine pm_bipush (v := nI 100) hG dX12_person_164 (by decide) ?_
                refine pm_idivN hG dX12_person_166 (by omega) (by decide) (by decide) ?_
                refine pm_iconst (v := nI 1) hG dX12_person_167 (by decide) ?_
                refine pm_isub hG dX12_person_168 ?_
                refine pm_top (v := nI k12) ek12 ?_
                refine pm_callV (As := [.int (nI k468), .int (nI 2), .int (nI k12)]) (rest := []) hG hR dX12_person_169 (lkX12_97 _ rfl) okV_X12_sets rfl rfl (m_sets (d := 2) (e := 14 * k468 + 112) (by omega) (by omega) (by omega)) rfl rfl hdd (Nat.le_refl _) (Nat.le_refl _) (by decide) (pm_kv (fun σ' cnt' hq => ?_))
                obtain ⟨rfl, rfl⟩ := hq
                obtain ⟨n_571, en_571⟩ : ∃ f : Nat → Int32, f = upd n_565 (14 * k468 + 112) (nI k12) := ⟨_, rfl⟩
                rw [← en_571]
                have hnn_571 := KI.w en_571 hnn_565 (okv_o (show kd (14 * k468 + 112) = (2, 20, false) from (kd_P (k := k468) (c := 2) (by omega) (by omega) (by decide))) (by omega))
                have hrn_571 := NRx.w en_571 hrn_565 (by rw [(show kd (14 * k468 + 112) = (2, 20, false) from (kd_P (k := k468) (c := 2) (by omega) (by omega) (by decide)))])
                have e572 : n_571 11 = nI kc11 := by rw [en_571, pk_un (by omega)]; exact e566
                have e573 : n_571 8 = nI k4 := by rw [en_571, pk_un (by omega)]; exact e567
                have e574 : n_571 0 = nI k464 := by rw [en_571, pk_un (by omega)]; exact e568
                have e575 : n_571 2 = nI (k468 + 1) := by rw [en_571, pk_un (by omega)]; exact e569
                have e576 : n_571 (14 * k468 + 112) = nI k12 := by rw [en_571, pk_us]
                refine pm_aloadn hG dX12_person_172 rfl ?_
                refine pm_iloadi hG dX12_person_173 rfl ?_
                refine pm_iconst (v := nI 3) hG dX12_person_175 (by decide) ?_
                refine pm_iloadn hG dX12_person_176 rfl ?_
                refine pm_top (v := nI k10) ek10 ?_
                refine pm_bipush (v := nI 100) hG dX12_person_177 (by decide) ?_
                refine pm_iremM hG dX12_person_179 (by omega) (by decide) (by decide) ?_
                refine pm_iconst (v := nI 1) hG dX12_person_180 (by decide) ?_
                refine pm_isub hG dX12_person_181 ?_
                refine pm_top (v := nI k314) ek314 ?_
                refine pm_callV (As := [.int (nI k468), .int (nI 3), .int (nI k314)]) (rest := []) hG hR dX12_person_182 (lkX12_97 _ rfl) okV_X12_sets rfl rfl (m_sets (d := 2) (e := 14 * k468 + 113) (by omega) (by omega) (by omega)) rfl rfl hdd (Nat.le_refl _) (Nat.le_refl _) (by decide) (pm_kv (fun σ' cnt' hq => ?_))
                obtain ⟨rfl, rfl⟩ := hq
                obtain ⟨n_577, en_577⟩ : ∃ f : Nat → Int32, f = upd n_571 (14 * k468 + 113) (nI k314) := ⟨_, rfl⟩
                rw [← en_577]
                have hnn_577 := KI.w en_577 hnn_571 (okv_o (show kd (14 * k468 + 113) = (2, 20, false) from (kd_P (k := k468) (c := 3) (by omega) (by omega) (by decide))) (by omega))
                have hrn_577 := NRx.w en_577 hrn_571 (by rw [(show kd (14 * k468 + 113) = (2, 20, false) from (kd_P (k := k468) (c := 3) (by omega) (by omega) (by decide)))])
                have e578 : n_577 11 = nI kc11 := by rw [en_577, pk_un (by omega)]; exact e572
                have e579 : n_577 8 = nI k4 := by rw [en_577, pk_un (by omega)]; exact e573
                have e580 : n_577 0 = nI k464 := by rw [en_577, pk_un (by omega)]; exact e574
                have e581 : n_577 2 = nI (k468 + 1) := by rw [en_577, pk_un (by omega)]; exact e575
                have e582 : n_577 (14 * k468 + 113) = nI k314 := by rw [en_577, pk_us]
                refine pm_aloadn hG dX12_person_185 rfl ?_
                refine pm_iloadi hG dX12_person_186 rfl ?_
                refine pm_iconst (v := nI 4) hG dX12_person_188 (by decide) ?_
                refine pm_iloadi hG dX12_person_189 rfl ?_
                refine pm_top (v := nI k467) ek467 ?_
                refine pm_callV (As := [.int (nI k468), .int (nI 4), .int (nI k467)]) (rest := []) hG hR dX12_person_191 (lkX12_97 _ rfl) okV_X12_sets rfl rfl (m_sets (d := 2) (e := 14 * k468 + 114) (by omega) (by omega) (by omega)) rfl rfl hdd (Nat.le_refl _) (Nat.le_refl _) (by decide) (pm_kv (fun σ' cnt' hq => ?_))
                obtain ⟨rfl, rfl⟩ := hq
                obtain ⟨n_583, en_583⟩ : ∃ f : Nat → Int32, f = upd n_577 (14 * k468 + 114) (nI k467) := ⟨_, rfl⟩
                rw [← en_583]
                have hnn_583 := KI.w en_583 hnn_577 (okv_o (show kd (14 * k468 + 114) = (2, 10, false) from (kd_P (k := k468) (c := 4) (by omega) (by omega) (by decide))) (by omega))
                have hrn_583 := NRx.w en_583 hrn_577 (by rw [(show kd (14 * k468 + 114) = (2, 10, false) from (kd_P (k := k468) (c := 4) (by omega) (by omega) (by decide)))])
                have e584 : n_583 11 = nI kc11 := by rw [en_583, pk_un (by omega)]; exact e578
                have e585 : n_583 8 = nI k4 := by rw [en_583, pk_un (by omega)]; exact e579
                have e586 : n_583 0 = nI k464 := by rw [en_583, pk_un (by omega)]; exact e580
                have e587 : n_583 2 = nI (k468 + 1) := by rw [en_583, pk_un (by omega)]; exact e581
                have e588 : n_583 (14 * k468 + 114) = nI k467 := by rw [en_583, pk_us]
                refine pm_aloadn hG dX12_person_194 rfl ?_
                refine pm_iloadi hG dX12_person_195 rfl ?_
                refine pm_bipush (v := nI 9) hG dX12_person_197 (by decide) ?_
                refine pm_iconst (v := (-1)) hG dX12_person_199 (by decide) ?_
                refine pm_callV (As := [.int (nI k468), .int (nI 9), .int (-1)]) (rest := []) hG hR dX12_person_200 (lkX12_97 _ rfl) okV_X12_sets rfl rfl (m_sets (d := 2) (e := 14 * k468 + 119) (by omega) (by omega) (by omega)) rfl rfl hdd (Nat.le_refl _) (Nat.le_refl _) (by decide) (pm_kv (fun σ' cnt' hq => ?_))
                obtain ⟨rfl, rfl⟩ := hq
                obtain ⟨n_589, en_589⟩ : ∃ f : Nat → Int32, f = upd n_583 (14 * k468 + 119) (-1) := ⟨_, rfl⟩
                rw [← en_589]
                have hnn_589 := KI.w en_589 hnn_583 (okv_m (show kd (14 * k468 + 119) = (2, 2001, false) from (kd_P (k := k468) (c := 9) (by omega) (by omega) (by decide))))
                have hrn_589 := NRx.w en_589 hrn_583 (by rw [(show kd (14 * k468 + 119) = (2, 2001, false) from (kd_P (k := k468) (c := 9) (by omega) (by omega) (by decide)))])
                have e590 : n_589 11 = nI kc11 := by rw [en_589, pk_un (by omega)]; exact e584
                have e591 : n_589 8 = nI k4 := by rw [en_589, pk_un (by omega)]; exact e585
                have e592 : n_589 0 = nI k464 := by rw [en_589, pk_un (by omega)]; exact e586
                have e593 : n_589 2 = nI (k468 + 1) := by rw [en_589, pk_un (by omega)]; exact e587
                have e594 : n_589 (14 * k468 + 119) = (-1) := by rw [en_589, pk_us]
                refine pm_aloadn hG dX12_person_203 rfl ?_
                refine pm_iloadi hG dX12_person_204 rfl ?_
                refine pm_bipush (v := nI 10) hG dX12_person_206 (by decide) ?_
                refine pm_iconst (v := (-1)) hG dX12_person_208 (by decide) ?_
                refine pm_callV (As := [.int (nI k468), .int (nI 10), .int (-1)]) (rest := []) hG hR dX12_person_209 (lkX12_97 _ rfl) okV_X12_sets rfl rfl (m_sets (d := 2) (e := 14 * k468 + 120) (by omega) (by omega) (by omega)) rfl rfl hdd (Nat.le_refl _) (Nat.le_refl _) (by decide) (pm_kv (fun σ' cnt' hq => ?_))
                obtain ⟨rfl, rfl⟩ := hq
                obtain ⟨n_595, en_595⟩ : ∃ f : Nat → Int32, f = upd n_589 (14 * k468 + 120) (-1) := ⟨_, rfl⟩
                rw [← en_595]
                have hnn_595 := KI.w en_595 hnn_589 (okv_f (show kd (14 * k468 + 120) = (0, 0, false) from (kd_P (k := k468) (c := 10) (by omega) (by omega) (by decide))))
                have hrn_595 := NRx.w en_595 hrn_589 (by rw [(show kd (14 * k468 + 120) = (0, 0, false) from (kd_P (k := k468) (c := 10) (by omega) (by omega) (by decide)))])
                have e596 : n_595 11 = nI kc11 := by rw [en_595, pk_un (by omega)]; exact e590
                have e597 : n_595 8 = nI k4 := by rw [en_595, pk_un (by omega)]; exact e591
                have e598 : n_595 0 = nI k464 := by rw [en_595, pk_un (by omega)]; exact e592
                have e599 : n_595 2 = nI (k468 + 1) := by rw [en_595, pk_un (by omega)]; exact e593
                have e600 : n_595 (14 * k468 + 120) = (-1) := by rw [en_595, pk_us]
                refine pm_aloadn hG dX12_person_212 rfl ?_
                refine pm_iloadi hG dX12_person_213 rfl ?_
                refine pm_bipush (v := nI 12) hG dX12_person_215 (by decide) ?_
                refine pm_iconst (v := nI 1) hG dX12_person_217 (by decide) ?_
                refine pm_callV (As := [.int (nI k468), .int (nI 12), .int (nI 1)]) (rest := []) hG hR dX12_person_218 (lkX12_97 _ rfl) okV_X12_sets rfl rfl (m_sets (d := 2) (e := 14 * k468 + 122) (by omega) (by omega) (by omega)) rfl rfl hdd (Nat.le_refl _) (Nat.le_refl _) (by decide) (pm_kv (fun σ' cnt' hq => ?_))
                obtain ⟨rfl, rfl⟩ := hq
                obtain ⟨n_601, en_601⟩ : ∃ f : Nat → Int32, f = upd n_595 (14 * k468 + 122) (nI 1) := ⟨_, rfl⟩
                rw [← en_601]
                have hnn_601 := KI.w en_601 hnn_595 (okv_f (show kd (14 * k468 + 122) = (0, 0, false) from (kd_P (k := k468) (c := 12) (by omega) (by omega) (by decide))))
                have hrn_601 := NRx.w en_601 hrn_595 (by rw [(show kd (14 * k468 + 122) = (0, 0, false) from (kd_P (k := k468) (c := 12) (by omega) (by omega) (by decide)))])
                have e602 : n_601 11 = nI kc11 := by rw [en_601, pk_un (by omega)]; exact e596
                have e603 : n_601 8 = nI k4 := by rw [en_601, pk_un (by omega)]; exact e597
                have e604 : n_601 0 = nI k464 := by rw [en_601, pk_un (by omega)]; exact e598
                have e605 : n_601 2 = nI (k468 + 1) := by rw [en_601, pk_un (by omega)]; exact e599
                have e606 : n_601 (14 * k468 + 122) = nI 1 := by rw [en_601, pk_us]
                refine pm_iloadi hG dX12_person_221 rfl ?_
                exact pm_iret hG hF dX12_person_223 rfl (Nat.le_refl _) (Nat.le_refl _) ⟨_, rfl, ⟨_, _, _, rfl, hnn_601, hrn_601, e602.trans ekc11.symm⟩, rfl⟩
              · refine pm_aloadn hG dX12_person_102 rfl ?_
                refine pm_iconst (v := nI 4) hG dX12_person_103 (by decide) ?_
                refine pm_callV (As := [.int (nI 4)]) (rest := []) hG hR dX12_person_104 (lkX12_80 _ rfl) okV_X12_finds rfl rfl (m_finds (d := 2) (by decide) hn hz (by omega)) rfl rfl hdd (Nat.le_refl _) (Nat.le_refl _) (by decide) (pm_ki (fun v607 σ' cnt' hq => ?_))
                obtain ⟨⟨I608, A608, rfl⟩, rfl, fv607⟩ := hq
                exact pm_iret hG hF dX12_person_107 rfl (Nat.le_refl _) (Nat.le_refl _) ⟨_, rfl, ⟨_, _, _, rfl, hn, hr, ekc11.trans ekc11.symm⟩, rfl⟩
            · refine pm_ifN_eq (tgt := 73) hG dX12_person_66 rfl (by omega) (fun _ => ?_) (fun q => absurd q (by omega))
              refine pm_iconst (v := nI 0) hG dX12_person_73 (by decide) ?_
              refine pm_istoreXi (loc' := [some (.ref (B + 54)), some (.int za), some (.int zb), some (.int zc), some (.int zd), some (.int (nI 0)), none, none]) hG dX12_person_74 (by decide) (pm_c1b rfl) rfl ?_
              refine pm_iloadi hG dX12_person_76 rfl ?_
              refine pm_ifN_ne (tgt := 87) hG dX12_person_78 rfl (by omega) (fun q => absurd q (by omega)) (fun _ => ?_)
              refine pm_aloadn hG dX12_person_81 rfl ?_
              refine pm_iconst (v := nI 1) hG dX12_person_82 (by decide) ?_
              refine pm_callV (As := [.int (nI 1)]) (rest := []) hG hR dX12_person_83 (lkX12_80 _ rfl) okV_X12_finds rfl rfl (m_finds (d := 2) (by decide) hn hz (by omega)) rfl rfl hdd (Nat.le_refl _) (Nat.le_refl _) (by decide) (pm_ki (fun v609 σ' cnt' hq => ?_))
              obtain ⟨⟨I610, A610, rfl⟩, rfl, fv609⟩ := hq
              exact pm_iret hG hF dX12_person_86 rfl (Nat.le_refl _) (Nat.le_refl _) ⟨_, rfl, ⟨_, _, _, rfl, hn, hr, ekc11.trans ekc11.symm⟩, rfl⟩
    · refine pm_ifN_eq (tgt := 73) hG dX12_person_23 rfl (by omega) (fun _ => ?_) (fun q => absurd q (by omega))
      refine pm_iconst (v := nI 0) hG dX12_person_73 (by decide) ?_
      refine pm_istoreXi (loc' := [some (.ref (B + 54)), some (.int za), some (.int zb), some (.int zc), some (.int zd), some (.int (nI 0)), none, none]) hG dX12_person_74 (by decide) (pm_c1b rfl) rfl ?_
      refine pm_iloadi hG dX12_person_76 rfl ?_
      refine pm_ifN_ne (tgt := 87) hG dX12_person_78 rfl (by omega) (fun q => absurd q (by omega)) (fun _ => ?_)
      refine pm_aloadn hG dX12_person_81 rfl ?_
      refine pm_iconst (v := nI 1) hG dX12_person_82 (by decide) ?_
      refine pm_callV (As := [.int (nI 1)]) (rest := []) hG hR dX12_person_83 (lkX12_80 _ rfl) okV_X12_finds rfl rfl (m_finds (d := 2) (by decide) hn hz (by omega)) rfl rfl hdd (Nat.le_refl _) (Nat.le_refl _) (by decide) (pm_ki (fun v611 σ' cnt' hq => ?_))
      obtain ⟨⟨I612, A612, rfl⟩, rfl, fv611⟩ := hq
      exact pm_iret hG hF dX12_person_86 rfl (Nat.le_refl _) (Nat.le_refl _) ⟨_, rfl, ⟨_, _, _, rfl, hn, hr, ekc11.trans ekc11.symm⟩, rfl⟩
  · refine pm_ifN_eq (tgt := 73) hG dX12_person_6 rfl (by omega) (fun _ => ?_) (fun q => absurd q (by omega))
    refine pm_iconst (v := nI 0) hG dX12_person_73 (by decide) ?_
    refine pm_istoreXi (loc' := [some (.ref (B + 54)), some (.int za), some (.int zb), some (.int zc), some (.int zd), some (.int (nI 0)), none, none]) hG dX12_person_74 (by decide) (pm_c1b rfl) rfl ?_
    refine pm_iloadi hG dX12_person_76 rfl ?_
    refine pm_ifN_ne (tgt := 87) hG dX12_person_78 rfl (by omega) (fun q => absurd q (by omega)) (fun _ => ?_)
    refine pm_aloadn hG dX12_person_81 rfl ?_
    refine pm_iconst (v := nI 1) hG dX12_person_82 (by decide) ?_
    refine pm_callV (As := [.int (nI 1)]) (rest := []) hG hR dX12_person_83 (lkX12_80 _ rfl) okV_X12_finds rfl rfl (m_finds (d := 2) (by decide) hn hz (by omega)) rfl rfl hdd (Nat.le_refl _) (Nat.le_refl _) (by decide) (pm_ki (fun v613 σ' cnt' hq => ?_))
    obtain ⟨⟨I614, A614, rfl⟩, rfl, fv613⟩ := hq
    exact pm_iret hG hF dX12_person_86 rfl (Nat.le_refl _) (Nat.le_refl _) ⟨_, rfl, ⟨_, _, _, rfl, hn, hr, ekc11.trans ekc11.symm⟩, rfl⟩
