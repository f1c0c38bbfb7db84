set_option maxRecDepth 100000 in
set_option maxHeartbeats 4000000 in
theorem m_own {d B cnt p0 t0 : Nat} {σ : pm_S} {I : Nat → Int32} {A : Nat → Nat → Int32} {n k z : Nat → Int32} {ac wt pl im : Int32} {za zb : Int32} (hdd : 2 ≤ d) (hn : KI n) (hr : NR n) (hz : SZ z)  : pm_met mX12_own d 0 0 B [.ref (B + 54), .int za, .int zb] cnt (pm_mid σ (md_L B I A n k z ac wt pl (nI p0) (nI t0) im)) (pm_Qi (fun v σ' cnt' => (∃ (I' : Nat → Int32) (A' : Nat → Nat → Int32) (n' : Nat → Int32), σ' = pm_mid σ (md_L B I' A' n' k z ac wt pl (nI p0) (nI t0) im) ∧ KI n' ∧ NR n' ∧ n' 8 = n 8) ∧ cnt = cnt')) := by
  obtain ⟨kc8, hkc8, ekc8⟩ := KI.nat hn (show kd 8 = (1, 2001, false) by decide)
  refine pm_enter 1 (by decide) (Nat.le_of_ble_eq_true rfl) rfl (fun G hG hR hF => ?_)
  refine pm_aloadn hG dX12_own_0 rfl ?_
  refine pm_iloadn hG dX12_own_1 rfl ?_
  obtain ⟨k1, hk1, ek1⟩ := KI.nat hn (show kd 0 = (1, 11, true) by decide)
  refine pm_callV (As := [.int za]) (rest := []) hG hR dX12_own_2 (lkX12_84 _ rfl) okV_X12_isTown rfl rfl (m_isTown (d := 1) (by decide) ek1 (by omega)) rfl rfl hdd (Nat.le_refl _) (Nat.le_refl _) (by decide) (pm_ki (fun v2 σ' cnt' hq => ?_))
  obtain ⟨hq, rfl, rfl⟩ := hq
  rcases hq with ⟨rfl, k4, hk4, ek4⟩ | rfl
  · refine pm_ifN_eq (tgt := 29) hG dX12_own_5 rfl (by omega) (fun q => absurd q (by omega)) (fun _ => ?_)
    refine pm_iloadn hG dX12_own_8 rfl ?_
    refine pm_iconst (v := (-1)) hG dX12_own_9 (by decide) ?_
    refine pm_icmp_eq (tgt := 35) hG dX12_own_10 rfl (fun c5 => ?_) (fun c5 => ?_)
    · refine pm_aloadn hG dX12_own_35 rfl ?_
      refine pm_getf hG dX12_own_36 (flX12_7 _ rfl) rfl rfl ?_
      refine pm_bipush (v := nI 20) hG dX12_own_39 (by decide) ?_
      refine pm_iconst (v := nI 3) hG dX12_own_41 (by decide) ?_
      refine pm_iloadn hG dX12_own_42 rfl ?_
      refine pm_top (v := nI k4) ek4 ?_
      refine pm_imulN (c := 3 * k4) hG dX12_own_43 (by omega) ?_
      refine pm_iaddN (c := 3 * k4 + 20) hG dX12_own_44 (by omega) ?_
      refine pm_iconst (v := nI 2) hG dX12_own_45 (by decide) ?_
      refine pm_iaddN (c := 3 * k4 + 22) hG dX12_own_46 (by omega) ?_
      refine pm_ialdN hG dX12_own_47 rfl (by decide) (by omega) ?_
      refine pm_gen (fun x6 ex6 => ?_)
      refine pm_iconst (v := nI 1) hG dX12_own_48 (by decide) ?_
      refine pm_icmp_ne (tgt := 58) hG dX12_own_49 rfl (fun c7 => ?_) (fun c7 => ?_)
      · refine pm_aloadn hG dX12_own_58 rfl ?_
        refine pm_getf hG dX12_own_59 (flX12_7 _ rfl) rfl rfl ?_
        refine pm_bipush (v := nI 20) hG dX12_own_62 (by decide) ?_
        refine pm_iconst (v := nI 3) hG dX12_own_64 (by decide) ?_
        refine pm_iloadn hG dX12_own_65 rfl ?_
        refine pm_top (v := nI k4) ek4 ?_
        refine pm_imulN (c := 3 * k4) hG dX12_own_66 (by omega) ?_
        refine pm_iaddN (c := 3 * k4 + 20) hG dX12_own_67 (by omega) ?_
        refine pm_iconst (v := nI 1) hG dX12_own_68 (by decide) ?_
        refine pm_iaddN (c := 3 * k4 + 21) hG dX12_own_69 (by omega) ?_
        refine pm_ialdN hG dX12_own_70 rfl (by decide) (by omega) ?_
        rcases KI.opt hn (show kd (3 * k4 + 21) = (2, 20, false) from (kd_T (k := k4) (c := 1) (by omega) (by omega) (by decide))) with ek8 | ⟨k8, hk8, ek8⟩
        · refine pm_top (v := (-1)) ek8 ?_
          refine pm_istoreXn (loc' := [some (.ref (B + 54)), some (.int za), some (.int zb), some (.int (-1))]) hG dX12_own_71 (by decide) (pm_c1b rfl) rfl ?_
          refine pm_aloadn hG dX12_own_72 rfl ?_
          refine pm_getf hG dX12_own_73 (flX12_7 _ rfl) rfl rfl ?_
          refine pm_bipush (v := nI 20) hG dX12_own_76 (by decide) ?_
          refine pm_iconst (v := nI 3) hG dX12_own_78 (by decide) ?_
          refine pm_iloadn hG dX12_own_79 rfl ?_
          refine pm_top (v := nI k4) ek4 ?_
          refine pm_imulN (c := 3 * k4) hG dX12_own_80 (by omega) ?_
          refine pm_iaddN (c := 3 * k4 + 20) hG dX12_own_81 (by omega) ?_
          refine pm_iconst (v := nI 1) hG dX12_own_82 (by decide) ?_
          refine pm_iaddN (c := 3 * k4 + 21) hG dX12_own_83 (by omega) ?_
          refine pm_iloadn hG dX12_own_84 rfl ?_
          refine pm_top (v := (-1)) c5 ?_
          refine pm_iastN hG dX12_own_85 rfl (by decide) (by omega) ?_
          refine mdn_now (fun n_9 en_9 => ?_)
          have hnn_9 := KI.w en_9 hn (okv_m (show kd (3 * k4 + 21) = (2, 20, false) from (kd_T (k := k4) (c := 1) (by omega) (by omega) (by decide))))
          have hrn_9 := NRx.w en_9 hr (by rw [(show kd (3 * k4 + 21) = (2, 20, false) from (kd_T (k := k4) (c := 1) (by omega) (by omega) (by decide)))])
          have e10 : n_9 8 = nI kc8 := by rw [en_9, pk_un (by omega)]; exact ekc8
          have e11 : n_9 0 = nI k1 := by rw [en_9, pk_un (by omega)]; exact ek1
          have e12 : n_9 (3 * k4 + 22) = x6 := by rw [en_9, pk_un (by omega)]; exact ex6
          have e13 : n_9 (3 * k4 + 21) = (-1) := by rw [en_9, pk_us]
          refine pm_iloadn hG dX12_own_86 rfl ?_
          exact pm_iret hG hF dX12_own_87 rfl (Nat.le_refl _) (Nat.le_refl _) ⟨_, rfl, ⟨_, _, _, rfl, hnn_9, hrn_9, e10.trans ekc8.symm⟩, rfl⟩
        · refine pm_top (v := nI k8) ek8 ?_
          refine pm_istoreXn (loc' := [some (.ref (B + 54)), some (.int za), some (.int zb), some (.int (nI k8))]) hG dX12_own_71 (by decide) (pm_c1b rfl) rfl ?_
          refine pm_aloadn hG dX12_own_72 rfl ?_
          refine pm_getf hG dX12_own_73 (flX12_7 _ rfl) rfl rfl ?_
          refine pm_bipush (v := nI 20) hG dX12_own_76 (by decide) ?_
          refine pm_iconst (v := nI 3) hG dX12_own_78 (by decide) ?_
          refine pm_iloadn hG dX12_own_79 rfl ?_
          refine pm_top (v := nI k4) ek4 ?_
          refine pm_imulN (c := 3 * k4) hG dX12_own_80 (by omega) ?_
          refine pm_iaddN (c := 3 * k4 + 20) hG dX12_own_81 (by omega) ?_
          refine pm_iconst (v := nI 1) hG dX12_own_82 (by decide) ?_
          refine pm_iaddN (c := 3 * k4 + 21) hG dX12_own_83 (by omega) ?_
          refine pm_iloadn hG dX12_own_84 rfl ?_
          refine pm_top (v := (-1)) c5 ?_
          refine pm_iastN hG dX12_own_85 rfl (by decide) (by omega) ?_
          refine mdn_now (fun n_14 en_14 => ?_)
          have hnn_14 := KI.w en_14 hn (okv_m (show kd (3 * k4 + 21) = (2, 20, false) from (kd_T (k := k4) (c := 1) (by omega) (by omega) (by decide))))
          have hrn_14 := NRx.w en_14 hr (by rw [(show kd (3 * k4 + 21) = (2, 20, false) from (kd_T (k := k4) (c := 1) (by omega) (by omega) (by decide)))])
          have e15 : n_14 8 = nI kc8 := by rw [en_14, pk_un (by omega)]; exact ekc8
          have e16 : n_14 0 = nI k1 := by rw [en_14, pk_un (by omega)]; exact ek1
          have e17 : n_14 (3 * k4 + 22) = x6 := by rw [en_14, pk_un (by omega)]; exact ex6
          have e18 : n_14 (3 * k4 + 21) = (-1) := by rw [en_14, pk_us]
          refine pm_iloadn hG dX12_own_86 rfl ?_
          exact pm_iret hG hF dX12_own_87 rfl (Nat.le_refl _) (Nat.le_refl _) ⟨_, rfl, ⟨_, _, _, rfl, hnn_14, hrn_14, e15.trans ekc8.symm⟩, rfl⟩
      · refine pm_aloadn hG dX12_own_52 rfl ?_
        refine pm_iconst (v := nI 3) hG dX12_own_53 (by decide) ?_
        refine pm_callV (As := [.int (nI 3)]) (rest := []) hG hR dX12_own_54 (lkX12_80 _ rfl) okV_X12_finds rfl rfl (m_finds (d := 1) (by decide) hn hz (by omega)) rfl rfl hdd (Nat.le_refl _) (Nat.le_refl _) (by decide) (pm_ki (fun v19 σ' cnt' hq => ?_))
        obtain ⟨⟨I20, A20, rfl⟩, rfl, fv19⟩ := hq
        exact pm_iret hG hF dX12_own_57 rfl (Nat.le_refl _) (Nat.le_refl _) ⟨_, rfl, ⟨_, _, _, rfl, hn, hr, ekc8.trans ekc8.symm⟩, rfl⟩
    · refine pm_aloadn hG dX12_own_13 rfl ?_
      refine pm_iloadn hG dX12_own_14 rfl ?_
      obtain ⟨k21, hk21, ek21⟩ := KI.nat hn (show kd 2 = (1, 21, true) by decide)
      refine pm_callV (As := [.int zb]) (rest := []) hG hR dX12_own_15 (lkX12_91 _ rfl) okV_X12_isPerson rfl rfl (m_isPerson (d := 1) (by decide) ek21 (by omega)) rfl rfl hdd (Nat.le_refl _) (Nat.le_refl _) (by decide) (pm_ki (fun v22 σ' cnt' hq => ?_))
      obtain ⟨hq, rfl, rfl⟩ := hq
      rcases hq with ⟨rfl, k24, hk24, ek24⟩ | rfl
      · refine pm_ifN_eq (tgt := 29) hG dX12_own_18 rfl (by omega) (fun q => absurd q (by omega)) (fun _ => ?_)
        refine pm_aloadn hG dX12_own_21 rfl ?_
        refine pm_iloadn hG dX12_own_22 rfl ?_
        refine pm_top (v := nI k24) ek24 ?_
        rcases KI.opt hn (show kd (14 * k24 + 119) = (2, 2001, false) from (kd_P (k := k24) (c := 9) (by omega) (by omega) (by decide))) with ek25 | ⟨k25, hk25, ek25⟩
        · refine pm_callV (As := [.int (nI k24)]) (rest := []) hG hR dX12_own_23 (lkX12_101 _ rfl) okV_X12_lives rfl rfl (m_lives1 (d := 1) (by decide) (by omega) (by omega : 14 * k24 + 119 = 14 * k24 + 119) ek25) rfl rfl hdd (Nat.le_refl _) (Nat.le_refl _) (by decide) (pm_ki (fun v26 σ' cnt' hq => ?_))
          obtain ⟨rfl, rfl, rfl⟩ := hq
          refine pm_ifN_ne (tgt := 35) hG dX12_own_26 rfl (by omega) (fun _ => ?_) (fun q => absurd q (by omega))
          refine pm_aloadn hG dX12_own_35 rfl ?_
          refine pm_getf hG dX12_own_36 (flX12_7 _ rfl) rfl rfl ?_
          refine pm_bipush (v := nI 20) hG dX12_own_39 (by decide) ?_
          refine pm_iconst (v := nI 3) hG dX12_own_41 (by decide) ?_
          refine pm_iloadn hG dX12_own_42 rfl ?_
          refine pm_top (v := nI k4) ek4 ?_
          refine pm_imulN (c := 3 * k4) hG dX12_own_43 (by omega) ?_
          refine pm_iaddN (c := 3 * k4 + 20) hG dX12_own_44 (by omega) ?_
          refine pm_iconst (v := nI 2) hG dX12_own_45 (by decide) ?_
          refine pm_iaddN (c := 3 * k4 + 22) hG dX12_own_46 (by omega) ?_
          refine pm_ialdN hG dX12_own_47 rfl (by decide) (by omega) ?_
          refine pm_gen (fun x27 ex27 => ?_)
          refine pm_iconst (v := nI 1) hG dX12_own_48 (by decide) ?_
          refine pm_icmp_ne (tgt := 58) hG dX12_own_49 rfl (fun c28 => ?_) (fun c28 => ?_)
          · refine pm_aloadn hG dX12_own_58 rfl ?_
            refine pm_getf hG dX12_own_59 (flX12_7 _ rfl) rfl rfl ?_
            refine pm_bipush (v := nI 20) hG dX12_own_62 (by decide) ?_
            refine pm_iconst (v := nI 3) hG dX12_own_64 (by decide) ?_
            refine pm_iloadn hG dX12_own_65 rfl ?_
            refine pm_top (v := nI k4) ek4 ?_
            refine pm_imulN (c := 3 * k4) hG dX12_own_66 (by omega) ?_
            refine pm_iaddN (c := 3 * k4 + 20) hG dX12_own_67 (by omega) ?_
            refine pm_iconst (v := nI 1) hG dX12_own_68 (by decide) ?_
            refine pm_iaddN (c := 3 * k4 + 21) hG dX12_own_69 (by omega) ?_
            refine pm_ialdN hG dX12_own_70 rfl (by decide) (by omega) ?_
            rcases KI.opt hn (show kd (3 * k4 + 21) = (2, 20, false) from (kd_T (k := k4) (c := 1) (by omega) (by omega) (by decide))) with ek29 | ⟨k29, hk29, ek29⟩
            · refine pm_top (v := (-1)) ek29 ?_
              refine pm_istoreXn (loc' := [some (.ref (B + 54)), some (.int za), some (.int zb), some (.int (-1))]) hG dX12_own_71 (by decide) (pm_c1b rfl) rfl ?_
              refine pm_aloadn hG dX12_own_72 rfl ?_
              refine pm_getf hG dX12_own_73 (flX12_7 _ rfl) rfl rfl ?_
              refine pm_bipush (v := nI 20) hG dX12_own_76 (by decide) ?_
              refine pm_iconst (v := nI 3) hG dX12_own_78 (by decide) ?_
              refine pm_iloadn hG dX12_own_79 rfl ?_
              refine pm_top (v := nI k4) ek4 ?_
              refine pm_imulN (c := 3 * k4) hG dX12_own_80 (by omega) ?_
              refine pm_iaddN (c := 3 * k4 + 20) hG dX12_own_81 (by omega) ?_
              refine pm_iconst (v := nI 1) hG dX12_own_82 (by decide) ?_
              refine pm_iaddN (c := 3 * k4 + 21) hG dX12_own_83 (by omega) ?_
              refine pm_iloadn hG dX12_own_84 rfl ?_
              refine pm_top (v := nI k24) ek24 ?_
              refine pm_iastN hG dX12_own_85 rfl (by decide) (by omega) ?_
              refine mdn_now (fun n_30 en_30 => ?_)
              have hnn_30 := KI.w en_30 hn (okv_o (show kd (3 * k4 + 21) = (2, 20, false) from (kd_T (k := k4) (c := 1) (by omega) (by omega) (by decide))) (by omega))
              have hrn_30 := NRx.w en_30 hr (by rw [(show kd (3 * k4 + 21) = (2, 20, false) from (kd_T (k := k4) (c := 1) (by omega) (by omega) (by decide)))])
              have e31 : n_30 8 = nI kc8 := by rw [en_30, pk_un (by omega)]; exact ekc8
              have e32 : n_30 0 = nI k1 := by rw [en_30, pk_un (by omega)]; exact ek1
              have e33 : n_30 2 = nI k21 := by rw [en_30, pk_un (by omega)]; exact ek21
              have e34 : n_30 (14 * k24 + 119) = (-1) := by rw [en_30, pk_un (by omega)]; exact ek25
              have e35 : n_30 (3 * k4 + 22) = x27 := by rw [en_30, pk_un (by omega)]; exact ex27
              have e36 : n_30 (3 * k4 + 21) = nI k24 := by rw [en_30, pk_us]
              refine pm_iloadn hG dX12_own_86 rfl ?_
              exact pm_iret hG hF dX12_own_87 rfl (Nat.le_refl _) (Nat.le_refl _) ⟨_, rfl, ⟨_, _, _, rfl, hnn_30, hrn_30, e31.trans ekc8.symm⟩, rfl⟩
            · refine pm_top (v := nI k29) ek29 ?_
              refine pm_istoreXn (loc' := [some (.ref (B + 54)), some (.int za), some (.int zb), some (.int (nI k29))]) hG dX12_own_71 (by decide) (pm_c1b rfl) rfl ?_
              refine pm_aloadn hG dX12_own_72 rfl ?_
              refine pm_getf hG dX12_own_73 (flX12_7 _ rfl) rfl rfl ?_
              refine pm_bipush (v := nI 20) hG dX12_own_76 (by decide) ?_
              refine pm_iconst (v := nI 3) hG dX12_own_78 (by decide) ?_
              refine pm_iloadn hG dX12_own_79 rfl ?_
              refine pm_top (v := nI k4) ek4 ?_
              refine pm_imulN (c := 3 * k4) hG dX12_own_80 (by omega) ?_
              refine pm_iaddN (c := 3 * k4 + 20) hG dX12_own_81 (by omega) ?_
              refine pm_iconst (v := nI 1) hG dX12_own_82 (by decide) ?_
              refine pm_iaddN (c := 3 * k4 + 21) hG dX12_own_83 (by omega) ?_
              refine pm_iloadn hG dX12_own_84 rfl ?_
              refine pm_top (v := nI k24) ek24 ?_
              refine pm_iastN hG dX12_own_85 rfl (by decide) (by omega) ?_
              refine mdn_now (fun n_37 en_37 => ?_)
              have hnn_37 := KI.w en_37 hn (okv_o (show kd (3 * k4 + 21) = (2, 20, false) from (kd_T (k := k4) (c := 1) (by omega) (by omega) (by decide))) (by omega))
              have hrn_37 := NRx.w en_37 hr (by rw [(show kd (3 * k4 + 21) = (2, 20, false) from (kd_T (k := k4) (c := 1) (by omega) (by omega) (by decide)))])
              have e38 : n_37 8 = nI kc8 := by rw [en_37, pk_un (by omega)]; exact ekc8
              have e39 : n_37 0 = nI k1 := by rw [en_37, pk_un (by omega)]; exact ek1
              have e40 : n_37 2 = nI k21 := by rw [en_37, pk_un (by omega)]; exact ek21
              have e41 : n_37 (14 * k24 + 119) = (-1) := by rw [en_37, pk_un (by omega)]; exact ek25
              have e42 : n_37 (3 * k4 + 22) = x27 := by rw [en_37, pk_un (by omega)]; exact ex27
              have e43 : n_37 (3 * k4 + 21) = nI k24 := by rw [en_37, pk_us]
              refine pm_iloadn hG dX12_own_86 rfl ?_
              exact pm_iret hG hF dX12_own_87 rfl (Nat.le_refl _) (Nat.le_refl _) ⟨_, rfl, ⟨_, _, _, rfl, hnn_37, hrn_37, e38.trans ekc8.symm⟩, rfl⟩
          · refine pm_aloadn hG dX12_own_52 rfl ?_
            refine pm_iconst (v := nI 3) hG dX12_own_53 (by decide) ?_
            refine pm_callV (As := [.int (nI 3)]) (rest := []) hG hR dX12_own_54 (lkX12_80 _ rfl) okV_X12_finds rfl rfl (m_finds (d := 1) (by decide) hn hz (by omega)) rfl rfl hdd (Nat.le_refl _) (Nat.le_refl _) (by decide) (pm_ki (fun v44 σ' cnt' hq => ?_))
            obtain ⟨⟨I45, A45, rfl⟩, rfl, fv44⟩ := hq
            exact pm_iret hG hF dX12_own_57 rfl (Nat.le_refl _) (Nat.le_refl _) ⟨_, rfl, ⟨_, _, _, rfl, hn, hr, ekc8.trans ekc8.symm⟩, rfl⟩
        · refine pm_callV (As := [.int (nI k24)]) (rest := []) hG hR dX12_own_23 (lkX12_101 _ rfl) okV_X12_lives rfl rfl (m_lives0 (d := 1) (by decide) (by omega) (by omega : 14 * k24 + 119 = 14 * k24 + 119) ek25 (by omega)) rfl rfl hdd (Nat.le_refl _) (Nat.le_refl _) (by decide) (pm_ki (fun v46 σ' cnt' hq => ?_))
          obtain ⟨rfl, rfl, rfl⟩ := hq
          refine pm_ifN_ne (tgt := 35) hG dX12_own_26 rfl (by omega) (fun q => absurd q (by omega)) (fun _ => ?_)
          refine pm_aloadn hG dX12_own_29 rfl ?_
          refine pm_iconst (v := nI 1) hG dX12_own_30 (by decide) ?_
          refine pm_callV (As := [.int (nI 1)]) (rest := []) hG hR dX12_own_31 (lkX12_80 _ rfl) okV_X12_finds rfl rfl (m_finds (d := 1) (by decide) hn hz (by omega)) rfl rfl hdd (Nat.le_refl _) (Nat.le_refl _) (by decide) (pm_ki (fun v47 σ' cnt' hq => ?_))
          obtain ⟨⟨I48, A48, rfl⟩, rfl, fv47⟩ := hq
          exact pm_iret hG hF dX12_own_34 rfl (Nat.le_refl _) (Nat.le_refl _) ⟨_, rfl, ⟨_, _, _, rfl, hn, hr, ekc8.trans ekc8.symm⟩, rfl⟩
      · refine pm_ifN_eq (tgt := 29) hG dX12_own_18 rfl (by omega) (fun _ => ?_) (fun q => absurd q (by omega))
        refine pm_aloadn hG dX12_own_29 rfl ?_
        refine pm_iconst (v := nI 1) hG dX12_own_30 (by decide) ?_
        refine pm_callV (As := [.int (nI 1)]) (rest := []) hG hR dX12_own_31 (lkX12_80 _ rfl) okV_X12_finds rfl rfl (m_finds (d := 1) (by decide) hn hz (by omega)) rfl rfl hdd (Nat.le_refl _) (Nat.le_refl _) (by decide) (pm_ki (fun v49 σ' cnt' hq => ?_))
        obtain ⟨⟨I50, A50, rfl⟩, rfl, fv49⟩ := hq
        exact pm_iret hG hF dX12_own_34 rfl (Nat.le_refl _) (Nat.le_refl _) ⟨_, rfl, ⟨_, _, _, rfl, hn, hr, ekc8.trans ekc8.symm⟩, rfl⟩
  · refine pm_ifN_eq (tgt := 29) hG dX12_own_5 rfl (by omega) (fun _ => ?_) (fun q => absurd q (by omega))
    refine pm_aloadn hG dX12_own_29 rfl ?_
    refine pm_iconst (v := nI 1) hG dX12_own_30 (by decide) ?_
    refine pm_callV (As := [.int (nI 1)]) (rest := []) hG hR dX12_own_31 (lkX12_80 _ rfl) okV_X12_finds rfl rfl (m_finds (d := 1) (by decide) hn hz (by omega)) rfl rfl hdd (Nat.le_refl _) (Nat.le_refl _) (by decide) (pm_ki (fun v51 σ' cnt' hq => ?_))
    obtain ⟨⟨I52, A52, rfl⟩, rfl, fv51⟩ := hq
    exact pm_iret hG hF dX12_own_34 rfl (Nat.le_refl _) (Nat.le_refl _) ⟨_, rfl, ⟨_, _, _, rfl, hn, hr, ekc8.trans ekc8.symm⟩, rfl⟩

set_option maxRecDepth 100000 in
set_option maxHeartbeats 4000000 in
theorem m_pay {d B cnt p0 t0 : Nat} {σ : pm_S} {I : Nat → Int32} {A : Nat → Nat → Int32} {n k z : Nat → Int32} {ac wt pl im : Int32} {za zb : Int32} (hdd : 2 ≤ d) (hn : KI n) (hr : NR n) (hz : SZ z)  : pm_met mX12_pay d 0 0 B [.ref (B + 54), .int za, .int zb] cnt (pm_mid σ (md_L B I A n k z ac wt pl (nI p0) (nI t0) im)) (pm_Qi (fun v σ' cnt' => (∃ (I' : Nat → Int32) (A' : Nat → Nat → Int32) (n' : Nat → Int32), σ' = pm_mid σ (md_L B I' A' n' k z ac wt pl (nI p0) (nI t0) im) ∧ KI n' ∧ NR n' ∧ n' 8 = n 8) ∧ cnt = cnt')) := by
  obtain ⟨kc8, hkc8, ekc8⟩ := KI.nat hn (show kd 8 = (1, 2001, false) by decide)
  refine pm_enter 0 (by decide) (Nat.le_of_ble_eq_true rfl) rfl (fun G hG hR hF => ?_)
  refine pm_aloadn hG dX12_pay_0 rfl ?_
  refine pm_iloadn hG dX12_pay_1 rfl ?_
  obtain ⟨k1, hk1, ek1⟩ := KI.nat hn (show kd 2 = (1, 21, true) by decide)
  refine pm_callV (As := [.int za]) (rest := []) hG hR dX12_pay_2 (lkX12_91 _ rfl) okV_X12_isPerson rfl rfl (m_isPerson (d := 1) (by decide) ek1 (by omega)) rfl rfl hdd (Nat.le_refl _) (Nat.le_refl _) (by decide) (pm_ki (fun v2 σ' cnt' hq => ?_))
  obtain ⟨hq, rfl, rfl⟩ := hq
  rcases hq with ⟨rfl, k4, hk4, ek4⟩ | rfl
  · refine pm_ifN_eq (tgt := 19) hG dX12_pay_5 rfl (by omega) (fun q => absurd q (by omega)) (fun _ => ?_)
    refine pm_iloadn hG dX12_pay_8 rfl ?_
    refine pm_iconst (v := nI 1) hG dX12_pay_9 (by decide) ?_
    refine pm_sipush (v := nI 9999) hG dX12_pay_10 (by decide) ?_
    refine pm_callS (As := [.int zb, .int (nI 1), .int (nI 9999)]) (rest := []) hG hR dX12_pay_13 (lkX12_68 _ rfl) okS_X12_in (m_in (d := 1)) rfl rfl hdd (Nat.le_refl _) (Nat.le_refl _) (by decide) (pm_ki (fun v5 σ' cnt' hq => ?_))
    obtain ⟨hq, rfl, rfl⟩ := hq
    rcases hq with ⟨rfl, ac6, bc6⟩ | ⟨rfl, c6⟩
    · obtain ⟨k7, hk7, ek7⟩ := in_nat (by omega) (by omega) ac6 bc6
      refine pm_ifN_ne (tgt := 25) hG dX12_pay_16 rfl (by omega) (fun _ => ?_) (fun q => absurd q (by omega))
      refine pm_aloadn hG dX12_pay_25 rfl ?_
      refine pm_iloadn hG dX12_pay_26 rfl ?_
      refine pm_top (v := nI k4) ek4 ?_
      rcases KI.opt hn (show kd (14 * k4 + 119) = (2, 2001, false) from (kd_P (k := k4) (c := 9) (by omega) (by omega) (by decide))) with ek8 | ⟨k8, hk8, ek8⟩
      · refine pm_callV (As := [.int (nI k4)]) (rest := []) hG hR dX12_pay_27 (lkX12_101 _ rfl) okV_X12_lives rfl rfl (m_lives1 (d := 1) (by decide) (by omega) (by omega : 14 * k4 + 119 = 14 * k4 + 119) ek8) rfl rfl hdd (Nat.le_refl _) (Nat.le_refl _) (by decide) (pm_ki (fun v9 σ' cnt' hq => ?_))
        obtain ⟨rfl, rfl, rfl⟩ := hq
        refine pm_ifN_ne (tgt := 39) hG dX12_pay_30 rfl (by omega) (fun _ => ?_) (fun q => absurd q (by omega))
        refine pm_aloadn hG dX12_pay_39 rfl ?_
        refine pm_getf hG dX12_pay_40 (flX12_7 _ rfl) rfl rfl ?_
        refine pm_bipush (v := nI 9) hG dX12_pay_43 (by decide) ?_
        refine pm_ialdN hG dX12_pay_45 rfl (by decide) (by omega) ?_
        refine pm_gen (fun x10 ex10 => ?_)
        refine pm_iloadn hG dX12_pay_46 rfl ?_
        refine pm_top (v := nI k7) ek7 ?_
        refine pm_icmp_ge (tgt := 56) hG dX12_pay_47 rfl (fun c11 => ?_) (fun c11 => ?_)
        · refine pm_aloadn hG dX12_pay_56 rfl ?_
          refine pm_getf hG dX12_pay_57 (flX12_7 _ rfl) rfl rfl ?_
          refine pm_bipush (v := nI 9) hG dX12_pay_60 (by decide) ?_
          refine pm_dup2 hG dX12_pay_62 rfl rfl ?_
          refine pm_ialdN hG dX12_pay_63 rfl (by decide) (by omega) ?_
          refine pm_top (v := x10) ex10 ?_
          refine pm_iloadn hG dX12_pay_64 rfl ?_
          refine pm_top (v := nI k7) ek7 ?_
          refine pm_isub hG dX12_pay_65 ?_
          refine pm_iastN hG dX12_pay_66 rfl (by decide) (by omega) ?_
          refine mdn_now (fun n_12 en_12 => ?_)
          have hnn_12 := KI.w en_12 hn (okv_f (show kd 9 = (0, 0, false) by decide))
          have hrn_12 := NRx.w en_12 hr (by rw [(show kd 9 = (0, 0, false) by decide)])
          have e13 : n_12 8 = nI kc8 := by rw [en_12, pk_un (by omega)]; exact ekc8
          have e14 : n_12 2 = nI k1 := by rw [en_12, pk_un (by omega)]; exact ek1
          have e15 : n_12 (14 * k4 + 119) = (-1) := by rw [en_12, pk_un (by omega)]; exact ek8
          have e16 : n_12 9 = x10 - (nI k7) := by rw [en_12, pk_us]
          refine pm_aloadn hG dX12_pay_67 rfl ?_
          refine pm_iloadn hG dX12_pay_68 rfl ?_
          refine pm_top (v := nI k4) ek4 ?_
          refine pm_bipush (v := nI 7) hG dX12_pay_69 (by decide) ?_
          refine pm_aloadn hG dX12_pay_71 rfl ?_
          refine pm_iloadn hG dX12_pay_72 rfl ?_
          refine pm_top (v := nI k4) ek4 ?_
          refine pm_bipush (v := nI 7) hG dX12_pay_73 (by decide) ?_
          refine pm_callV (As := [.int (nI k4), .int (nI 7)]) (rest := [.int (nI 7), .int (nI k4), .ref (B + 54)]) hG hR dX12_pay_75 (lkX12_72 _ rfl) okV_X12_man rfl rfl (m_man (d := 1) (e := 14 * k4 + 117) (by omega) (by omega) (by omega)) rfl rfl hdd (Nat.le_refl _) (Nat.le_refl _) (Nat.le_of_ble_eq_true rfl) (pm_ki (fun v17 σ' cnt' hq => ?_))
          obtain ⟨rfl, rfl, rfl⟩ := hq
          refine pm_gen (fun x18 ex18 => ?_)
          refine pm_iloadn hG dX12_pay_78 rfl ?_
          refine pm_top (v := nI k7) ek7 ?_
          refine pm_iadd hG dX12_pay_79 ?_
          refine pm_callV (As := [.int (nI k4), .int (nI 7), .int (x18 + (nI k7))]) (rest := []) hG hR dX12_pay_80 (lkX12_97 _ rfl) okV_X12_sets rfl rfl (m_sets (d := 1) (e := 14 * k4 + 117) (by omega) (by omega) (by omega)) rfl rfl hdd (Nat.le_refl _) (Nat.le_refl _) (by decide) (pm_kv (fun σ' cnt' hq => ?_))
          obtain ⟨rfl, rfl⟩ := hq
          obtain ⟨n_19, en_19⟩ : ∃ f : Nat → Int32, f = upd n_12 (14 * k4 + 117) (x18 + (nI k7)) := ⟨_, rfl⟩
          rw [← en_19]
          have hnn_19 := KI.w en_19 hnn_12 (okv_f (show kd (14 * k4 + 117) = (0, 0, false) from (kd_P (k := k4) (c := 7) (by omega) (by omega) (by decide))))
          have hrn_19 := NRx.w en_19 hrn_12 (by rw [(show kd (14 * k4 + 117) = (0, 0, false) from (kd_P (k := k4) (c := 7) (by omega) (by omega) (by decide)))])
          have e20 : n_19 8 = nI kc8 := by rw [en_19, pk_un (by omega)]; exact e13
          have e21 : n_19 2 = nI k1 := by rw [en_19, pk_un (by omega)]; exact e14
          have e22 : n_19 (14 * k4 + 119) = (-1) := by rw [en_19, pk_un (by omega)]; exact e15
          have e23 : n_19 9 = x10 - (nI k7) := by rw [en_19, pk_un (by omega)]; exact e16
          have e24 : n_19 (14 * k4 + 117) = x18 + (nI k7) := by rw [en_19, pk_us]
          refine pm_aloadn hG dX12_pay_83 rfl ?_
          refine pm_getf hG dX12_pay_84 (flX12_7 _ rfl) rfl rfl ?_
          refine pm_bipush (v := nI 9) hG dX12_pay_87 (by decide) ?_
          refine pm_ialdN hG dX12_pay_89 rfl (by decide) (by omega) ?_
          refine pm_top (v := x10 - (nI k7)) e23 ?_
          exact pm_iret hG hF dX12_pay_90 rfl (Nat.le_refl _) (Nat.le_refl _) ⟨_, rfl, ⟨_, _, _, rfl, hnn_19, hrn_19, e20.trans ekc8.symm⟩, rfl⟩
        · refine pm_aloadn hG dX12_pay_50 rfl ?_
          refine pm_iconst (v := nI 2) hG dX12_pay_51 (by decide) ?_
          refine pm_callV (As := [.int (nI 2)]) (rest := []) hG hR dX12_pay_52 (lkX12_80 _ rfl) okV_X12_finds rfl rfl (m_finds (d := 1) (by decide) hn hz (by omega)) rfl rfl hdd (Nat.le_refl _) (Nat.le_refl _) (by decide) (pm_ki (fun v25 σ' cnt' hq => ?_))
          obtain ⟨⟨I26, A26, rfl⟩, rfl, fv25⟩ := hq
          exact pm_iret hG hF dX12_pay_55 rfl (Nat.le_refl _) (Nat.le_refl _) ⟨_, rfl, ⟨_, _, _, rfl, hn, hr, ekc8.trans ekc8.symm⟩, rfl⟩
      · refine pm_callV (As := [.int (nI k4)]) (rest := []) hG hR dX12_pay_27 (lkX12_101 _ rfl) okV_X12_lives rfl rfl (m_lives0 (d := 1) (by decide) (by omega) (by omega : 14 * k4 + 119 = 14 * k4 + 119) ek8 (by omega)) rfl rfl hdd (Nat.le_refl _) (Nat.le_refl _) (by decide) (pm_ki (fun v27 σ' cnt' hq => ?_))
        obtain ⟨rfl, rfl, rfl⟩ := hq
        refine pm_ifN_ne (tgt := 39) hG dX12_pay_30 rfl (by omega) (fun q => absurd q (by omega)) (fun _ => ?_)
        refine pm_aloadn hG dX12_pay_33 rfl ?_
        refine pm_iconst (v := nI 3) hG dX12_pay_34 (by decide) ?_
        refine pm_callV (As := [.int (nI 3)]) (rest := []) hG hR dX12_pay_35 (lkX12_80 _ rfl) okV_X12_finds rfl rfl (m_finds (d := 1) (by decide) hn hz (by omega)) rfl rfl hdd (Nat.le_refl _) (Nat.le_refl _) (by decide) (pm_ki (fun v28 σ' cnt' hq => ?_))
        obtain ⟨⟨I29, A29, rfl⟩, rfl, fv28⟩ := hq
        exact pm_iret hG hF dX12_pay_38 rfl (Nat.le_refl _) (Nat.le_refl _) ⟨_, rfl, ⟨_, _, _, rfl, hn, hr, ekc8.trans ekc8.symm⟩, rfl⟩
    · refine pm_ifN_ne (tgt := 25) hG dX12_pay_16 rfl (by omega) (fun q => absurd q (by omega)) (fun _ => ?_)
      refine pm_aloadn hG dX12_pay_19 rfl ?_
      refine pm_iconst (v := nI 1) hG dX12_pay_20 (by decide) ?_
      refine pm_callV (As := [.int (nI 1)]) (rest := []) hG hR dX12_pay_21 (lkX12_80 _ rfl) okV_X12_finds rfl rfl (m_finds (d := 1) (by decide) hn hz (by omega)) rfl rfl hdd (Nat.le_refl _) (Nat.le_refl _) (by decide) (pm_ki (fun v30 σ' cnt' hq => ?_))
      obtain ⟨⟨I31, A31, rfl⟩, rfl, fv30⟩ := hq
      exact pm_iret hG hF dX12_pay_24 rfl (Nat.le_refl _) (Nat.le_refl _) ⟨_, rfl, ⟨_, _, _, rfl, hn, hr, ekc8.trans ekc8.symm⟩, rfl⟩
  · refine pm_ifN_eq (tgt := 19) hG dX12_pay_5 rfl (by omega) (fun _ => ?_) (fun q => absurd q (by omega))
    refine pm_aloadn hG dX12_pay_19 rfl ?_
    refine pm_iconst (v := nI 1) hG dX12_pay_20 (by decide) ?_
    refine pm_callV (As := [.int (nI 1)]) (rest := []) hG hR dX12_pay_21 (lkX12_80 _ rfl) okV_X12_finds rfl rfl (m_finds (d := 1) (by decide) hn hz (by omega)) rfl rfl hdd (Nat.le_refl _) (Nat.le_refl _) (by decide) (pm_ki (fun v32 σ' cnt' hq => ?_))
    obtain ⟨⟨I33, A33, rfl⟩, rfl, fv32⟩ := hq
    exact pm_iret hG hF dX12_pay_24 rfl (Nat.le_refl _) (Nat.le_refl _) ⟨_, rfl, ⟨_, _, _, rfl, hn, hr, ekc8.trans ekc8.symm⟩, rfl⟩

set_option maxRecDepth 100000 in
set_option maxHeartbeats 4000000 in
theorem m_person {d B cnt p0 t0 : Nat} {σ : pm_S} {I : Nat → Int32} {A : Nat → Nat → Int32} {n k z : Nat → Int32} {ac wt pl im : Int32} {za zb zc zd : Int32} (hdd : 3 ≤ d) (hn : KI n) (hr : NR n) (hz : SZ z)  : pm_met mX12_person d 0 0 B [.ref (B + 54), .int za, .int zb, .int zc, .int zd] cnt (pm_mid σ (md_L B I A n k z ac wt pl (nI p0) (nI t0) im)) (pm_Qi (fun v σ' cnt' => (∃ (I' : Nat → Int32) (A' : Nat → Nat → Int32) (n' : Nat → Int32), σ' = pm_mid σ (md_L B I' A' n' k z ac wt pl (nI p0) (nI t0) im) ∧ KI n' ∧ NR n' ∧ n' 8 = n 8) ∧ cnt = cnt')) := by
  obtain ⟨kc8, hkc8, ekc8⟩ := KI.nat hn (show kd 8 = (1, 2001, false) by decide)
  refine pm_enter 3 (by decide) (Nat.le_of_ble_eq_true rfl) rfl (fun G hG hR hF => ?_)
  refine pm_iloadn hG dX12_person_0 rfl ?_
  refine pm_iconst (v := nI 0) hG dX12_person_1 (by decide) ?_
  refine pm_iconst (v := nI 1) hG dX12_person_2 (by decide) ?_
  refine pm_callS (As := [.int za, .int (nI 0), .int (nI 1)]) (rest := []) hG hR dX12_person_3 (lkX12_68 _ rfl) okS_X12_in (m_in (d := 2)) rfl rfl hdd (Nat.le_refl _) (Nat.le_refl _) (by decide) (pm_ki (fun v1 σ' cnt' hq => ?_))
  obtain ⟨hq, rfl, rfl⟩ := hq
  rcases hq with ⟨rfl, ac2, bc2⟩ | ⟨rfl, c2⟩
  · obtain ⟨k3, hk3, ek3⟩ := in_nat (by omega) (by omega) ac2 bc2
    refine pm_ifN_eq (tgt := 73) hG dX12_person_6 rfl (by omega) (fun q => absurd q (by omega)) (fun _ => ?_)
    refine pm_iloadn hG dX12_person_9 rfl ?_
    refine pm_sipush (v := (-20000)) hG dX12_person_10 (by decide) ?_
    refine pm_aloadn hG dX12_person_13 rfl ?_
    refine pm_getf hG dX12_person_14 (flX12_7 _ rfl) rfl rfl ?_
    refine pm_bipush (v := nI 8) hG dX12_person_17 (by decide) ?_
    refine pm_ialdN hG dX12_person_19 rfl (by decide) (by omega) ?_
    refine pm_top (v := nI kc8) ekc8 ?_
    refine pm_callS (As := [.int zb, .int (-20000), .int (nI kc8)]) (rest := []) hG hR dX12_person_20 (lkX12_68 _ rfl) okS_X12_in (m_in (d := 2)) rfl rfl hdd (Nat.le_refl _) (Nat.le_refl _) (by decide) (pm_ki (fun v4 σ' cnt' hq => ?_))
    obtain ⟨hq, rfl, rfl⟩ := hq
    rcases hq with ⟨rfl, ac5, bc5⟩ | ⟨rfl, c5⟩
    · refine pm_ifN_eq (tgt := 73) hG dX12_person_23 rfl (by omega) (fun q => absurd q (by omega)) (fun _ => ?_)
      refine pm_iloadn hG dX12_person_26 rfl ?_
      refine pm_if_lt (tgt := 73) hG dX12_person_27 rfl (fun c6 => ?_) (fun c6 => ?_)
      · refine pm_iconst (v := nI 0) hG dX12_person_73 (by decide) ?_
        refine pm_istoreXi (loc' := [some (.ref (B + 54)), some (.int za), some (.int zb), some (.int zc), some (.int zd), some (.int (nI 0)), none, none]) hG dX12_person_74 (by decide) (pm_c1b rfl) rfl ?_
        refine pm_iloadi hG dX12_person_76 rfl ?_
        refine pm_ifN_ne (tgt := 87) hG dX12_person_78 rfl (by omega) (fun q => absurd q (by omega)) (fun _ => ?_)
        refine pm_aloadn hG dX12_person_81 rfl ?_
        refine pm_iconst (v := nI 1) hG dX12_person_82 (by decide) ?_
        refine pm_callV (As := [.int (nI 1)]) (rest := []) hG hR dX12_person_83 (lkX12_80 _ rfl) okV_X12_finds rfl rfl (m_finds (d := 2) (by decide) hn hz (by omega)) rfl rfl hdd (Nat.le_refl _) (Nat.le_refl _) (by decide) (pm_ki (fun v7 σ' cnt' hq => ?_))
        obtain ⟨⟨I8, A8, rfl⟩, rfl, fv7⟩ := hq
        exact pm_iret hG hF dX12_person_86 rfl (Nat.le_refl _) (Nat.le_refl _) ⟨_, rfl, ⟨_, _, _, rfl, hn, hr, ekc8.trans ekc8.symm⟩, rfl⟩
      · obtain ⟨k9, hk9, ek9⟩ := nI_of c6
        refine pm_aloadn hG dX12_person_30 rfl ?_
        refine pm_iloadn hG dX12_person_31 rfl ?_
        refine pm_top (v := nI k9) ek9 ?_
        refine pm_bipush (v := nI 100) hG dX12_person_32 (by decide) ?_
        refine pm_idivN hG dX12_person_34 (by omega) (by decide) (by decide) ?_
        refine pm_iconst (v := nI 1) hG dX12_person_35 (by decide) ?_
        refine pm_isub hG dX12_person_36 ?_
        refine pm_iconst (v := nI 1) hG dX12_person_37 (by decide) ?_
        refine pm_iloadn hG dX12_person_38 rfl ?_
        refine pm_callV (As := [.int ((nI ((k9 / 100))) - (nI 1)), .int (nI 1), .int zb]) (rest := []) hG hR dX12_person_39 (lkX12_94 _ rfl) okV_X12_isParent rfl rfl (m_isParent (d := 2) (by decide) hn hz) rfl rfl hdd (Nat.le_refl _) (Nat.le_refl _) (by decide) (pm_ki (fun v10 σ' cnt' hq => ?_))
        obtain ⟨rfl, rfl, hq⟩ := hq
        rcases hq with rfl | ⟨rfl, ek11 | ⟨k11, hk11, ek11⟩⟩
        · refine pm_ifN_eq (tgt := 73) hG dX12_person_42 rfl (by omega) (fun _ => ?_) (fun q => absurd q (by omega))
          refine pm_iconst (v := nI 0) hG dX12_person_73 (by decide) ?_
          refine pm_istoreXi (loc' := [some (.ref (B + 54)), some (.int za), some (.int zb), some (.int zc), some (.int zd), some (.int (nI 0)), none, none]) hG dX12_person_74 (by decide) (pm_c1b rfl) rfl ?_
          refine pm_iloadi hG dX12_person_76 rfl ?_
          refine pm_ifN_ne (tgt := 87) hG dX12_person_78 rfl (by omega) (fun q => absurd q (by omega)) (fun _ => ?_)
          refine pm_aloadn hG dX12_person_81 rfl ?_
          refine pm_iconst (v := nI 1) hG dX12_person_82 (by decide) ?_
          refine pm_callV (As := [.int (nI 1)]) (rest := []) hG hR dX12_person_83 (lkX12_80 _ rfl) okV_X12_finds rfl rfl (m_finds (d := 2) (by decide) hn hz (by omega)) rfl rfl hdd (Nat.le_refl _) (Nat.le_refl _) (by decide) (pm_ki (fun v12 σ' cnt' hq => ?_))
          obtain ⟨⟨I13, A13, rfl⟩, rfl, fv12⟩ := hq
          exact pm_iret hG hF dX12_person_86 rfl (Nat.le_refl _) (Nat.le_refl _) ⟨_, rfl, ⟨_, _, _, rfl, hn, hr, ekc8.trans ekc8.symm⟩, rfl⟩
        · refine pm_ifN_eq (tgt := 73) hG dX12_person_42 rfl (by omega) (fun q => absurd q (by omega)) (fun _ => ?_)
          refine pm_aloadn hG dX12_person_45 rfl ?_
          refine pm_iloadn hG dX12_person_46 rfl ?_
          refine pm_top (v := nI k9) ek9 ?_
          refine pm_bipush (v := nI 100) hG dX12_person_47 (by decide) ?_
          refine pm_iremM hG dX12_person_49 (by omega) (by decide) (by decide) ?_
          refine pm_iconst (v := nI 1) hG dX12_person_50 (by decide) ?_
          refine pm_isub hG dX12_person_51 ?_
          refine pm_iconst (v := nI 0) hG dX12_person_52 (by decide) ?_
          refine pm_iloadn hG dX12_person_53 rfl ?_
          refine pm_callV (As := [.int ((nI ((k9 % 100))) - (nI 1)), .int (nI 0), .int zb]) (rest := []) hG hR dX12_person_54 (lkX12_94 _ rfl) okV_X12_isParent rfl rfl (m_isParent (d := 2) (by decide) hn hz) rfl rfl hdd (Nat.le_refl _) (Nat.le_refl _) (by decide) (pm_ki (fun v14 σ' cnt' hq => ?_))
          obtain ⟨rfl, rfl, hq⟩ := hq
          rcases hq with rfl | ⟨rfl, ek15 | ⟨k15, hk15, ek15⟩⟩
          · refine pm_ifN_eq (tgt := 73) hG dX12_person_57 rfl (by omega) (fun _ => ?_) (fun q => absurd q (by omega))
            refine pm_iconst (v := nI 0) hG dX12_person_73 (by decide) ?_
            refine pm_istoreXi (loc' := [some (.ref (B + 54)), some (.int za), some (.int zb), some (.int zc), some (.int zd), some (.int (nI 0)), none, none]) hG dX12_person_74 (by decide) (pm_c1b rfl) rfl ?_
            refine pm_iloadi hG dX12_person_76 rfl ?_
            refine pm_ifN_ne (tgt := 87) hG dX12_person_78 rfl (by omega) (fun q => absurd q (by omega)) (fun _ => ?_)
            refine pm_aloadn hG dX12_person_81 rfl ?_
            refine pm_iconst (v := nI 1) hG dX12_person_82 (by decide) ?_
            refine pm_callV (As := [.int (nI 1)]) (rest := []) hG hR dX12_person_83 (lkX12_80 _ rfl) okV_X12_finds rfl rfl (m_finds (d := 2) (by decide) hn hz (by omega)) rfl rfl hdd (Nat.le_refl _) (Nat.le_refl _) (by decide) (pm_ki (fun v16 σ' cnt' hq => ?_))
            obtain ⟨⟨I17, A17, rfl⟩, rfl, fv16⟩ := hq
            exact pm_iret hG hF dX12_person_86 rfl (Nat.le_refl _) (Nat.le_refl _) ⟨_, rfl, ⟨_, _, _, rfl, hn, hr, ekc8.trans ekc8.symm⟩, rfl⟩
          · refine pm_ifN_eq (tgt := 73) hG dX12_person_57 rfl (by omega) (fun q => absurd q (by omega)) (fun _ => ?_)
            refine pm_aloadn hG dX12_person_60 rfl ?_
            refine pm_iloadi hG dX12_person_61 rfl ?_
            obtain ⟨k18, hk18, ek18⟩ := KI.nat hn (show kd 0 = (1, 11, true) by decide)
            refine pm_callV (As := [.int zd]) (rest := []) hG hR dX12_person_63 (lkX12_84 _ rfl) okV_X12_isTown rfl rfl (m_isTown (d := 2) (by decide) ek18 (by omega)) rfl rfl hdd (Nat.le_refl _) (Nat.le_refl _) (by decide) (pm_ki (fun v19 σ' cnt' hq => ?_))
            obtain ⟨hq, rfl, rfl⟩ := hq
            rcases hq with ⟨rfl, k21, hk21, ek21⟩ | rfl
            · refine pm_ifN_eq (tgt := 73) hG dX12_person_66 rfl (by omega) (fun q => absurd q (by omega)) (fun _ => ?_)
              refine pm_iconst (v := nI 1) hG dX12_person_69 (by decide) ?_
              refine pm_goto (tgt := 74) hG dX12_person_70 rfl ?_
              refine pm_istoreXi (loc' := [some (.ref (B + 54)), some (.int za), some (.int zb), some (.int zc), some (.int zd), some (.int (nI 1)), none, none]) hG dX12_person_74 (by decide) (pm_c1b rfl) rfl ?_
              refine pm_iloadi hG dX12_person_76 rfl ?_
              refine pm_ifN_ne (tgt := 87) hG dX12_person_78 rfl (by omega) (fun _ => ?_) (fun q => absurd q (by omega))
              refine pm_aloadn hG dX12_person_87 rfl ?_
              refine pm_getf hG dX12_person_88 (flX12_7 _ rfl) rfl rfl ?_
              refine pm_iconst (v := nI 2) hG dX12_person_91 (by decide) ?_
              refine pm_ialdN hG dX12_person_92 rfl (by decide) (by omega) ?_
              obtain ⟨k22, hk22, ek22⟩ := KI.nat hn (show kd 2 = (1, 21, true) by decide)
              refine pm_top (v := nI k22) ek22 ?_
              refine pm_istoreXi (loc' := [some (.ref (B + 54)), some (.int za), some (.int zb), some (.int zc), some (.int zd), some (.int (nI 1)), some (.int (nI k22)), none]) hG dX12_person_93 (by decide) (pm_c1b rfl) rfl ?_
              refine pm_iloadi hG dX12_person_95 rfl ?_
              refine pm_bipush (v := nI 20) hG dX12_person_97 (by decide) ?_
              refine pm_icmpN_ne (tgt := 108) hG dX12_person_99 rfl (by omega) (by omega) (fun c23 => ?_) (fun c23 => ?_)
              · refine pm_aloadn hG dX12_person_108 rfl ?_
                refine pm_getf hG dX12_person_109 (flX12_7 _ rfl) rfl rfl ?_
                refine pm_iconst (v := nI 2) hG dX12_person_112 (by decide) ?_
                refine pm_dup2 hG dX12_person_113 rfl rfl ?_
                refine pm_ialdN hG dX12_person_114 rfl (by decide) (by omega) ?_
                refine pm_top (v := nI k22) ek22 ?_
                refine pm_iconst (v := nI 1) hG dX12_person_115 (by decide) ?_
                refine pm_iaddN (c := k22 + 1) hG dX12_person_116 (by omega) ?_
                refine pm_iastN hG dX12_person_117 rfl (by decide) (by omega) ?_
                refine mdn_now (fun n_24 en_24 => ?_)
                have hnn_24 := KI.w en_24 hn (okv_n (show kd 2 = (1, 21, true) by decide) (by omega))
                have hrn_24 := NRx.pers en_24 hr ek18 (by omega) ek22 (by omega)
                have e25 : n_24 8 = nI kc8 := by rw [en_24, pk_un (by omega)]; exact ekc8
                have e26 : n_24 0 = nI k18 := by rw [en_24, pk_un (by omega)]; exact ek18
                have e27 : n_24 2 = nI (k22 + 1) := by rw [en_24, pk_us]
                refine pm_iconst (v := nI 0) hG dX12_person_118 (by decide) ?_
                refine pm_istoreXi (loc' := [some (.ref (B + 54)), some (.int za), some (.int zb), some (.int zc), some (.int zd), some (.int (nI 1)), some (.int (nI k22)), some (.int (nI 0))]) hG dX12_person_119 (by decide) (pm_c1b rfl) rfl ?_
                refine pm_iloadi hG dX12_person_121 rfl ?_
                refine pm_bipush (v := nI 14) hG dX12_person_123 (by decide) ?_
                refine pm_icmpN_ge (tgt := 143) hG dX12_person_125 rfl (by omega) (by omega) (fun q => absurd q (by omega)) (fun _ => ?_)
                refine pm_aloadn hG dX12_person_128 rfl ?_
                refine pm_iloadi hG dX12_person_129 rfl ?_
                refine pm_iloadi hG dX12_person_131 rfl ?_
                refine pm_iconst (v := nI 0) hG dX12_person_133 (by decide) ?_
                refine pm_callV (As := [.int (nI k22), .int (nI 0), .int (nI 0)]) (rest := []) hG hR dX12_person_134 (lkX12_97 _ rfl) okV_X12_sets rfl rfl (m_sets (d := 2) (e := 14 * k22 + 110) (by omega) (by omega) (by omega)) rfl rfl hdd (Nat.le_refl _) (Nat.le_refl _) (by decide) (pm_kv (fun σ' cnt' hq => ?_))
                obtain ⟨rfl, rfl⟩ := hq
                obtain ⟨n_28, en_28⟩ : ∃ f : Nat → Int32, f = upd n_24 (14 * k22 + 110) (nI 0) := ⟨_, rfl⟩
                rw [← en_28]
                have hnn_28 := KI.w en_28 hnn_24 (okv_f (show kd (14 * k22 + 110) = (0, 0, false) from (kd_P (k := k22) (c := 0) (by omega) (by omega) (by decide))))
                have hrn_28 := NRx.w en_28 hrn_24 (by rw [(show kd (14 * k22 + 110) = (0, 0, false) from (kd_P (k := k22) (c := 0) (by omega) (by omega) (by decide)))])
                have e29 : n_28 8 = nI kc8 := by rw [en_28, pk_un (by omega)]; exact e25
                have e30 : n_28 0 = nI k18 := by rw [en_28, pk_un (by omega)]; exact e26
                have e31 : n_28 2 = nI (k22 + 1) := by rw [en_28, pk_un (by omega)]; exact e27
                have e32 : n_28 (14 * k22 + 110) = nI 0 := by rw [en_28, pk_us]
                refine pm_iincX (v := nI 1) (loc' := [some (.ref (B + 54)), some (.int za), some (.int zb), some (.int zc), some (.int zd), some (.int (nI 1)), some (.int (nI k22)), some (.int (nI 1))]) hG dX12_person_137 rfl (nI_1 _) (by decide) (pm_c1b rfl) rfl ?_
                refine pm_goto (tgt := 121) hG dX12_person_140 rfl ?_
                refine pm_iloadi hG dX12_person_121 rfl ?_
                refine pm_bipush (v := nI 14) hG dX12_person_123 (by decide) ?_
                refine pm_icmpN_ge (tgt := 143) hG dX12_person_125 rfl (by omega) (by omega) (fun q => absurd q (by omega)) (fun _ => ?_)
                refine pm_aloadn hG dX12_person_128 rfl ?_
                refine pm_iloadi hG dX12_person_129 rfl ?_
                refine pm_iloadi hG dX12_person_131 rfl ?_
                refine pm_iconst (v := nI 0) hG dX12_person_133 (by decide) ?_
                refine pm_callV (As := [.int (nI k22), .int (nI 1), .int (nI 0)]) (rest := []) hG hR dX12_person_134 (lkX12_97 _ rfl) okV_X12_sets rfl rfl (m_sets (d := 2) (e := 14 * k22 + 111) (by omega) (by omega) (by omega)) rfl rfl hdd (Nat.le_refl _) (Nat.le_refl _) (by decide) (pm_kv (fun σ' cnt' hq => ?_))
                obtain ⟨rfl, rfl⟩ := hq
                obtain ⟨n_33, en_33⟩ : ∃ f : Nat → Int32, f = upd n_28 (14 * k22 + 111) (nI 0) := ⟨_, rfl⟩
                rw [← en_33]
                have hnn_33 := KI.w en_33 hnn_28 (okv_f (show kd (14 * k22 + 111) = (0, 0, false) from (kd_P (k := k22) (c := 1) (by omega) (by omega) (by decide))))
                have hrn_33 := NRx.w en_33 hrn_28 (by rw [(show kd (14 * k22 + 111) = (0, 0, false) from (kd_P (k := k22) (c := 1) (by omega) (by omega) (by decide)))])
                have e34 : n_33 8 = nI kc8 := by rw [en_33, pk_un (by omega)]; exact e29
                have e35 : n_33 0 = nI k18 := by rw [en_33, pk_un (by omega)]; exact e30
                have e36 : n_33 2 = nI (k22 + 1) := by rw [en_33, pk_un (by omega)]; exact e31
                have e37 : n_33 (14 * k22 + 111) = nI 0 := by rw [en_33, pk_us]
                refine pm_iincX (v := nI 2) (loc' := [some (.ref (B + 54)), some (.int za), some (.int zb), some (.int zc), some (.int zd), some (.int (nI 1)), some (.int (nI k22)), some (.int (nI 2))]) hG dX12_person_137 rfl (nI_1 _) (by decide) (pm_c1b rfl) rfl ?_
                refine pm_goto (tgt := 121) hG dX12_person_140 rfl ?_
                refine pm_iloadi hG dX12_person_121 rfl ?_
                refine pm_bipush (v := nI 14) hG dX12_person_123 (by decide) ?_
                refine pm_icmpN_ge (tgt := 143) hG dX12_person_125 rfl (by omega) (by omega) (fun q => absurd q (by omega)) (fun _ => ?_)
                refine pm_aloadn hG dX12_person_128 rfl ?_
                refine pm_iloadi hG dX12_person_129 rfl ?_
                refine pm_iloadi hG dX12_person_131 rfl ?_
                refine pm_iconst (v := nI 0) hG dX12_person_133 (by decide) ?_
                refine pm_callV (As := [.int (nI k22), .int (nI 2), .int (nI 0)]) (rest := []) hG hR dX12_person_134 (lkX12_97 _ rfl) okV_X12_sets rfl rfl (m_sets (d := 2) (e := 14 * k22 + 112) (by omega) (by omega) (by omega)) rfl rfl hdd (Nat.le_refl _) (Nat.le_refl _) (by decide) (pm_kv (fun σ' cnt' hq => ?_))
                obtain ⟨rfl, rfl⟩ := hq
                obtain ⟨n_38, en_38⟩ : ∃ f : Nat → Int32, f = upd n_33 (14 * k22 + 112) (nI 0) := ⟨_, rfl⟩
                rw [← en_38]
                have hnn_38 := KI.w en_38 hnn_33 (okv_o (show kd (14 * k22 + 112) = (2, 20, false) from (kd_P (k := k22) (c := 2) (by omega) (by omega) (by decide))) (by omega))
                have hrn_38 := NRx.w en_38 hrn_33 (by rw [(show kd (14 * k22 + 112) = (2, 20, false) from (kd_P (k := k22) (c := 2) (by omega) (by omega) (by decide)))])
                have e39 : n_38 8 = nI kc8 := by rw [en_38, pk_un (by omega)]; exact e34
                have e40 : n_38 0 = nI k18 := by rw [en_38, pk_un (by omega)]; exact e35
                have e41 : n_38 2 = nI (k22 + 1) := by rw [en_38, pk_un (by omega)]; exact e36
                have e42 : n_38 (14 * k22 + 112) = nI 0 := by rw [en_38, pk_us]
                refine pm_iincX (v := nI 3) (loc' := [some (.ref (B + 54)), some (.int za), some (.int zb), some (.int zc), some (.int zd), some (.int (nI 1)), some (.int (nI k22)), some (.int (nI 3))]) hG dX12_person_137 rfl (nI_1 _) (by decide) (pm_c1b rfl) rfl ?_
                refine pm_goto (tgt := 121) hG dX12_person_140 rfl ?_
                refine pm_iloadi hG dX12_person_121 rfl ?_
                refine pm_bipush (v := nI 14) hG dX12_person_123 (by decide) ?_
                refine pm_icmpN_ge (tgt := 143) hG dX12_person_125 rfl (by omega) (by omega) (fun q => absurd q (by omega)) (fun _ => ?_)
                refine pm_aloadn hG dX12_person_128 rfl ?_
                refine pm_iloadi hG dX12_person_129 rfl ?_
                refine pm_iloadi hG dX12_person_131 rfl ?_
                refine pm_iconst (v := nI 0) hG dX12_person_133 (by decide) ?_
                refine pm_callV (As := [.int (nI k22), .int (nI 3), .int (nI 0)]) (rest := []) hG hR dX12_person_134 (lkX12_97 _ rfl) okV_X12_sets rfl rfl (m_sets (d := 2) (e := 14 * k22 + 113) (by omega) (by omega) (by omega)) rfl rfl hdd (Nat.le_refl _) (Nat.le_refl _) (by decide) (pm_kv (fun σ' cnt' hq => ?_))
                obtain ⟨rfl, rfl⟩ := hq
                obtain ⟨n_43, en_43⟩ : ∃ f : Nat → Int32, f = upd n_38 (14 * k22 + 113) (nI 0) := ⟨_, rfl⟩
                rw [← en_43]
                have hnn_43 := KI.w en_43 hnn_38 (okv_o (show kd (14 * k22 + 113) = (2, 20, false) from (kd_P (k := k22) (c := 3) (by omega) (by omega) (by decide))) (by omega))
                have hrn_43 := NRx.w en_43 hrn_38 (by rw [(show kd (14 * k22 + 113) = (2, 20, false) from (kd_P (k := k22) (c := 3) (by omega) (by omega) (by decide)))])
                have e44 : n_43 8 = nI kc8 := by rw [en_43, pk_un (by omega)]; exact e39
                have e45 : n_43 0 = nI k18 := by rw [en_43, pk_un (by omega)]; exact e40
                have e46 : n_43 2 = nI (k22 + 1) := by rw [en_43, pk_un (by omega)]; exact e41
                have e47 : n_43 (14 * k22 + 113) = nI 0 := by rw [en_43, pk_us]
                refine pm_iincX (v := nI 4) (loc' := [some (.ref (B + 54)), some (.int za), some (.int zb), some (.int zc), some (.int zd), some (.int (nI 1)), some (.int (nI k22)), some (.int (nI 4))]) hG dX12_person_137 rfl (nI_1 _) (by decide) (pm_c1b rfl) rfl ?_
                refine pm_goto (tgt := 121) hG dX12_person_140 rfl ?_
                refine pm_iloadi hG dX12_person_121 rfl ?_
                refine pm_bipush (v := nI 14) hG dX12_person_123 (by decide) ?_
                refine pm_icmpN_ge (tgt := 143) hG dX12_person_125 rfl (by omega) (by omega) (fun q => absurd q (by omega)) (fun _ => ?_)
                refine pm_aloadn hG dX12_person_128 rfl ?_
                refine pm_iloadi hG dX12_person_129 rfl ?_
                refine pm_iloadi hG dX12_person_131 rfl ?_
                refine pm_iconst (v := nI 0) hG dX12_person_133 (by decide) ?_
                refine pm_callV (As := [.int (nI k22), .int (nI 4), .int (nI 0)]) (rest := []) hG hR dX12_person_134 (lkX12_97 _ rfl) okV_X12_sets rfl rfl (m_sets (d := 2) (e := 14 * k22 + 114) (by omega) (by omega) (by omega)) rfl rfl hdd (Nat.le_refl _) (Nat.le_refl _) (by decide) (pm_kv (fun σ' cnt' hq => ?_))
                obtain ⟨rfl, rfl⟩ := hq
                obtain ⟨n_48, en_48⟩ : ∃ f : Nat → Int32, f = upd n_43 (14 * k22 + 114) (nI 0) := ⟨_, rfl⟩
                rw [← en_48]
                have hnn_48 := KI.w en_48 hnn_43 (okv_o (show kd (14 * k22 + 114) = (2, 10, false) from (kd_P (k := k22) (c := 4) (by omega) (by omega) (by decide))) (by omega))
                have hrn_48 := NRx.w en_48 hrn_43 (by rw [(show kd (14 * k22 + 114) = (2, 10, false) from (kd_P (k := k22) (c := 4) (by omega) (by omega) (by decide)))])
                have e49 : n_48 8 = nI kc8 := by rw [en_48, pk_un (by omega)]; exact e44
                have e50 : n_48 0 = nI k18 := by rw [en_48, pk_un (by omega)]; exact e45
                have e51 : n_48 2 = nI (k22 + 1) := by rw [en_48, pk_un (by omega)]; exact e46
                have e52 : n_48 (14 * k22 + 114) = nI 0 := by rw [en_48, pk_us]
                refine pm_iincX (v := nI 5) (loc' := [some (.ref (B + 54)), some (.int za), some (.int zb), some (.int zc), some (.int zd), some (.int (nI 1)), some (.int (nI k22)), some (.int (nI 5))]) hG dX12_person_137 rfl (nI_1 _) (by decide) (pm_c1b rfl) rfl ?_
                refine pm_goto (tgt := 121) hG dX12_person_140 rfl ?_
                refine pm_iloadi hG dX12_person_121 rfl ?_
                refine pm_bipush (v := nI 14) hG dX12_person_123 (by decide) ?_
                refine pm_icmpN_ge (tgt := 143) hG dX12_person_125 rfl (by omega) (by omega) (fun q => absurd q (by omega)) (fun _ => ?_)
                refine pm_aloadn hG dX12_person_128 rfl ?_
                refine pm_iloadi hG dX12_person_129 rfl ?_
                refine pm_iloadi hG dX12_person_131 rfl ?_
                refine pm_iconst (v := nI 0) hG dX12_person_133 (by decide) ?_
                refine pm_callV (As := [.int (nI k22), .int (nI 5), .int (nI 0)]) (rest := []) hG hR dX12_person_134 (lkX12_97 _ rfl) okV_X12_sets rfl rfl (m_sets (d := 2) (e := 14 * k22 + 115) (by omega) (by omega) (by omega)) rfl rfl hdd (Nat.le_refl _) (Nat.le_refl _) (by decide) (pm_kv (fun σ' cnt' hq => ?_))
                obtain ⟨rfl, rfl⟩ := hq
                obtain ⟨n_53, en_53⟩ : ∃ f : Nat → Int32, f = upd n_48 (14 * k22 + 115) (nI 0) := ⟨_, rfl⟩
                rw [← en_53]
                have hnn_53 := KI.w en_53 hnn_48 (okv_n (show kd (14 * k22 + 115) = (1, 10, false) from (kd_P (k := k22) (c := 5) (by omega) (by omega) (by decide))) (by omega))
                have hrn_53 := NRx.w en_53 hrn_48 (by rw [(show kd (14 * k22 + 115) = (1, 10, false) from (kd_P (k := k22) (c := 5) (by omega) (by omega) (by decide)))])
                have e54 : n_53 8 = nI kc8 := by rw [en_53, pk_un (by omega)]; exact e49
                have e55 : n_53 0 = nI k18 := by rw [en_53, pk_un (by omega)]; exact e50
                have e56 : n_53 2 = nI (k22 + 1) := by rw [en_53, pk_un (by omega)]; exact e51
                have e57 : n_53 (14 * k22 + 115) = nI 0 := by rw [en_53, pk_us]
                refine pm_iincX (v := nI 6) (loc' := [some (.ref (B + 54)), some (.int za), some (.int zb), some (.int zc), some (.int zd), some (.int (nI 1)), some (.int (nI k22)), some (.int (nI 6))]) hG dX12_person_137 rfl (nI_1 _) (by decide) (pm_c1b rfl) rfl ?_
                refine pm_goto (tgt := 121) hG dX12_person_140 rfl ?_
                refine pm_iloadi hG dX12_person_121 rfl ?_
                refine pm_bipush (v := nI 14) hG dX12_person_123 (by decide) ?_
                refine pm_icmpN_ge (tgt := 143) hG dX12_person_125 rfl (by omega) (by omega) (fun q => absurd q (by omega)) (fun _ => ?_)
                refine pm_aloadn hG dX12_person_128 rfl ?_
                refine pm_iloadi hG dX12_person_129 rfl ?_
                refine pm_iloadi hG dX12_person_131 rfl ?_
                refine pm_iconst (v := nI 0) hG dX12_person_133 (by decide) ?_
                refine pm_callV (As := [.int (nI k22), .int (nI 6), .int (nI 0)]) (rest := []) hG hR dX12_person_134 (lkX12_97 _ rfl) okV_X12_sets rfl rfl (m_sets (d := 2) (e := 14 * k22 + 116) (by omega) (by omega) (by omega)) rfl rfl hdd (Nat.le_refl _) (Nat.le_refl _) (by decide) (pm_kv (fun σ' cnt' hq => ?_))
                obtain ⟨rfl, rfl⟩ := hq
                obtain ⟨n_58, en_58⟩ : ∃ f : Nat → Int32, f = upd n_53 (14 * k22 + 116) (nI 0) := ⟨_, rfl⟩
                rw [← en_58]
                have hnn_58 := KI.w en_58 hnn_53 (okv_f (show kd (14 * k22 + 116) = (0, 0, false) from (kd_P (k := k22) (c := 6) (by omega) (by omega) (by decide))))
                have hrn_58 := NRx.w en_58 hrn_53 (by rw [(show kd (14 * k22 + 116) = (0, 0, false) from (kd_P (k := k22) (c := 6) (by omega) (by omega) (by decide)))])
                have e59 : n_58 8 = nI kc8 := by rw [en_58, pk_un (by omega)]; exact e54
                have e60 : n_58 0 = nI k18 := by rw [en_58, pk_un (by omega)]; exact e55
                have e61 : n_58 2 = nI (k22 + 1) := by rw [en_58, pk_un (by omega)]; exact e56
                have e62 : n_58 (14 * k22 + 116) = nI 0 := by rw [en_58, pk_us]
                refine pm_iincX (v := nI 7) (loc' := [some (.ref (B + 54)), some (.int za), some (.int zb), some (.int zc), some (.int zd), some (.int (nI 1)), some (.int (nI k22)), some (.int (nI 7))]) hG dX12_person_137 rfl (nI_1 _) (by decide) (pm_c1b rfl) rfl ?_
                refine pm_goto (tgt := 121) hG dX12_person_140 rfl ?_
                refine pm_iloadi hG dX12_person_121 rfl ?_
                refine pm_bipush (v := nI 14) hG dX12_person_123 (by decide) ?_
                refine pm_icmpN_ge (tgt := 143) hG dX12_person_125 rfl (by omega) (by omega) (fun q => absurd q (by omega)) (fun _ => ?_)
                refine pm_aloadn hG dX12_person_128 rfl ?_
                refine pm_iloadi hG dX12_person_129 rfl ?_
                refine pm_iloadi hG dX12_person_131 rfl ?_
                refine pm_iconst (v := nI 0) hG dX12_person_133 (by decide) ?_
                refine pm_callV (As := [.int (nI k22), .int (nI 7), .int (nI 0)]) (rest := []) hG hR dX12_person_134 (lkX12_97 _ rfl) okV_X12_sets rfl rfl (m_sets (d := 2) (e := 14 * k22 + 117) (by omega) (by omega) (by omega)) rfl rfl hdd (Nat.le_refl _) (Nat.le_refl _) (by decide) (pm_kv (fun σ' cnt' hq => ?_))
                obtain ⟨rfl, rfl⟩ := hq
                obtain ⟨n_63, en_63⟩ : ∃ f : Nat → Int32, f = upd n_58 (14 * k22 + 117) (nI 0) := ⟨_, rfl⟩
                rw [← en_63]
                have hnn_63 := KI.w en_63 hnn_58 (okv_f (show kd (14 * k22 + 117) = (0, 0, false) from (kd_P (k := k22) (c := 7) (by omega) (by omega) (by decide))))
                have hrn_63 := NRx.w en_63 hrn_58 (by rw [(show kd (14 * k22 + 117) = (0, 0, false) from (kd_P (k := k22) (c := 7) (by omega) (by omega) (by decide)))])
                have e64 : n_63 8 = nI kc8 := by rw [en_63, pk_un (by omega)]; exact e59
                have e65 : n_63 0 = nI k18 := by rw [en_63, pk_un (by omega)]; exact e60
                have e66 : n_63 2 = nI (k22 + 1) := by rw [en_63, pk_un (by omega)]; exact e61
                have e67 : n_63 (14 * k22 + 117) = nI 0 := by rw [en_63, pk_us]
                refine pm_iincX (v := nI 8) (loc' := [some (.ref (B + 54)), some (.int za), some (.int zb), some (.int zc), some (.int zd), some (.int (nI 1)), some (.int (nI k22)), some (.int (nI 8))]) hG dX12_person_137 rfl (nI_1 _) (by decide) (pm_c1b rfl) rfl ?_
                refine pm_goto (tgt := 121) hG dX12_person_140 rfl ?_
                refine pm_iloadi hG dX12_person_121 rfl ?_
                refine pm_bipush (v := nI 14) hG dX12_person_123 (by decide) ?_
                refine pm_icmpN_ge (tgt := 143) hG dX12_person_125 rfl (by omega) (by omega) (fun q => absurd q (by omega)) (fun _ => ?_)
                refine pm_aloadn hG dX12_person_128 rfl ?_
                refine pm_iloadi hG dX12_person_129 rfl ?_
                refine pm_iloadi hG dX12_person_131 rfl ?_
                refine pm_iconst (v := nI 0) hG dX12_person_133 (by decide) ?_
                refine pm_callV (As := [.int (nI k22), .int (nI 8), .int (nI 0)]) (rest := []) hG hR dX12_person_134 (lkX12_97 _ rfl) okV_X12_sets rfl rfl (m_sets (d := 2) (e := 14 * k22 + 118) (by omega) (by omega) (by omega)) rfl rfl hdd (Nat.le_refl _) (Nat.le_refl _) (by decide) (pm_kv (fun σ' cnt' hq => ?_))
                obtain ⟨rfl, rfl⟩ := hq
                obtain ⟨n_68, en_68⟩ : ∃ f : Nat → Int32, f = upd n_63 (14 * k22 + 118) (nI 0) := ⟨_, rfl⟩
                rw [← en_68]
                have hnn_68 := KI.w en_68 hnn_63 (okv_f (show kd (14 * k22 + 118) = (0, 0, false) from (kd_P (k := k22) (c := 8) (by omega) (by omega) (by decide))))
                have hrn_68 := NRx.w en_68 hrn_63 (by rw [(show kd (14 * k22 + 118) = (0, 0, false) from (kd_P (k := k22) (c := 8) (by omega) (by omega) (by decide)))])
                have e69 : n_68 8 = nI kc8 := by rw [en_68, pk_un (by omega)]; exact e64
                have e70 : n_68 0 = nI k18 := by rw [en_68, pk_un (by omega)]; exact e65
                have e71 : n_68 2 = nI (k22 + 1) := by rw [en_68, pk_un (by omega)]; exact e66
                have e72 : n_68 (14 * k22 + 118) = nI 0 := by rw [en_68, pk_us]
                refine pm_iincX (v := nI 9) (loc' := [some (.ref (B + 54)), some (.int za), some (.int zb), some (.int zc), some (.int zd), some (.int (nI 1)), some (.int (nI k22)), some (.int (nI 9))]) hG dX12_person_137 rfl (nI_1 _) (by decide) (pm_c1b rfl) rfl ?_
                refine pm_goto (tgt := 121) hG dX12_person_140 rfl ?_
                refine pm_iloadi hG dX12_person_121 rfl ?_
                refine pm_bipush (v := nI 14) hG dX12_person_123 (by decide) ?_
                refine pm_icmpN_ge (tgt := 143) hG dX12_person_125 rfl (by omega) (by omega) (fun q => absurd q (by omega)) (fun _ => ?_)
                refine pm_aloadn hG dX12_person_128 rfl ?_
                refine pm_iloadi hG dX12_person_129 rfl ?_
                refine pm_iloadi hG dX12_person_131 rfl ?_
                refine pm_iconst (v := nI 0) hG dX12_person_133 (by decide) ?_
                refine pm_callV (As := [.int (nI k22), .int (nI 9), .int (nI 0)]) (rest := []) hG hR dX12_person_134 (lkX12_97 _ rfl) okV_X12_sets rfl rfl (m_sets (d := 2) (e := 14 * k22 + 119) (by omega) (by omega) (by omega)) rfl rfl hdd (Nat.le_refl _) (Nat.le_refl _) (by decide) (pm_kv (fun σ' cnt' hq => ?_))
                obtain ⟨rfl, rfl⟩ := hq
                obtain ⟨n_73, en_73⟩ : ∃ f : Nat → Int32, f = upd n_68 (14 * k22 + 119) (nI 0) := ⟨_, rfl⟩
                rw [← en_73]
                have hnn_73 := KI.w en_73 hnn_68 (okv_o (show kd (14 * k22 + 119) = (2, 2001, false) from (kd_P (k := k22) (c := 9) (by omega) (by omega) (by decide))) (by omega))
                have hrn_73 := NRx.w en_73 hrn_68 (by rw [(show kd (14 * k22 + 119) = (2, 2001, false) from (kd_P (k := k22) (c := 9) (by omega) (by omega) (by decide)))])
                have e74 : n_73 8 = nI kc8 := by rw [en_73, pk_un (by omega)]; exact e69
                have e75 : n_73 0 = nI k18 := by rw [en_73, pk_un (by omega)]; exact e70
                have e76 : n_73 2 = nI (k22 + 1) := by rw [en_73, pk_un (by omega)]; exact e71
                have e77 : n_73 (14 * k22 + 119) = nI 0 := by rw [en_73, pk_us]
                refine pm_iincX (v := nI 10) (loc' := [some (.ref (B + 54)), some (.int za), some (.int zb), some (.int zc), some (.int zd), some (.int (nI 1)), some (.int (nI k22)), some (.int (nI 10))]) hG dX12_person_137 rfl (nI_1 _) (by decide) (pm_c1b rfl) rfl ?_
                refine pm_goto (tgt := 121) hG dX12_person_140 rfl ?_
                refine pm_iloadi hG dX12_person_121 rfl ?_
                refine pm_bipush (v := nI 14) hG dX12_person_123 (by decide) ?_
                refine pm_icmpN_ge (tgt := 143) hG dX12_person_125 rfl (by omega) (by omega) (fun q => absurd q (by omega)) (fun _ => ?_)
                refine pm_aloadn hG dX12_person_128 rfl ?_
                refine pm_iloadi hG dX12_person_129 rfl ?_
                refine pm_iloadi hG dX12_person_131 rfl ?_
                refine pm_iconst (v := nI 0) hG dX12_person_133 (by decide) ?_
                refine pm_callV (As := [.int (nI k22), .int (nI 10), .int (nI 0)]) (rest := []) hG hR dX12_person_134 (lkX12_97 _ rfl) okV_X12_sets rfl rfl (m_sets (d := 2) (e := 14 * k22 + 120) (by omega) (by omega) (by omega)) rfl rfl hdd (Nat.le_refl _) (Nat.le_refl _) (by decide) (pm_kv (fun σ' cnt' hq => ?_))
                obtain ⟨rfl, rfl⟩ := hq
                obtain ⟨n_78, en_78⟩ : ∃ f : Nat → Int32, f = upd n_73 (14 * k22 + 120) (nI 0) := ⟨_, rfl⟩
                rw [← en_78]
                have hnn_78 := KI.w en_78 hnn_73 (okv_f (show kd (14 * k22 + 120) = (0, 0, false) from (kd_P (k := k22) (c := 10) (by omega) (by omega) (by decide))))
                have hrn_78 := NRx.w en_78 hrn_73 (by rw [(show kd (14 * k22 + 120) = (0, 0, false) from (kd_P (k := k22) (c := 10) (by omega) (by omega) (by decide)))])
                have e79 : n_78 8 = nI kc8 := by rw [en_78, pk_un (by omega)]; exact e74
                have e80 : n_78 0 = nI k18 := by rw [en_78, pk_un (by omega)]; exact e75
                have e81 : n_78 2 = nI (k22 + 1) := by rw [en_78, pk_un (by omega)]; exact e76
                have e82 : n_78 (14 * k22 + 120) = nI 0 := by rw [en_78, pk_us]
                refine pm_iincX (v := nI 11) (loc' := [some (.ref (B + 54)), some (.int za), some (.int zb), some (.int zc), some (.int zd), some (.int (nI 1)), some (.int (nI k22)), some (.int (nI 11))]) hG dX12_person_137 rfl (nI_1 _) (by decide) (pm_c1b rfl) rfl ?_
                refine pm_goto (tgt := 121) hG dX12_person_140 rfl ?_
                refine pm_iloadi hG dX12_person_121 rfl ?_
                refine pm_bipush (v := nI 14) hG dX12_person_123 (by decide) ?_
                refine pm_icmpN_ge (tgt := 143) hG dX12_person_125 rfl (by omega) (by omega) (fun q => absurd q (by omega)) (fun _ => ?_)
                refine pm_aloadn hG dX12_person_128 rfl ?_
                refine pm_iloadi hG dX12_person_129 rfl ?_
                refine pm_iloadi hG dX12_person_131 rfl ?_
                refine pm_iconst (v := nI 0) hG dX12_person_133 (by decide) ?_
                refine pm_callV (As := [.int (nI k22), .int (nI 11), .int (nI 0)]) (rest := []) hG hR dX12_person_134 (lkX12_97 _ rfl) okV_X12_sets rfl rfl (m_sets (d := 2) (e := 14 * k22 + 121) (by omega) (by omega) (by omega)) rfl rfl hdd (Nat.le_refl _) (Nat.le_refl _) (by decide) (pm_kv (fun σ' cnt' hq => ?_))
                obtain ⟨rfl, rfl⟩ := hq
                obtain ⟨n_83, en_83⟩ : ∃ f : Nat → Int32, f = upd n_78 (14 * k22 + 121) (nI 0) := ⟨_, rfl⟩
                rw [← en_83]
                have hnn_83 := KI.w en_83 hnn_78 (okv_n (show kd (14 * k22 + 121) = (1, 2, true) from (kd_P (k := k22) (c := 11) (by omega) (by omega) (by decide))) (by omega))
                have hrn_83 := NRx.unseat (p := k22) en_83 hrn_78 (by omega)
                have e84 : n_83 8 = nI kc8 := by rw [en_83, pk_un (by omega)]; exact e79
                have e85 : n_83 0 = nI k18 := by rw [en_83, pk_un (by omega)]; exact e80
                have e86 : n_83 2 = nI (k22 + 1) := by rw [en_83, pk_un (by omega)]; exact e81
                have e87 : n_83 (14 * k22 + 121) = nI 0 := by rw [en_83, pk_us]
                refine pm_iincX (v := nI 12) (loc' := [some (.ref (B + 54)), some (.int za), some (.int zb), some (.int zc), some (.int zd), some (.int (nI 1)), some (.int (nI k22)), some (.int (nI 12))]) hG dX12_person_137 rfl (nI_1 _) (by decide) (pm_c1b rfl) rfl ?_
                refine pm_goto (tgt := 121) hG dX12_person_140 rfl ?_
                refine pm_iloadi hG dX12_person_121 rfl ?_
                refine pm_bipush (v := nI 14) hG dX12_person_123 (by decide) ?_
                refine pm_icmpN_ge (tgt := 143) hG dX12_person_125 rfl (by omega) (by omega) (fun q => absurd q (by omega)) (fun _ => ?_)
                refine pm_aloadn hG dX12_person_128 rfl ?_
                refine pm_iloadi hG dX12_person_129 rfl ?_
                refine pm_iloadi hG dX12_person_131 rfl ?_
                refine pm_iconst (v := nI 0) hG dX12_person_133 (by decide) ?_
                refine pm_callV (As := [.int (nI k22), .int (nI 12), .int (nI 0)]) (rest := []) hG hR dX12_person_134 (lkX12_97 _ rfl) okV_X12_sets rfl rfl (m_sets (d := 2) (e := 14 * k22 + 122) (by omega) (by omega) (by omega)) rfl rfl hdd (Nat.le_refl _) (Nat.le_refl _) (by decide) (pm_kv (fun σ' cnt' hq => ?_))
                obtain ⟨rfl, rfl⟩ := hq
                obtain ⟨n_88, en_88⟩ : ∃ f : Nat → Int32, f = upd n_83 (14 * k22 + 122) (nI 0) := ⟨_, rfl⟩
                rw [← en_88]
                have hnn_88 := KI.w en_88 hnn_83 (okv_f (show kd (14 * k22 + 122) = (0, 0, false) from (kd_P (k := k22) (c := 12) (by omega) (by omega) (by decide))))
                have hrn_88 := NRx.w en_88 hrn_83 (by rw [(show kd (14 * k22 + 122) = (0, 0, false) from (kd_P (k := k22) (c := 12) (by omega) (by omega) (by decide)))])
                have e89 : n_88 8 = nI kc8 := by rw [en_88, pk_un (by omega)]; exact e84
                have e90 : n_88 0 = nI k18 := by rw [en_88, pk_un (by omega)]; exact e85
                have e91 : n_88 2 = nI (k22 + 1) := by rw [en_88, pk_un (by omega)]; exact e86
                have e92 : n_88 (14 * k22 + 122) = nI 0 := by rw [en_88, pk_us]
                refine pm_iincX (v := nI 13) (loc' := [some (.ref (B + 54)), some (.int za), some (.int zb), some (.int zc), some (.int zd), some (.int (nI 1)), some (.int (nI k22)), some (.int (nI 13))]) hG dX12_person_137 rfl (nI_1 _) (by decide) (pm_c1b rfl) rfl ?_
                refine pm_goto (tgt := 121) hG dX12_person_140 rfl ?_
                refine pm_iloadi hG dX12_person_121 rfl ?_
                refine pm_bipush (v := nI 14) hG dX12_person_123 (by decide) ?_
                refine pm_icmpN_ge (tgt := 143) hG dX12_person_125 rfl (by omega) (by omega) (fun q => absurd q (by omega)) (fun _ => ?_)
                refine pm_aloadn hG dX12_person_128 rfl ?_
                refine pm_iloadi hG dX12_person_129 rfl ?_
                refine pm_iloadi hG dX12_person_131 rfl ?_
                refine pm_iconst (v := nI 0) hG dX12_person_133 (by decide) ?_
                refine pm_callV (As := [.int (nI k22), .int (nI 13), .int (nI 0)]) (rest := []) hG hR dX12_person_134 (lkX12_97 _ rfl) okV_X12_sets rfl rfl (m_sets (d := 2) (e := 14 * k22 + 123) (by omega) (by omega) (by omega)) rfl rfl hdd (Nat.le_refl _) (Nat.le_refl _) (by decide) (pm_kv (fun σ' cnt' hq => ?_))
                obtain ⟨rfl, rfl⟩ := hq
                obtain ⟨n_93, en_93⟩ : ∃ f : Nat → Int32, f = upd n_88 (14 * k22 + 123) (nI 0) := ⟨_, rfl⟩
                rw [← en_93]
                have hnn_93 := KI.w en_93 hnn_88 (okv_f (show kd (14 * k22 + 123) = (0, 0, false) from (kd_P (k := k22) (c := 13) (by omega) (by omega) (by decide))))
                have hrn_93 := NRx.w en_93 hrn_88 (by rw [(show kd (14 * k22 + 123) = (0, 0, false) from (kd_P (k := k22) (c := 13) (by omega) (by omega) (by decide)))])
                have e94 : n_93 8 = nI kc8 := by rw [en_93, pk_un (by omega)]; exact e89
                have e95 : n_93 0 = nI k18 := by rw [en_93, pk_un (by omega)]; exact e90
                have e96 : n_93 2 = nI (k22 + 1) := by rw [en_93, pk_un (by omega)]; exact e91
                have e97 : n_93 (14 * k22 + 123) = nI 0 := by rw [en_93, pk_us]
                refine pm_iincX (v := nI 14) (loc' := [some (.ref (B + 54)), some (.int za), some (.int zb), some (.int zc), some (.int zd), some (.int (nI 1)), some (.int (nI k22)), some (.int (nI 14))]) hG dX12_person_137 rfl (nI_1 _) (by decide) (pm_c1b rfl) rfl ?_
                refine pm_goto (tgt := 121) hG dX12_person_140 rfl ?_
                refine pm_iloadi hG dX12_person_121 rfl ?_
                refine pm_bipush (v := nI 14) hG dX12_person_123 (by decide) ?_
                refine pm_icmpN_ge (tgt := 143) hG dX12_person_125 rfl (by omega) (by omega) (fun _ => ?_) (fun q => absurd q (by omega))
                refine pm_aloadn hG dX12_person_143 rfl ?_
                refine pm_iloadi hG dX12_person_144 rfl ?_
                refine pm_iconst (v := nI 0) hG dX12_person_146 (by decide) ?_
                refine pm_iloadn hG dX12_person_147 rfl ?_
                refine pm_top (v := nI k3) ek3 ?_
                refine pm_callV (As := [.int (nI k22), .int (nI 0), .int (nI k3)]) (rest := []) hG hR dX12_person_148 (lkX12_97 _ rfl) okV_X12_sets rfl rfl (m_sets (d := 2) (e := 14 * k22 + 110) (by omega) (by omega) (by omega)) rfl rfl hdd (Nat.le_refl _) (Nat.le_refl _) (by decide) (pm_kv (fun σ' cnt' hq => ?_))
                obtain ⟨rfl, rfl⟩ := hq
                obtain ⟨n_98, en_98⟩ : ∃ f : Nat → Int32, f = upd n_93 (14 * k22 + 110) (nI k3) := ⟨_, rfl⟩
                rw [← en_98]
                have hnn_98 := KI.w en_98 hnn_93 (okv_f (show kd (14 * k22 + 110) = (0, 0, false) from (kd_P (k := k22) (c := 0) (by omega) (by omega) (by decide))))
                have hrn_98 := NRx.w en_98 hrn_93 (by rw [(show kd (14 * k22 + 110) = (0, 0, false) from (kd_P (k := k22) (c := 0) (by omega) (by omega) (by decide)))])
                have e99 : n_98 8 = nI kc8 := by rw [en_98, pk_un (by omega)]; exact e94
                have e100 : n_98 0 = nI k18 := by rw [en_98, pk_un (by omega)]; exact e95
                have e101 : n_98 2 = nI (k22 + 1) := by rw [en_98, pk_un (by omega)]; exact e96
                have e102 : n_98 (14 * k22 + 110) = nI k3 := by rw [en_98, pk_us]
                refine pm_aloadn hG dX12_person_151 rfl ?_
                refine pm_iloadi hG dX12_person_152 rfl ?_
                refine pm_iconst (v := nI 1) hG dX12_person_154 (by decide) ?_
                refine pm_iloadn hG dX12_person_155 rfl ?_
                refine pm_callV (As := [.int (nI k22), .int (nI 1), .int zb]) (rest := []) hG hR dX12_person_156 (lkX12_97 _ rfl) okV_X12_sets rfl rfl (m_sets (d := 2) (e := 14 * k22 + 111) (by omega) (by omega) (by omega)) rfl rfl hdd (Nat.le_refl _) (Nat.le_refl _) (by decide) (pm_kv (fun σ' cnt' hq => ?_))
                obtain ⟨rfl, rfl⟩ := hq
                obtain ⟨n_103, en_103⟩ : ∃ f : Nat → Int32, f = upd n_98 (14 * k22 + 111) zb := ⟨_, rfl⟩
                rw [← en_103]
                have hnn_103 := KI.w en_103 hnn_98 (okv_f (show kd (14 * k22 + 111) = (0, 0, false) from (kd_P (k := k22) (c := 1) (by omega) (by omega) (by decide))))
                have hrn_103 := NRx.w en_103 hrn_98 (by rw [(show kd (14 * k22 + 111) = (0, 0, false) from (kd_P (k := k22) (c := 1) (by omega) (by omega) (by decide)))])
                have e104 : n_103 8 = nI kc8 := by rw [en_103, pk_un (by omega)]; exact e99
                have e105 : n_103 0 = nI k18 := by rw [en_103, pk_un (by omega)]; exact e100
                have e106 : n_103 2 = nI (k22 + 1) := by rw [en_103, pk_un (by omega)]; exact e101
                have e107 : n_103 (14 * k22 + 111) = zb := by rw [en_103, pk_us]
                refine pm_aloadn hG dX12_person_159 rfl ?_
                refine pm_iloadi hG dX12_person_160 rfl ?_
                refine pm_iconst (v := nI 2) hG dX12_person_162 (by decide) ?_
                refine pm_iloadn hG dX12_person_163 rfl ?_
                refine pm_top (v := nI k9) ek9 ?_
                refine pm_bipush (v := nI 100) hG dX12_person_164 (by decide) ?_
                refine pm_idivN hG dX12_person_166 (by omega) (by decide) (by decide) ?_
                refine pm_iconst (v := nI 1) hG dX12_person_167 (by decide) ?_
                refine pm_isub hG dX12_person_168 ?_
                refine pm_top (v := (-1)) ek11 ?_
                refine pm_callV (As := [.int (nI k22), .int (nI 2), .int (-1)]) (rest := []) hG hR dX12_person_169 (lkX12_97 _ rfl) okV_X12_sets rfl rfl (m_sets (d := 2) (e := 14 * k22 + 112) (by omega) (by omega) (by omega)) rfl rfl hdd (Nat.le_refl _) (Nat.le_refl _) (by decide) (pm_kv (fun σ' cnt' hq => ?_))
                obtain ⟨rfl, rfl⟩ := hq
                obtain ⟨n_108, en_108⟩ : ∃ f : Nat → Int32, f = upd n_103 (14 * k22 + 112) (-1) := ⟨_, rfl⟩
                rw [← en_108]
                have hnn_108 := KI.w en_108 hnn_103 (okv_m (show kd (14 * k22 + 112) = (2, 20, false) from (kd_P (k := k22) (c := 2) (by omega) (by omega) (by decide))))
                have hrn_108 := NRx.w en_108 hrn_103 (by rw [(show kd (14 * k22 + 112) = (2, 20, false) from (kd_P (k := k22) (c := 2) (by omega) (by omega) (by decide)))])
                have e109 : n_108 8 = nI kc8 := by rw [en_108, pk_un (by omega)]; exact e104
                have e110 : n_108 0 = nI k18 := by rw [en_108, pk_un (by omega)]; exact e105
                have e111 : n_108 2 = nI (k22 + 1) := by rw [en_108, pk_un (by omega)]; exact e106
                have e112 : n_108 (14 * k22 + 112) = (-1) := by rw [en_108, pk_us]
                refine pm_aloadn hG dX12_person_172 rfl ?_
                refine pm_iloadi hG dX12_person_173 rfl ?_
                refine pm_iconst (v := nI 3) hG dX12_person_175 (by decide) ?_
                refine pm_iloadn hG dX12_person_176 rfl ?_
                refine pm_top (v := nI k9) ek9 ?_
                refine pm_bipush (v := nI 100) hG dX12_person_177 (by decide) ?_
                refine pm_iremM hG dX12_person_179 (by omega) (by decide) (by decide) ?_
                refine pm_iconst (v := nI 1) hG dX12_person_180 (by decide) ?_
                refine pm_isub hG dX12_person_181 ?_
                refine pm_top (v := (-1)) ek15 ?_
                refine pm_callV (As := [.int (nI k22), .int (nI 3), .int (-1)]) (rest := []) hG hR dX12_person_182 (lkX12_97 _ rfl) okV_X12_sets rfl rfl (m_sets (d := 2) (e := 14 * k22 + 113) (by omega) (by omega) (by omega)) rfl rfl hdd (Nat.le_refl _) (Nat.le_refl _) (by decide) (pm_kv (fun σ' cnt' hq => ?_))
                obtain ⟨rfl, rfl⟩ := hq
                obtain ⟨n_113, en_113⟩ : ∃ f : Nat → Int32, f = upd n_108 (14 * k22 + 113) (-1) := ⟨_, rfl⟩
                rw [← en_113]
                have hnn_113 := KI.w en_113 hnn_108 (okv_m (show kd (14 * k22 + 113) = (2, 20, false) from (kd_P (k := k22) (c := 3) (by omega) (by omega) (by decide))))
                have hrn_113 := NRx.w en_113 hrn_108 (by rw [(show kd (14 * k22 + 113) = (2, 20, false) from (kd_P (k := k22) (c := 3) (by omega) (by omega) (by decide)))])
                have e114 : n_113 8 = nI kc8 := by rw [en_113, pk_un (by omega)]; exact e109
                have e115 : n_113 0 = nI k18 := by rw [en_113, pk_un (by omega)]; exact e110
                have e116 : n_113 2 = nI (k22 + 1) := by rw [en_113, pk_un (by omega)]; exact e111
                have e117 : n_113 (14 * k22 + 113) = (-1) := by rw [en_113, pk_us]
                refine pm_aloadn hG dX12_person_185 rfl ?_
                refine pm_iloadi hG dX12_person_186 rfl ?_
                refine pm_iconst (v := nI 4) hG dX12_person_188 (by decide) ?_
                refine pm_iloadi hG dX12_person_189 rfl ?_
                refine pm_top (v := nI k21) ek21 ?_
                refine pm_callV (As := [.int (nI k22), .int (nI 4), .int (nI k21)]) (rest := []) hG hR dX12_person_191 (lkX12_97 _ rfl) okV_X12_sets rfl rfl (m_sets (d := 2) (e := 14 * k22 + 114) (by omega) (by omega) (by omega)) rfl rfl hdd (Nat.le_refl _) (Nat.le_refl _) (by decide) (pm_kv (fun σ' cnt' hq => ?_))
                obtain ⟨rfl, rfl⟩ := hq
                obtain ⟨n_118, en_118⟩ : ∃ f : Nat → Int32, f = upd n_113 (14 * k22 + 114) (nI k21) := ⟨_, rfl⟩
                rw [← en_118]
                have hnn_118 := KI.w en_118 hnn_113 (okv_o (show kd (14 * k22 + 114) = (2, 10, false) from (kd_P (k := k22) (c := 4) (by omega) (by omega) (by decide))) (by omega))
                have hrn_118 := NRx.w en_118 hrn_113 (by rw [(show kd (14 * k22 + 114) = (2, 10, false) from (kd_P (k := k22) (c := 4) (by omega) (by omega) (by decide)))])
                have e119 : n_118 8 = nI kc8 := by rw [en_118, pk_un (by omega)]; exact e114
                have e120 : n_118 0 = nI k18 := by rw [en_118, pk_un (by omega)]; exact e115
                have e121 : n_118 2 = nI (k22 + 1) := by rw [en_118, pk_un (by omega)]; exact e116
                have e122 : n_118 (14 * k22 + 114) = nI k21 := by rw [en_118, pk_us]
                refine pm_aloadn hG dX12_person_194 rfl ?_
                refine pm_iloadi hG dX12_person_195 rfl ?_
                refine pm_bipush (v := nI 9) hG dX12_person_197 (by decide) ?_
                refine pm_iconst (v := (-1)) hG dX12_person_199 (by decide) ?_
                refine pm_callV (As := [.int (nI k22), .int (nI 9), .int (-1)]) (rest := []) hG hR dX12_person_200 (lkX12_97 _ rfl) okV_X12_sets rfl rfl (m_sets (d := 2) (e := 14 * k22 + 119) (by omega) (by omega) (by omega)) rfl rfl hdd (Nat.le_refl _) (Nat.le_refl _) (by decide) (pm_kv (fun σ' cnt' hq => ?_))
                obtain ⟨rfl, rfl⟩ := hq
                obtain ⟨n_123, en_123⟩ : ∃ f : Nat → Int32, f = upd n_118 (14 * k22 + 119) (-1) := ⟨_, rfl⟩
                rw [← en_123]
                have hnn_123 := KI.w en_123 hnn_118 (okv_m (show kd (14 * k22 + 119) = (2, 2001, false) from (kd_P (k := k22) (c := 9) (by omega) (by omega) (by decide))))
                have hrn_123 := NRx.w en_123 hrn_118 (by rw [(show kd (14 * k22 + 119) = (2, 2001, false) from (kd_P (k := k22) (c := 9) (by omega) (by omega) (by decide)))])
                have e124 : n_123 8 = nI kc8 := by rw [en_123, pk_un (by omega)]; exact e119
                have e125 : n_123 0 = nI k18 := by rw [en_123, pk_un (by omega)]; exact e120
                have e126 : n_123 2 = nI (k22 + 1) := by rw [en_123, pk_un (by omega)]; exact e121
                have e127 : n_123 (14 * k22 + 119) = (-1) := by rw [en_123, pk_us]
                refine pm_aloadn hG dX12_person_203 rfl ?_
                refine pm_iloadi hG dX12_person_204 rfl ?_
                refine pm_bipush (v := nI 10) hG dX12_person_206 (by decide) ?_
                refine pm_iconst (v := (-1)) hG dX12_person_208 (by decide) ?_
                refine pm_callV (As := [.int (nI k22), .int (nI 10), .int (-1)]) (rest := []) hG hR dX12_person_209 (lkX12_97 _ rfl) okV_X12_sets rfl rfl (m_sets (d := 2) (e := 14 * k22 + 120) (by omega) (by omega) (by omega)) rfl rfl hdd (Nat.le_refl _) (Nat.le_refl _) (by decide) (pm_kv (fun σ' cnt' hq => ?_))
                obtain ⟨rfl, rfl⟩ := hq
                obtain ⟨n_128, en_128⟩ : ∃ f : Nat → Int32, f = upd n_123 (14 * k22 + 120) (-1) := ⟨_, rfl⟩
                rw [← en_128]
                have hnn_128 := KI.w en_128 hnn_123 (okv_f (show kd (14 * k22 + 120) = (0, 0, false) from (kd_P (k := k22) (c := 10) (by omega) (by omega) (by decide))))
                have hrn_128 := NRx.w en_128 hrn_123 (by rw [(show kd (14 * k22 + 120) = (0, 0, false) from (kd_P (k := k22) (c := 10) (by omega) (by omega) (by decide)))])
                have e129 : n_128 8 = nI kc8 := by rw [en_128, pk_un (by omega)]; exact e124
                have e130 : n_128 0 = nI k18 := by rw [en_128, pk_un (by omega)]; exact e125
                have e131 : n_128 2 = nI (k22 + 1) := by rw [en_128, pk_un (by omega)]; exact e126
                have e132 : n_128 (14 * k22 + 120) = (-1) := by rw [en_128, pk_us]
                refine pm_aloadn hG dX12_person_212 rfl ?_
                refine pm_iloadi hG dX12_person_213 rfl ?_
                refine pm_bipush (v := nI 12) hG dX12_person_215 (by decide) ?_
                refine pm_iconst (v := nI 1) hG dX12_person_217 (by decide) ?_
                refine pm_callV (As := [.int (nI k22), .int (nI 12), .int (nI 1)]) (rest := []) hG hR dX12_person_218 (lkX12_97 _ rfl) okV_X12_sets rfl rfl (m_sets (d := 2) (e := 14 * k22 + 122) (by omega) (by omega) (by omega)) rfl rfl hdd (Nat.le_refl _) (Nat.le_refl _) (by decide) (pm_kv (fun σ' cnt' hq => ?_))
                obtain ⟨rfl, rfl⟩ := hq
                obtain ⟨n_133, en_133⟩ : ∃ f : Nat → Int32, f = upd n_128 (14 * k22 + 122) (nI 1) := ⟨_, rfl⟩
                rw [← en_133]
                have hnn_133 := KI.w en_133 hnn_128 (okv_f (show kd (14 * k22 + 122) = (0, 0, false) from (kd_P (k := k22) (c := 12) (by omega) (by omega) (by decide))))
                have hrn_133 := NRx.w en_133 hrn_128 (by rw [(show kd (14 * k22 + 122) = (0, 0, false) from (kd_P (k := k22) (c := 12) (by omega) (by omega) (by decide)))])
                have e134 : n_133 8 = nI kc8 := by rw [en_133, pk_un (by omega)]; exact e129
                have e135 : n_133 0 = nI k18 := by rw [en_133, pk_un (by omega)]; exact e130
                have e136 : n_133 2 = nI (k22 + 1) := by rw [en_133, pk_un (by omega)]; exact e131
                have e137 : n_133 (14 * k22 + 122) = nI 1 := by rw [en_133, pk_us]
                refine pm_iloadi hG dX12_person_221 rfl ?_
                exact pm_iret hG hF dX12_person_223 rfl (Nat.le_refl _) (Nat.le_refl _) ⟨_, rfl, ⟨_, _, _, rfl, hnn_133, hrn_133, e134.trans ekc8.symm⟩, rfl⟩
              · refine pm_aloadn hG dX12_person_102 rfl ?_
                refine pm_iconst (v := nI 4) hG dX12_person_103 (by decide) ?_
                refine pm_callV (As := [.int (nI 4)]) (rest := []) hG hR dX12_person_104 (lkX12_80 _ rfl) okV_X12_finds rfl rfl (m_finds (d := 2) (by decide) hn hz (by omega)) rfl rfl hdd (Nat.le_refl _) (Nat.le_refl _) (by decide) (pm_ki (fun v138 σ' cnt' hq => ?_))
                obtain ⟨⟨I139, A139, rfl⟩, rfl, fv138⟩ := hq
                exact pm_iret hG hF dX12_person_107 rfl (Nat.le_refl _) (Nat.le_refl _) ⟨_, rfl, ⟨_, _, _, rfl, hn, hr, ekc8.trans ekc8.symm⟩, rfl⟩
            · refine pm_ifN_eq (tgt := 73) hG dX12_person_66 rfl (by omega) (fun _ => ?_) (fun q => absurd q (by omega))
              refine pm_iconst (v := nI 0) hG dX12_person_73 (by decide) ?_
              refine pm_istoreXi (loc' := [some (.ref (B + 54)), some (.int za), some (.int zb), some (.int zc), some (.int zd), some (.int (nI 0)), none, none]) hG dX12_person_74 (by decide) (pm_c1b rfl) rfl ?_
              refine pm_iloadi hG dX12_person_76 rfl ?_
              refine pm_ifN_ne (tgt := 87) hG dX12_person_78 rfl (by omega) (fun q => absurd q (by omega)) (fun _ => ?_)
              refine pm_aloadn hG dX12_person_81 rfl ?_
              refine pm_iconst (v := nI 1) hG dX12_person_82 (by decide) ?_
              refine pm_callV (As := [.int (nI 1)]) (rest := []) hG hR dX12_person_83 (lkX12_80 _ rfl) okV_X12_finds rfl rfl (m_finds (d := 2) (by decide) hn hz (by omega)) rfl rfl hdd (Nat.le_refl _) (Nat.le_refl _) (by decide) (pm_ki (fun v140 σ' cnt' hq => ?_))
              obtain ⟨⟨I141, A141, rfl⟩, rfl, fv140⟩ := hq
              exact pm_iret hG hF dX12_person_86 rfl (Nat.le_refl _) (Nat.le_refl _) ⟨_, rfl, ⟨_, _, _, rfl, hn, hr, ekc8.trans ekc8.symm⟩, rfl⟩
          · refine pm_ifN_eq (tgt := 73) hG dX12_person_57 rfl (by omega) (fun q => absurd q (by omega)) (fun _ => ?_)
            refine pm_aloadn hG dX12_person_60 rfl ?_
            refine pm_iloadi hG dX12_person_61 rfl ?_
            obtain ⟨k142, hk142, ek142⟩ := KI.nat hn (show kd 0 = (1, 11, true) by decide)
            refine pm_callV (As := [.int zd]) (rest := []) hG hR dX12_person_63 (lkX12_84 _ rfl) okV_X12_isTown rfl rfl (m_isTown (d := 2) (by decide) ek142 (by omega)) rfl rfl hdd (Nat.le_refl _) (Nat.le_refl _) (by decide) (pm_ki (fun v143 σ' cnt' hq => ?_))
            obtain ⟨hq, rfl, rfl⟩ := hq
            rcases hq with ⟨rfl, k145, hk145, ek145⟩ | rfl
            · refine pm_ifN_eq (tgt := 73) hG dX12_person_66 rfl (by omega) (fun q => absurd q (by omega)) (fun _ => ?_)
              refine pm_iconst (v := nI 1) hG dX12_person_69 (by decide) ?_
              refine pm_goto (tgt := 74) hG dX12_person_70 rfl ?_
              refine pm_istoreXi (loc' := [some (.ref (B + 54)), some (.int za), some (.int zb), some (.int zc), some (.int zd), some (.int (nI 1)), none, none]) hG dX12_person_74 (by decide) (pm_c1b rfl) rfl ?_
              refine pm_iloadi hG dX12_person_76 rfl ?_
              refine pm_ifN_ne (tgt := 87) hG dX12_person_78 rfl (by omega) (fun _ => ?_) (fun q => absurd q (by omega))
              refine pm_aloadn hG dX12_person_87 rfl ?_
              refine pm_getf hG dX12_person_88 (flX12_7 _ rfl) rfl rfl ?_
              refine pm_iconst (v := nI 2) hG dX12_person_91 (by decide) ?_
              refine pm_ialdN hG dX12_person_92 rfl (by decide) (by omega) ?_
              obtain ⟨k146, hk146, ek146⟩ := KI.nat hn (show kd 2 = (1, 21, true) by decide)
              refine pm_top (v := nI k146) ek146 ?_
              refine pm_istoreXi (loc' := [some (.ref (B + 54)), some (.int za), some (.int zb), some (.int zc), some (.int zd), some (.int (nI 1)), some (.int (nI k146)), none]) hG dX12_person_93 (by decide) (pm_c1b rfl) rfl ?_
              refine pm_iloadi hG dX12_person_95 rfl ?_
              refine pm_bipush (v := nI 20) hG dX12_person_97 (by decide) ?_
              refine pm_icmpN_ne (tgt := 108) hG dX12_person_99 rfl (by omega) (by omega) (fun c147 => ?_) (fun c147 => ?_)
              · refine pm_aloadn hG dX12_person_108 rfl ?_
                refine pm_getf hG dX12_person_109 (flX12_7 _ rfl) rfl rfl ?_
                refine pm_iconst (v := nI 2) hG dX12_person_112 (by decide) ?_
                refine pm_dup2 hG dX12_person_113 rfl rfl ?_
                refine pm_ialdN hG dX12_person_114 rfl (by decide) (by omega) ?_
                refine pm_top (v := nI k146) ek146 ?_
                refine pm_iconst (v := nI 1) hG dX12_person_115 (by decide) ?_
                refine pm_iaddN (c := k146 + 1) hG dX12_person_116 (by omega) ?_
                refine pm_iastN hG dX12_person_117 rfl (by decide) (by omega) ?_
                refine mdn_now (fun n_148 en_148 => ?_)
                have hnn_148 := KI.w en_148 hn (okv_n (show kd 2 = (1, 21, true) by decide) (by omega))
                have hrn_148 := NRx.pers en_148 hr ek142 (by omega) ek146 (by omega)
                have e149 : n_148 8 = nI kc8 := by rw [en_148, pk_un (by omega)]; exact ekc8
                have e150 : n_148 0 = nI k142 := by rw [en_148, pk_un (by omega)]; exact ek142
                have e151 : n_148 2 = nI (k146 + 1) := by rw [en_148, pk_us]
                refine pm_iconst (v := nI 0) hG dX12_person_118 (by decide) ?_
                refine pm_istoreXi (loc' := [some (.ref (B + 54)), some (.int za), some (.int zb), some (.int zc), some (.int zd), some (.int (nI 1)), some (.int (nI k146)), some (.int (nI 0))]) hG dX12_person_119 (by decide) (pm_c1b rfl) rfl ?_
                refine pm_iloadi hG dX12_person_121 rfl ?_
                refine pm_bipush (v := nI 14) hG dX12_person_123 (by decide) ?_
                refine pm_icmpN_ge (tgt := 143) hG dX12_person_125 rfl (by omega) (by omega) (fun q => absurd q (by omega)) (fun _ => ?_)
                refine pm_aloadn hG dX12_person_128 rfl ?_
                refine pm_iloadi hG dX12_person_129 rfl ?_
                refine pm_iloadi hG dX12_person_131 rfl ?_
                refine pm_iconst (v := nI 0) hG dX12_person_133 (by decide) ?_
                refine pm_callV (As := [.int (nI k146), .int (nI 0), .int (nI 0)]) (rest := []) hG hR dX12_person_134 (lkX12_97 _ rfl) okV_X12_sets rfl rfl (m_sets (d := 2) (e := 14 * k146 + 110) (by omega) (by omega) (by omega)) rfl rfl hdd (Nat.le_refl _) (Nat.le_refl _) (by decide) (pm_kv (fun σ' cnt' hq => ?_))
                obtain ⟨rfl, rfl⟩ := hq
                obtain ⟨n_152, en_152⟩ : ∃ f : Nat → Int32, f = upd n_148 (14 * k146 + 110) (nI 0) := ⟨_, rfl⟩
                rw [← en_152]
                have hnn_152 := KI.w en_152 hnn_148 (okv_f (show kd (14 * k146 + 110) = (0, 0, false) from (kd_P (k := k146) (c := 0) (by omega) (by omega) (by decide))))
                have hrn_152 := NRx.w en_152 hrn_148 (by rw [(show kd (14 * k146 + 110) = (0, 0, false) from (kd_P (k := k146) (c := 0) (by omega) (by omega) (by decide)))])
                have e153 : n_152 8 = nI kc8 := by rw [en_152, pk_un (by omega)]; exact e149
                have e154 : n_152 0 = nI k142 := by rw [en_152, pk_un (by omega)]; exact e150
                have e155 : n_152 2 = nI (k146 + 1) := by rw [en_152, pk_un (by omega)]; exact e151
                have e156 : n_152 (14 * k146 + 110) = nI 0 := by rw [en_152, pk_us]
                refine pm_iincX (v := nI 1) (loc' := [some (.ref (B + 54)), some (.int za), some (.int zb), some (.int zc), some (.int zd), some (.int (nI 1)), some (.int (nI k146)), some (.int (nI 1))]) hG dX12_person_137 rfl (nI_1 _) (by decide) (pm_c1b rfl) rfl ?_
                refine pm_goto (tgt := 121) hG dX12_person_140 rfl ?_
                refine pm_iloadi hG dX12_person_121 rfl ?_
                refine pm_bipush (v := nI 14) hG dX12_person_123 (by decide) ?_
                refine pm_icmpN_ge (tgt := 143) hG dX12_person_125 rfl (by omega) (by omega) (fun q => absurd q (by omega)) (fun _ => ?_)
                refine pm_aloadn hG dX12_person_128 rfl ?_
                refine pm_iloadi hG dX12_person_129 rfl ?_
                refine pm_iloadi hG dX12_person_131 rfl ?_
                refine pm_iconst (v := nI 0) hG dX12_person_133 (by decide) ?_
                refine pm_callV (As := [.int (nI k146), .int (nI 1), .int (nI 0)]) (rest := []) hG hR dX12_person_134 (lkX12_97 _ rfl) okV_X12_sets rfl rfl (m_sets (d := 2) (e := 14 * k146 + 111) (by omega) (by omega) (by omega)) rfl rfl hdd (Nat.le_refl _) (Nat.le_refl _) (by decide) (pm_kv (fun σ' cnt' hq => ?_))
                obtain ⟨rfl, rfl⟩ := hq
                obtain ⟨n_157, en_157⟩ : ∃ f : Nat → Int32, f = upd n_152 (14 * k146 + 111) (nI 0) := ⟨_, rfl⟩
                rw [← en_157]
                have hnn_157 := KI.w en_157 hnn_152 (okv_f (show kd (14 * k146 + 111) = (0, 0, false) from (kd_P (k := k146) (c := 1) (by omega) (by omega) (by decide))))
                have hrn_157 := NRx.w en_157 hrn_152 (by rw [(show kd (14 * k146 + 111) = (0, 0, false) from (kd_P (k := k146) (c := 1) (by omega) (by omega) (by decide)))])
                have e158 : n_157 8 = nI kc8 := by rw [en_157, pk_un (by omega)]; exact e153
                have e159 : n_157 0 = nI k142 := by rw [en_157, pk_un (by omega)]; exact e154
                have e160 : n_157 2 = nI (k146 + 1) := by rw [en_157, pk_un (by omega)]; exact e155
                have e161 : n_157 (14 * k146 + 111) = nI 0 := by rw [en_157, pk_us]
                refine pm_iincX (v := nI 2) (loc' := [some (.ref (B + 54)), some (.int za), some (.int zb), some (.int zc), some (.int zd), some (.int (nI 1)), some (.int (nI k146)), some (.int (nI 2))]) hG dX12_person_137 rfl (nI_1 _) (by decide) (pm_c1b rfl) rfl ?_
                refine pm_goto (tgt := 121) hG dX12_person_140 rfl ?_
                refine pm_iloadi hG dX12_person_121 rfl ?_
                refine pm_bipush (v := nI 14) hG dX12_person_123 (by decide) ?_
                refine pm_icmpN_ge (tgt := 143) hG dX12_person_125 rfl (by omega) (by omega) (fun q => absurd q (by omega)) (fun _ => ?_)
                refine pm_aloadn hG dX12_person_128 rfl ?_
                refine pm_iloadi hG dX12_person_129 rfl ?_
                refine pm_iloadi hG dX12_person_131 rfl ?_
                refine pm_iconst (v := nI 0) hG dX12_person_133 (by decide) ?_
                refine pm_callV (As := [.int (nI k146), .int (nI 2), .int (nI 0)]) (rest := []) hG hR dX12_person_134 (lkX12_97 _ rfl) okV_X12_sets rfl rfl (m_sets (d := 2) (e := 14 * k146 + 112) (by omega) (by omega) (by omega)) rfl rfl hdd (Nat.le_refl _) (Nat.le_refl _) (by decide) (pm_kv (fun σ' cnt' hq => ?_))
                obtain ⟨rfl, rfl⟩ := hq
                obtain ⟨n_162, en_162⟩ : ∃ f : Nat → Int32, f = upd n_157 (14 * k146 + 112) (nI 0) := ⟨_, rfl⟩
                rw [← en_162]
                have hnn_162 := KI.w en_162 hnn_157 (okv_o (show kd (14 * k146 + 112) = (2, 20, false) from (kd_P (k := k146) (c := 2) (by omega) (by omega) (by decide))) (by omega))
                have hrn_162 := NRx.w en_162 hrn_157 (by rw [(show kd (14 * k146 + 112) = (2, 20, false) from (kd_P (k := k146) (c := 2) (by omega) (by omega) (by decide)))])
                have e163 : n_162 8 = nI kc8 := by rw [en_162, pk_un (by omega)]; exact e158
                have e164 : n_162 0 = nI k142 := by rw [en_162, pk_un (by omega)]; exact e159
                have e165 : n_162 2 = nI (k146 + 1) := by rw [en_162, pk_un (by omega)]; exact e160
                have e166 : n_162 (14 * k146 + 112) = nI 0 := by rw [en_162, pk_us]
                refine pm_iincX (v := nI 3) (loc' := [some (.ref (B + 54)), some (.int za), some (.int zb), some (.int zc), some (.int zd), some (.int (nI 1)), some (.int (nI k146)), some (.int (nI 3))]) hG dX12_person_137 rfl (nI_1 _) (by decide) (pm_c1b rfl) rfl ?_
                refine pm_goto (tgt := 121) hG dX12_person_140 rfl ?_
                refine pm_iloadi hG dX12_person_121 rfl ?_
                refine pm_bipush (v := nI 14) hG dX12_person_123 (by decide) ?_
                refine pm_icmpN_ge (tgt := 143) hG dX12_person_125 rfl (by omega) (by omega) (fun q => absurd q (by omega)) (fun _ => ?_)
                refine pm_aloadn hG dX12_person_128 rfl ?_
                refine pm_iloadi hG dX12_person_129 rfl ?_
                refine pm_iloadi hG dX12_person_131 rfl ?_
                refine pm_iconst (v := nI 0) hG dX12_person_133 (by decide) ?_
                refine pm_callV (As := [.int (nI k146), .int (nI 3), .int (nI 0)]) (rest := []) hG hR dX12_person_134 (lkX12_97 _ rfl) okV_X12_sets rfl rfl (m_sets (d := 2) (e := 14 * k146 + 113) (by omega) (by omega) (by omega)) rfl rfl hdd (Nat.le_refl _) (Nat.le_refl _) (by decide) (pm_kv (fun σ' cnt' hq => ?_))
                obtain ⟨rfl, rfl⟩ := hq
                obtain ⟨n_167, en_167⟩ : ∃ f : Nat → Int32, f = upd n_162 (14 * k146 + 113) (nI 0) := ⟨_, rfl⟩
                rw [← en_167]
                have hnn_167 := KI.w en_167 hnn_162 (okv_o (show kd (14 * k146 + 113) = (2, 20, false) from (kd_P (k := k146) (c := 3) (by omega) (by omega) (by decide))) (by omega))
                have hrn_167 := NRx.w en_167 hrn_162 (by rw [(show kd (14 * k146 + 113) = (2, 20, false) from (kd_P (k := k146) (c := 3) (by omega) (by omega) (by decide)))])
                have e168 : n_167 8 = nI kc8 := by rw [en_167, pk_un (by omega)]; exact e163
                have e169 : n_167 0 = nI k142 := by rw [en_167, pk_un (by omega)]; exact e164
                have e170 : n_167 2 = nI (k146 + 1) := by rw [en_167, pk_un (by omega)]; exact e165
                have e171 : n_167 (14 * k146 + 113) = nI 0 := by rw [en_167, pk_us]
                refine pm_iincX (v := nI 4) (loc' := [some (.ref (B + 54)), some (.int za), some (.int zb), some (.int zc), some (.int zd), some (.int (nI 1)), some (.int (nI k146)), some (.int (nI 4))]) hG dX12_person_137 rfl (nI_1 _) (by decide) (pm_c1b rfl) rfl ?_
                refine pm_goto (tgt := 121) hG dX12_person_140 rfl ?_
                refine pm_iloadi hG dX12_person_121 rfl ?_
                refine pm_bipush (v := nI 14) hG dX12_person_123 (by decide) ?_
                refine pm_icmpN_ge (tgt := 143) hG dX12_person_125 rfl (by omega) (by omega) (fun q => absurd q (by omega)) (fun _ => ?_)
                refine pm_aloadn hG dX12_person_128 rfl ?_
                refine pm_iloadi hG dX12_person_129 rfl ?_
                refine pm_iloadi hG dX12_person_131 rfl ?_
                refine pm_iconst (v := nI 0) hG dX12_person_133 (by decide) ?_
                refine pm_callV (As := [.int (nI k146), .int (nI 4), .int (nI 0)]) (rest := []) hG hR dX12_person_134 (lkX12_97 _ rfl) okV_X12_sets rfl rfl (m_sets (d := 2) (e := 14 * k146 + 114) (by omega) (by omega) (by omega)) rfl rfl hdd (Nat.le_refl _) (Nat.le_refl _) (by decide) (pm_kv (fun σ' cnt' hq => ?_))
                obtain ⟨rfl, rfl⟩ := hq
                obtain ⟨n_172, en_172⟩ : ∃ f : Nat → Int32, f = upd n_167 (14 * k146 + 114) (nI 0) := ⟨_, rfl⟩
                rw [← en_172]
                have hnn_172 := KI.w en_172 hnn_167 (okv_o (show kd (14 * k146 + 114) = (2, 10, false) from (kd_P (k := k146) (c := 4) (by omega) (by omega) (by decide))) (by omega))
                have hrn_172 := NRx.w en_172 hrn_167 (by rw [(show kd (14 * k146 + 114) = (2, 10, false) from (kd_P (k := k146) (c := 4) (by omega) (by omega) (by decide)))])
                have e173 : n_172 8 = nI kc8 := by rw [en_172, pk_un (by omega)]; exact e168
                have e174 : n_172 0 = nI k142 := by rw [en_172, pk_un (by omega)]; exact e169
                have e175 : n_172 2 = nI (k146 + 1) := by rw [en_172, pk_un (by omega)]; exact e170
                have e176 : n_172 (14 * k146 + 114) = nI 0 := by rw [en_172, pk_us]
                refine pm_iincX (v := nI 5) (loc' := [some (.ref (B + 54)), some (.int za), some (.int zb), some (.int zc), some (.int zd), some (.int (nI 1)), some (.int (nI k146)), some (.int (nI 5))]) hG dX12_person_137 rfl (nI_1 _) (by decide) (pm_c1b rfl) rfl ?_
                refine pm_goto (tgt := 121) hG dX12_person_140 rfl ?_
                refine pm_iloadi hG dX12_person_121 rfl ?_
                refine pm_bipush (v := nI 14) hG dX12_person_123 (by decide) ?_
                refine pm_icmpN_ge (tgt := 143) hG dX12_person_125 rfl (by omega) (by omega) (fun q => absurd q (by omega)) (fun _ => ?_)
                refine pm_aloadn hG dX12_person_128 rfl ?_
                refine pm_iloadi hG dX12_person_129 rfl ?_
                refine pm_iloadi hG dX12_person_131 rfl ?_
                refine pm_iconst (v := nI 0) hG dX12_person_133 (by decide) ?_
                refine pm_callV (As := [.int (nI k146), .int (nI 5), .int (nI 0)]) (rest := []) hG hR dX12_person_134 (lkX12_97 _ rfl) okV_X12_sets rfl rfl (m_sets (d := 2) (e := 14 * k146 + 115) (by omega) (by omega) (by omega)) rfl rfl hdd (Nat.le_refl _) (Nat.le_refl _) (by decide) (pm_kv (fun σ' cnt' hq => ?_))
                obtain ⟨rfl, rfl⟩ := hq
                obtain ⟨n_177, en_177⟩ : ∃ f : Nat → Int32, f = upd n_172 (14 * k146 + 115) (nI 0) := ⟨_, rfl⟩
                rw [← en_177]
                have hnn_177 := KI.w en_177 hnn_172 (okv_n (show kd (14 * k146 + 115) = (1, 10, false) from (kd_P (k := k146) (c := 5) (by omega) (by omega) (by decide))) (by omega))
                have hrn_177 := NRx.w en_177 hrn_172 (by rw [(show kd (14 * k146 + 115) = (1, 10, false) from (kd_P (k := k146) (c := 5) (by omega) (by omega) (by decide)))])
                have e178 : n_177 8 = nI kc8 := by rw [en_177, pk_un (by omega)]; exact e173
                have e179 : n_177 0 = nI k142 := by rw [en_177, pk_un (by omega)]; exact e174
                have e180 : n_177 2 = nI (k146 + 1) := by rw [en_177, pk_un (by omega)]; exact e175
                have e181 : n_177 (14 * k146 + 115) = nI 0 := by rw [en_177, pk_us]
                refine pm_iincX (v := nI 6) (loc' := [some (.ref (B + 54)), some (.int za), some (.int zb), some (.int zc), some (.int zd), some (.int (nI 1)), some (.int (nI k146)), some (.int (nI 6))]) hG dX12_person_137 rfl (nI_1 _) (by decide) (pm_c1b rfl) rfl ?_
                refine pm_goto (tgt := 121) hG dX12_person_140 rfl ?_
                refine pm_iloadi hG dX12_person_121 rfl ?_
                refine pm_bipush (v := nI 14) hG dX12_person_123 (by decide) ?_
                refine pm_icmpN_ge (tgt := 143) hG dX12_person_125 rfl (by omega) (by omega) (fun q => absurd q (by omega)) (fun _ => ?_)
                refine pm_aloadn hG dX12_person_128 rfl ?_
                refine pm_iloadi hG dX12_person_129 rfl ?_
                refine pm_iloadi hG dX12_person_131 rfl ?_
                refine pm_iconst (v := nI 0) hG dX12_person_133 (by decide) ?_
                refine pm_callV (As := [.int (nI k146), .int (nI 6), .int (nI 0)]) (rest := []) hG hR dX12_person_134 (lkX12_97 _ rfl) okV_X12_sets rfl rfl (m_sets (d := 2) (e := 14 * k146 + 116) (by omega) (by omega) (by omega)) rfl rfl hdd (Nat.le_refl _) (Nat.le_refl _) (by decide) (pm_kv (fun σ' cnt' hq => ?_))
                obtain ⟨rfl, rfl⟩ := hq
                obtain ⟨n_182, en_182⟩ : ∃ f : Nat → Int32, f = upd n_177 (14 * k146 + 116) (nI 0) := ⟨_, rfl⟩
                rw [← en_182]
                have hnn_182 := KI.w en_182 hnn_177 (okv_f (show kd (14 * k146 + 116) = (0, 0, false) from (kd_P (k := k146) (c := 6) (by omega) (by omega) (by decide))))
                have hrn_182 := NRx.w en_182 hrn_177 (by rw [(show kd (14 * k146 + 116) = (0, 0, false) from (kd_P (k := k146) (c := 6) (by omega) (by omega) (by decide)))])
                have e183 : n_182 8 = nI kc8 := by rw [en_182, pk_un (by omega)]; exact e178
                have e184 : n_182 0 = nI k142 := by rw [en_182, pk_un (by omega)]; exact e179
                have e185 : n_182 2 = nI (k146 + 1) := by rw [en_182, pk_un (by omega)]; exact e180
                have e186 : n_182 (14 * k146 + 116) = nI 0 := by rw [en_182, pk_us]
                refine pm_iincX (v := nI 7) (loc' := [some (.ref (B + 54)), some (.int za), some (.int zb), some (.int zc), some (.int zd), some (.int (nI 1)), some (.int (nI k146)), some (.int (nI 7))]) hG dX12_person_137 rfl (nI_1 _) (by decide) (pm_c1b rfl) rfl ?_
                refine pm_goto (tgt := 121) hG dX12_person_140 rfl ?_
                refine pm_iloadi hG dX12_person_121 rfl ?_
                refine pm_bipush (v := nI 14) hG dX12_person_123 (by decide) ?_
                refine pm_icmpN_ge (tgt := 143) hG dX12_person_125 rfl (by omega) (by omega) (fun q => absurd q (by omega)) (fun _ => ?_)
                refine pm_aloadn hG dX12_person_128 rfl ?_
                refine pm_iloadi hG dX12_person_129 rfl ?_
                refine pm_iloadi hG dX12_person_131 rfl ?_
                refine pm_iconst (v := nI 0) hG dX12_person_133 (by decide) ?_
                refine pm_callV (As := [.int (nI k146), .int (nI 7), .int (nI 0)]) (rest := []) hG hR dX12_person_134 (lkX12_97 _ rfl) okV_X12_sets rfl rfl (m_sets (d := 2) (e := 14 * k146 + 117) (by omega) (by omega) (by omega)) rfl rfl hdd (Nat.le_refl _) (Nat.le_refl _) (by decide) (pm_kv (fun σ' cnt' hq => ?_))
                obtain ⟨rfl, rfl⟩ := hq
                obtain ⟨n_187, en_187⟩ : ∃ f : Nat → Int32, f = upd n_182 (14 * k146 + 117) (nI 0) := ⟨_, rfl⟩
                rw [← en_187]
                have hnn_187 := KI.w en_187 hnn_182 (okv_f (show kd (14 * k146 + 117) = (0, 0, false) from (kd_P (k := k146) (c := 7) (by omega) (by omega) (by decide))))
                have hrn_187 := NRx.w en_187 hrn_182 (by rw [(show kd (14 * k146 + 117) = (0, 0, false) from (kd_P (k := k146) (c := 7) (by omega) (by omega) (by decide)))])
                have e188 : n_187 8 = nI kc8 := by rw [en_187, pk_un (by omega)]; exact e183
                have e189 : n_187 0 = nI k142 := by rw [en_187, pk_un (by omega)]; exact e184
                have e190 : n_187 2 = nI (k146 + 1) := by rw [en_187, pk_un (by omega)]; exact e185
                have e191 : n_187 (14 * k146 + 117) = nI 0 := by rw [en_187, pk_us]
                refine pm_iincX (v := nI 8) (loc' := [some (.ref (B + 54)), some (.int za), some (.int zb), some (.int zc), some (.int zd), some (.int (nI 1)), some (.int (nI k146)), some (.int (nI 8))]) hG dX12_person_137 rfl (nI_1 _) (by decide) (pm_c1b rfl) rfl ?_
                refine pm_goto (tgt := 121) hG dX12_person_140 rfl ?_
                refine pm_iloadi hG dX12_person_121 rfl ?_
                refine pm_bipush (v := nI 14) hG dX12_person_123 (by decide) ?_
                refine pm_icmpN_ge (tgt := 143) hG dX12_person_125 rfl (by omega) (by omega) (fun q => absurd q (by omega)) (fun _ => ?_)
                refine pm_aloadn hG dX12_person_128 rfl ?_
                refine pm_iloadi hG dX12_person_129 rfl ?_
                refine pm_iloadi hG dX12_person_131 rfl ?_
                refine pm_iconst (v := nI 0) hG dX12_person_133 (by decide) ?_
                refine pm_callV (As := [.int (nI k146), .int (nI 8), .int (nI 0)]) (rest := []) hG hR dX12_person_134 (lkX12_97 _ rfl) okV_X12_sets rfl rfl (m_sets (d := 2) (e := 14 * k146 + 118) (by omega) (by omega) (by omega)) rfl rfl hdd (Nat.le_refl _) (Nat.le_refl _) (by decide) (pm_kv (fun σ' cnt' hq => ?_))
                obtain ⟨rfl, rfl⟩ := hq
                obtain ⟨n_192, en_192⟩ : ∃ f : Nat → Int32, f = upd n_187 (14 * k146 + 118) (nI 0) := ⟨_, rfl⟩
                rw [← en_192]
                have hnn_192 := KI.w en_192 hnn_187 (okv_f (show kd (14 * k146 + 118) = (0, 0, false) from (kd_P (k := k146) (c := 8) (by omega) (by omega) (by decide))))
                have hrn_192 := NRx.w en_192 hrn_187 (by rw [(show kd (14 * k146 + 118) = (0, 0, false) from (kd_P (k := k146) (c := 8) (by omega) (by omega) (by decide)))])
                have e193 : n_192 8 = nI kc8 := by rw [en_192, pk_un (by omega)]; exact e188
                have e194 : n_192 0 = nI k142 := by rw [en_192, pk_un (by omega)]; exact e189
                have e195 : n_192 2 = nI (k146 + 1) := by rw [en_192, pk_un (by omega)]; exact e190
                have e196 : n_192 (14 * k146 + 118) = nI 0 := by rw [en_192, pk_us]
                refine pm_iincX (v := nI 9) (loc' := [some (.ref (B + 54)), some (.int za), some (.int zb), some (.int zc), some (.int zd), some (.int (nI 1)), some (.int (nI k146)), some (.int (nI 9))]) hG dX12_person_137 rfl (nI_1 _) (by decide) (pm_c1b rfl) rfl ?_
                refine pm_goto (tgt := 121) hG dX12_person_140 rfl ?_
                refine pm_iloadi hG dX12_person_121 rfl ?_
                refine pm_bipush (v := nI 14) hG dX12_person_123 (by decide) ?_
                refine pm_icmpN_ge (tgt := 143) hG dX12_person_125 rfl (by omega) (by omega) (fun q => absurd q (by omega)) (fun _ => ?_)
                refine pm_aloadn hG dX12_person_128 rfl ?_
                refine pm_iloadi hG dX12_person_129 rfl ?_
                refine pm_iloadi hG dX12_person_131 rfl ?_
                refine pm_iconst (v := nI 0) hG dX12_person_133 (by decide) ?_
                refine pm_callV (As := [.int (nI k146), .int (nI 9), .int (nI 0)]) (rest := []) hG hR dX12_person_134 (lkX12_97 _ rfl) okV_X12_sets rfl rfl (m_sets (d := 2) (e := 14 * k146 + 119) (by omega) (by omega) (by omega)) rfl rfl hdd (Nat.le_refl _) (Nat.le_refl _) (by decide) (pm_kv (fun σ' cnt' hq => ?_))
                obtain ⟨rfl, rfl⟩ := hq
                obtain ⟨n_197, en_197⟩ : ∃ f : Nat → Int32, f = upd n_192 (14 * k146 + 119) (nI 0) := ⟨_, rfl⟩
                rw [← en_197]
                have hnn_197 := KI.w en_197 hnn_192 (okv_o (show kd (14 * k146 + 119) = (2, 2001, false) from (kd_P (k := k146) (c := 9) (by omega) (by omega) (by decide))) (by omega))
                have hrn_197 := NRx.w en_197 hrn_192 (by rw [(show kd (14 * k146 + 119) = (2, 2001, false) from (kd_P (k := k146) (c := 9) (by omega) (by omega) (by decide)))])
                have e198 : n_197 8 = nI kc8 := by rw [en_197, pk_un (by omega)]; exact e193
                have e199 : n_197 0 = nI k142 := by rw [en_197, pk_un (by omega)]; exact e194
                have e200 : n_197 2 = nI (k146 + 1) := by rw [en_197, pk_un (by omega)]; exact e195
                have e201 : n_197 (14 * k146 + 119) = nI 0 := by rw [en_197, pk_us]
                refine pm_iincX (v := nI 10) (loc' := [some (.ref (B + 54)), some (.int za), some (.int zb), some (.int zc), some (.int zd), some (.int (nI 1)), some (.int (nI k146)), some (.int (nI 10))]) hG dX12_person_137 rfl (nI_1 _) (by decide) (pm_c1b rfl) rfl ?_
                refine pm_goto (tgt := 121) hG dX12_person_140 rfl ?_
                refine pm_iloadi hG dX12_person_121 rfl ?_
                refine pm_bipush (v := nI 14) hG dX12_person_123 (by decide) ?_
                refine pm_icmpN_ge (tgt := 143) hG dX12_person_125 rfl (by omega) (by omega) (fun q => absurd q (by omega)) (fun _ => ?_)
                refine pm_aloadn hG dX12_person_128 rfl ?_
                refine pm_iloadi hG dX12_person_129 rfl ?_
                refine pm_iloadi hG dX12_person_131 rfl ?_
                refine pm_iconst (v := nI 0) hG dX12_person_133 (by decide) ?_
                refine pm_callV (As := [.int (nI k146), .int (nI 10), .int (nI 0)]) (rest := []) hG hR dX12_person_134 (lkX12_97 _ rfl) okV_X12_sets rfl rfl (m_sets (d := 2) (e := 14 * k146 + 120) (by omega) (by omega) (by omega)) rfl rfl hdd (Nat.le_refl _) (Nat.le_refl _) (by decide) (pm_kv (fun σ' cnt' hq => ?_))
                obtain ⟨rfl, rfl⟩ := hq
                obtain ⟨n_202, en_202⟩ : ∃ f : Nat → Int32, f = upd n_197 (14 * k146 + 120) (nI 0) := ⟨_, rfl⟩
                rw [← en_202]
                have hnn_202 := KI.w en_202 hnn_197 (okv_f (show kd (14 * k146 + 120) = (0, 0, false) from (kd_P (k := k146) (c := 10) (by omega) (by omega) (by decide))))
                have hrn_202 := NRx.w en_202 hrn_197 (by rw [(show kd (14 * k146 + 120) = (0, 0, false) from (kd_P (k := k146) (c := 10) (by omega) (by omega) (by decide)))])
                have e203 : n_202 8 = nI kc8 := by rw [en_202, pk_un (by omega)]; exact e198
                have e204 : n_202 0 = nI k142 := by rw [en_202, pk_un (by omega)]; exact e199
                have e205 : n_202 2 = nI (k146 + 1) := by rw [en_202, pk_un (by omega)]; exact e200
                have e206 : n_202 (14 * k146 + 120) = nI 0 := by rw [en_202, pk_us]
                refine pm_iincX (v := nI 11) (loc' := [some (.ref (B + 54)), some (.int za), some (.int zb), some (.int zc), some (.int zd), some (.int (nI 1)), some (.int (nI k146)), some (.int (nI 11))]) hG dX12_person_137 rfl (nI_1 _) (by decide) (pm_c1b rfl) rfl ?_
                refine pm_goto (tgt := 121) hG dX12_person_140 rfl ?_
                refine pm_iloadi hG dX12_person_121 rfl ?_
                refine pm_bipush (v := nI 14) hG dX12_person_123 (by decide) ?_
                refine pm_icmpN_ge (tgt := 143) hG dX12_person_125 rfl (by omega) (by omega) (fun q => absurd q (by omega)) (fun _ => ?_)
                refine pm_aloadn hG dX12_person_128 rfl ?_
                refine pm_iloadi hG dX12_person_129 rfl ?_
                refine pm_iloadi hG dX12_person_131 rfl ?_
                refine pm_iconst (v := nI 0) hG dX12_person_133 (by decide) ?_
                refine pm_callV (As := [.int (nI k146), .int (nI 11), .int (nI 0)]) (rest := []) hG hR dX12_person_134 (lkX12_97 _ rfl) okV_X12_sets rfl rfl (m_sets (d := 2) (e := 14 * k146 + 121) (by omega) (by omega) (by omega)) rfl rfl hdd (Nat.le_refl _) (Nat.le_refl _) (by decide) (pm_kv (fun σ' cnt' hq => ?_))
                obtain ⟨rfl, rfl⟩ := hq
                obtain ⟨n_207, en_207⟩ : ∃ f : Nat → Int32, f = upd n_202 (14 * k146 + 121) (nI 0) := ⟨_, rfl⟩
                rw [← en_207]
                have hnn_207 := KI.w en_207 hnn_202 (okv_n (show kd (14 * k146 + 121) = (1, 2, true) from (kd_P (k := k146) (c := 11) (by omega) (by omega) (by decide))) (by omega))
                have hrn_207 := NRx.unseat (p := k146) en_207 hrn_202 (by omega)
                have e208 : n_207 8 = nI kc8 := by rw [en_207, pk_un (by omega)]; exact e203
                have e209 : n_207 0 = nI k142 := by rw [en_207, pk_un (by omega)]; exact e204
                have e210 : n_207 2 = nI (k146 + 1) := by rw [en_207, pk_un (by omega)]; exact e205
                have e211 : n_207 (14 * k146 + 121) = nI 0 := by rw [en_207, pk_us]
                refine pm_iincX (v := nI 12) (loc' := [some (.ref (B + 54)), some (.int za), some (.int zb), some (.int zc), some (.int zd), some (.int (nI 1)), some (.int (nI k146)), some (.int (nI 12))]) hG dX12_person_137 rfl (nI_1 _) (by decide) (pm_c1b rfl) rfl ?_
                refine pm_goto (tgt := 121) hG dX12_person_140 rfl ?_
                refine pm_iloadi hG dX12_person_121 rfl ?_
                refine pm_bipush (v := nI 14) hG dX12_person_123 (by decide) ?_
                refine pm_icmpN_ge (tgt := 143) hG dX12_person_125 rfl (by omega) (by omega) (fun q => absurd q (by omega)) (fun _ => ?_)
                refine pm_aloadn hG dX12_person_128 rfl ?_
                refine pm_iloadi hG dX12_person_129 rfl ?_
                refine pm_iloadi hG dX12_person_131 rfl ?_
                refine pm_iconst (v := nI 0) hG dX12_person_133 (by decide) ?_
                refine pm_callV (As := [.int (nI k146), .int (nI 12), .int (nI 0)]) (rest := []) hG hR dX12_person_134 (lkX12_97 _ rfl) okV_X12_sets rfl rfl (m_sets (d := 2) (e := 14 * k146 + 122) (by omega) (by omega) (by omega)) rfl rfl hdd (Nat.le_refl _) (Nat.le_refl _) (by decide) (pm_kv (fun σ' cnt' hq => ?_))
                obtain ⟨rfl, rfl⟩ := hq
                obtain ⟨n_212, en_212⟩ : ∃ f : Nat → Int32, f = upd n_207 (14 * k146 + 122) (nI 0) := ⟨_, rfl⟩
                rw [← en_212]
                have hnn_212 := KI.w en_212 hnn_207 (okv_f (show kd (14 * k146 + 122) = (0, 0, false) from (kd_P (k := k146) (c := 12) (by omega) (by omega) (by decide))))
                have hrn_212 := NRx.w en_212 hrn_207 (by rw [(show kd (14 * k146 + 122) = (0, 0, false) from (kd_P (k := k146) (c := 12) (by omega) (by omega) (by decide)))])
                have e213 : n_212 8 = nI kc8 := by rw [en_212, pk_un (by omega)]; exact e208
                have e214 : n_212 0 = nI k142 := by rw [en_212, pk_un (by omega)]; exact e209
                have e215 : n_212 2 = nI (k146 + 1) := by rw [en_212, pk_un (by omega)]; exact e210
                have e216 : n_212 (14 * k146 + 122) = nI 0 := by rw [en_212, pk_us]
                refine pm_iincX (v := nI 13) (loc' := [some (.ref (B + 54)), some (.int za), some (.int zb), some (.int zc), some (.int zd), some (.int (nI 1)), some (.int (nI k146)), some (.int (nI 13))]) hG dX12_person_137 rfl (nI_1 _) (by decide) (pm_c1b rfl) rfl ?_
                refine pm_goto (tgt := 121) hG dX12_person_140 rfl ?_
                refine pm_iloadi hG dX12_person_121 rfl ?_
                refine pm_bipush (v := nI 14) hG dX12_person_123 (by decide) ?_
                refine pm_icmpN_ge (tgt := 143) hG dX12_person_125 rfl (by omega) (by omega) (fun q => absurd q (by omega)) (fun _ => ?_)
                refine pm_aloadn hG dX12_person_128 rfl ?_
                refine pm_iloadi hG dX12_person_129 rfl ?_
                refine pm_iloadi hG dX12_person_131 rfl ?_
                refine pm_iconst (v := nI 0) hG dX12_person_133 (by decide) ?_
                refine pm_callV (As := [.int (nI k146), .int (nI 13), .int (nI 0)]) (rest := []) hG hR dX12_person_134 (lkX12_97 _ rfl) okV_X12_sets rfl rfl (m_sets (d := 2) (e := 14 * k146 + 123) (by omega) (by omega) (by omega)) rfl rfl hdd (Nat.le_refl _) (Nat.le_refl _) (by decide) (pm_kv (fun σ' cnt' hq => ?_))
                obtain ⟨rfl, rfl⟩ := hq
                obtain ⟨n_217, en_217⟩ : ∃ f : Nat → Int32, f = upd n_212 (14 * k146 + 123) (nI 0) := ⟨_, rfl⟩
                rw [← en_217]
                have hnn_217 := KI.w en_217 hnn_212 (okv_f (show kd (14 * k146 + 123) = (0, 0, false) from (kd_P (k := k146) (c := 13) (by omega) (by omega) (by decide))))
                have hrn_217 := NRx.w en_217 hrn_212 (by rw [(show kd (14 * k146 + 123) = (0, 0, false) from (kd_P (k := k146) (c := 13) (by omega) (by omega) (by decide)))])
                have e218 : n_217 8 = nI kc8 := by rw [en_217, pk_un (by omega)]; exact e213
                have e219 : n_217 0 = nI k142 := by rw [en_217, pk_un (by omega)]; exact e214
                have e220 : n_217 2 = nI (k146 + 1) := by rw [en_217, pk_un (by omega)]; exact e215
                have e221 : n_217 (14 * k146 + 123) = nI 0 := by rw [en_217, pk_us]
                refine pm_iincX (v := nI 14) (loc' := [some (.ref (B + 54)), some (.int za), some (.int zb), some (.int zc), some (.int zd), some (.int (nI 1)), some (.int (nI k146)), some (.int (nI 14))]) hG dX12_person_137 rfl (nI_1 _) (by decide) (pm_c1b rfl) rfl ?_
                refine pm_goto (tgt := 121) hG dX12_person_140 rfl ?_
                refine pm_iloadi hG dX12_person_121 rfl ?_
                refine pm_bipush (v := nI 14) hG dX12_person_123 (by decide) ?_
                refine pm_icmpN_ge (tgt := 143) hG dX12_person_125 rfl (by omega) (by omega) (fun _ => ?_) (fun q => absurd q (by omega))
                refine pm_aloadn hG dX12_person_143 rfl ?_
                refine pm_iloadi hG dX12_person_144 rfl ?_
                refine pm_iconst (v := nI 0) hG dX12_person_146 (by decide) ?_
                refine pm_iloadn hG dX12_person_147 rfl ?_
                refine pm_top (v := nI k3) ek3 ?_
                refine pm_callV (As := [.int (nI k146), .int (nI 0), .int (nI k3)]) (rest := []) hG hR dX12_person_148 (lkX12_97 _ rfl) okV_X12_sets rfl rfl (m_sets (d := 2) (e := 14 * k146 + 110) (by omega) (by omega) (by omega)) rfl rfl hdd (Nat.le_refl _) (Nat.le_refl _) (by decide) (pm_kv (fun σ' cnt' hq => ?_))
                obtain ⟨rfl, rfl⟩ := hq
                obtain ⟨n_222, en_222⟩ : ∃ f : Nat → Int32, f = upd n_217 (14 * k146 + 110) (nI k3) := ⟨_, rfl⟩
                rw [← en_222]
                have hnn_222 := KI.w en_222 hnn_217 (okv_f (show kd (14 * k146 + 110) = (0, 0, false) from (kd_P (k := k146) (c := 0) (by omega) (by omega) (by decide))))
                have hrn_222 := NRx.w en_222 hrn_217 (by rw [(show kd (14 * k146 + 110) = (0, 0, false) from (kd_P (k := k146) (c := 0) (by omega) (by omega) (by decide)))])
                have e223 : n_222 8 = nI kc8 := by rw [en_222, pk_un (by omega)]; exact e218
                have e224 : n_222 0 = nI k142 := by rw [en_222, pk_un (by omega)]; exact e219
                have e225 : n_222 2 = nI (k146 + 1) := by rw [en_222, pk_un (by omega)]; exact e220
                have e226 : n_222 (14 * k146 + 110) = nI k3 := by rw [en_222, pk_us]
                refine pm_aloadn hG dX12_person_151 rfl ?_
                refine pm_iloadi hG dX12_person_152 rfl ?_
                refine pm_iconst (v := nI 1) hG dX12_person_154 (by decide) ?_
                refine pm_iloadn hG dX12_person_155 rfl ?_
                refine pm_callV (As := [.int (nI k146), .int (nI 1), .int zb]) (rest := []) hG hR dX12_person_156 (lkX12_97 _ rfl) okV_X12_sets rfl rfl (m_sets (d := 2) (e := 14 * k146 + 111) (by omega) (by omega) (by omega)) rfl rfl hdd (Nat.le_refl _) (Nat.le_refl _) (by decide) (pm_kv (fun σ' cnt' hq => ?_))
                obtain ⟨rfl, rfl⟩ := hq
                obtain ⟨n_227, en_227⟩ : ∃ f : Nat → Int32, f = upd n_222 (14 * k146 + 111) zb := ⟨_, rfl⟩
                rw [← en_227]
                have hnn_227 := KI.w en_227 hnn_222 (okv_f (show kd (14 * k146 + 111) = (0, 0, false) from (kd_P (k := k146) (c := 1) (by omega) (by omega) (by decide))))
                have hrn_227 := NRx.w en_227 hrn_222 (by rw [(show kd (14 * k146 + 111) = (0, 0, false) from (kd_P (k := k146) (c := 1) (by omega) (by omega) (by decide)))])
                have e228 : n_227 8 = nI kc8 := by rw [en_227, pk_un (by omega)]; exact e223
                have e229 : n_227 0 = nI k142 := by rw [en_227, pk_un (by omega)]; exact e224
                have e230 : n_227 2 = nI (k146 + 1) := by rw [en_227, pk_un (by omega)]; exact e225
                have e231 : n_227 (14 * k146 + 111) = zb := by rw [en_227, pk_us]
                refine pm_aloadn hG dX12_person_159 rfl ?_
                refine pm_iloadi hG dX12_person_160 rfl ?_
                refine pm_iconst (v := nI 2) hG dX12_person_162 (by decide) ?_
                refine pm_iloadn hG dX12_person_163 rfl ?_
                refine pm_top (v := nI k9) ek9 ?_
                refine pm_bipush (v := nI 100) hG dX12_person_164 (by decide) ?_
                refine pm_idivN hG dX12_person_166 (by omega) (by decide) (by decide) ?_
                refine pm_iconst (v := nI 1) hG dX12_person_167 (by decide) ?_
                refine pm_isub hG dX12_person_168 ?_
                refine pm_top (v := (-1)) ek11 ?_
                refine pm_callV (As := [.int (nI k146), .int (nI 2), .int (-1)]) (rest := []) hG hR dX12_person_169 (lkX12_97 _ rfl) okV_X12_sets rfl rfl (m_sets (d := 2) (e := 14 * k146 + 112) (by omega) (by omega) (by omega)) rfl rfl hdd (Nat.le_refl _) (Nat.le_refl _) (by decide) (pm_kv (fun σ' cnt' hq => ?_))
                obtain ⟨rfl, rfl⟩ := hq
                obtain ⟨n_232, en_232⟩ : ∃ f : Nat → Int32, f = upd n_227 (14 * k146 + 112) (-1) := ⟨_, rfl⟩
                rw [← en_232]
                have hnn_232 := KI.w en_232 hnn_227 (okv_m (show kd (14 * k146 + 112) = (2, 20, false) from (kd_P (k := k146) (c := 2) (by omega) (by omega) (by decide))))
                have hrn_232 := NRx.w en_232 hrn_227 (by rw [(show kd (14 * k146 + 112) = (2, 20, false) from (kd_P (k := k146) (c := 2) (by omega) (by omega) (by decide)))])
                have e233 : n_232 8 = nI kc8 := by rw [en_232, pk_un (by omega)]; exact e228
                have e234 : n_232 0 = nI k142 := by rw [en_232, pk_un (by omega)]; exact e229
                have e235 : n_232 2 = nI (k146 + 1) := by rw [en_232, pk_un (by omega)]; exact e230
                have e236 : n_232 (14 * k146 + 112) = (-1) := by rw [en_232, pk_us]
                refine pm_aloadn hG dX12_person_172 rfl ?_
                refine pm_iloadi hG dX12_person_173 rfl ?_
                refine pm_iconst (v := nI 3) hG dX12_person_175 (by decide) ?_
                refine pm_iloadn hG dX12_person_176 rfl ?_
                refine pm_top (v := nI k9) ek9 ?_
                refine pm_bipush (v := nI 100) hG dX12_person_177 (by decide) ?_
                refine pm_iremM hG dX12_person_179 (by omega) (by decide) (by decide) ?_
                refine pm_iconst (v := nI 1) hG dX12_person_180 (by decide) ?_
                refine pm_isub hG dX12_person_181 ?_
                refine pm_top (v := nI k15) ek15 ?_
                refine pm_callV (As := [.int (nI k146), .int (nI 3), .int (nI k15)]) (rest := []) hG hR dX12_person_182 (lkX12_97 _ rfl) okV_X12_sets rfl rfl (m_sets (d := 2) (e := 14 * k146 + 113) (by omega) (by omega) (by omega)) rfl rfl hdd (Nat.le_refl _) (Nat.le_refl _) (by decide) (pm_kv (fun σ' cnt' hq => ?_))
                obtain ⟨rfl, rfl⟩ := hq
                obtain ⟨n_237, en_237⟩ : ∃ f : Nat → Int32, f = upd n_232 (14 * k146 + 113) (nI k15) := ⟨_, rfl⟩
                rw [← en_237]
                have hnn_237 := KI.w en_237 hnn_232 (okv_o (show kd (14 * k146 + 113) = (2, 20, false) from (kd_P (k := k146) (c := 3) (by omega) (by omega) (by decide))) (by omega))
                have hrn_237 := NRx.w en_237 hrn_232 (by rw [(show kd (14 * k146 + 113) = (2, 20, false) from (kd_P (k := k146) (c := 3) (by omega) (by omega) (by decide)))])
                have e238 : n_237 8 = nI kc8 := by rw [en_237, pk_un (by omega)]; exact e233
                have e239 : n_237 0 = nI k142 := by rw [en_237, pk_un (by omega)]; exact e234
                have e240 : n_237 2 = nI (k146 + 1) := by rw [en_237, pk_un (by omega)]; exact e235
                have e241 : n_237 (14 * k146 + 113) = nI k15 := by rw [en_237, pk_us]
                refine pm_aloadn hG dX12_person_185 rfl ?_
                refine pm_iloadi hG dX12_person_186 rfl ?_
                refine pm_iconst (v := nI 4) hG dX12_person_188 (by decide) ?_
                refine pm_iloadi hG dX12_person_189 rfl ?_
                refine pm_top (v := nI k145) ek145 ?_
                refine pm_callV (As := [.int (nI k146), .int (nI 4), .int (nI k145)]) (rest := []) hG hR dX12_person_191 (lkX12_97 _ rfl) okV_X12_sets rfl rfl (m_sets (d := 2) (e := 14 * k146 + 114) (by omega) (by omega) (by omega)) rfl rfl hdd (Nat.le_refl _) (Nat.le_refl _) (by decide) (pm_kv (fun σ' cnt' hq => ?_))
                obtain ⟨rfl, rfl⟩ := hq
                obtain ⟨n_242, en_242⟩ : ∃ f : Nat → Int32, f = upd n_237 (14 * k146 + 114) (nI k145) := ⟨_, rfl⟩
                rw [← en_242]
                have hnn_242 := KI.w en_242 hnn_237 (okv_o (show kd (14 * k146 + 114) = (2, 10, false) from (kd_P (k := k146) (c := 4) (by omega) (by omega) (by decide))) (by omega))
                have hrn_242 := NRx.w en_242 hrn_237 (by rw [(show kd (14 * k146 + 114) = (2, 10, false) from (kd_P (k := k146) (c := 4) (by omega) (by omega) (by decide)))])
                have e243 : n_242 8 = nI kc8 := by rw [en_242, pk_un (by omega)]; exact e238
                have e244 : n_242 0 = nI k142 := by rw [en_242, pk_un (by omega)]; exact e239
                have e245 : n_242 2 = nI (k146 + 1) := by rw [en_242, pk_un (by omega)]; exact e240
                have e246 : n_242 (14 * k146 + 114) = nI k145 := by rw [en_242, pk_us]
                refine pm_aloadn hG dX12_person_194 rfl ?_
                refine pm_iloadi hG dX12_person_195 rfl ?_
                refine pm_bipush (v := nI 9) hG dX12_person_197 (by decide) ?_
                refine pm_iconst (v := (-1)) hG dX12_person_199 (by decide) ?_
                refine pm_callV (As := [.int (nI k146), .int (nI 9), .int (-1)]) (rest := []) hG hR dX12_person_200 (lkX12_97 _ rfl) okV_X12_sets rfl rfl (m_sets (d := 2) (e := 14 * k146 + 119) (by omega) (by omega) (by omega)) rfl rfl hdd (Nat.le_refl _) (Nat.le_refl _) (by decide) (pm_kv (fun σ' cnt' hq => ?_))
                obtain ⟨rfl, rfl⟩ := hq
                obtain ⟨n_247, en_247⟩ : ∃ f : Nat → Int32, f = upd n_242 (14 * k146 + 119) (-1) := ⟨_, rfl⟩
                rw [← en_247]
                have hnn_247 := KI.w en_247 hnn_242 (okv_m (show kd (14 * k146 + 119) = (2, 2001, false) from (kd_P (k := k146) (c := 9) (by omega) (by omega) (by decide))))
                have hrn_247 := NRx.w en_247 hrn_242 (by rw [(show kd (14 * k146 + 119) = (2, 2001, false) from (kd_P (k := k146) (c := 9) (by omega) (by omega) (by decide)))])
                have e248 : n_247 8 = nI kc8 := by rw [en_247, pk_un (by omega)]; exact e243
                have e249 : n_247 0 = nI k142 := by rw [en_247, pk_un (by omega)]; exact e244
                have e250 : n_247 2 = nI (k146 + 1) := by rw [en_247, pk_un (by omega)]; exact e245
                have e251 : n_247 (14 * k146 + 119) = (-1) := by rw [en_247, pk_us]
                refine pm_aloadn hG dX12_person_203 rfl ?_
                refine pm_iloadi hG dX12_person_204 rfl ?_
                refine pm_bipush (v := nI 10) hG dX12_person_206 (by decide) ?_
                refine pm_iconst (v := (-1)) hG dX12_person_208 (by decide) ?_
                refine pm_callV (As := [.int (nI k146), .int (nI 10), .int (-1)]) (rest := []) hG hR dX12_person_209 (lkX12_97 _ rfl) okV_X12_sets rfl rfl (m_sets (d := 2) (e := 14 * k146 + 120) (by omega) (by omega) (by omega)) rfl rfl hdd (Nat.le_refl _) (Nat.le_refl _) (by decide) (pm_kv (fun σ' cnt' hq => ?_))
                obtain ⟨rfl, rfl⟩ := hq
                obtain ⟨n_252, en_252⟩ : ∃ f : Nat → Int32, f = upd n_247 (14 * k146 + 120) (-1) := ⟨_, rfl⟩
                rw [← en_252]
                have hnn_252 := KI.w en_252 hnn_247 (okv_f (show kd (14 * k146 + 120) = (0, 0, false) from (kd_P (k := k146) (c := 10) (by omega) (by omega) (by decide))))
                have hrn_252 := NRx.w en_252 hrn_247 (by rw [(show kd (14 * k146 + 120) = (0, 0, false) from (kd_P (k := k146) (c := 10) (by omega) (by omega) (by decide)))])
                have e253 : n_252 8 = nI kc8 := by rw [en_252, pk_un (by omega)]; exact e248
                have e254 : n_252 0 = nI k142 := by rw [en_252, pk_un (by omega)]; exact e249
                have e255 : n_252 2 = nI (k146 + 1) := by rw [en_252, pk_un (by omega)]; exact e250
                have e256 : n_252 (14 * k146 + 120) = (-1) := by rw [en_252, pk_us]
                refine pm_aloadn hG dX12_person_212 rfl ?_
                refine pm_iloadi hG dX12_person_213 rfl ?_
                refine pm_bipush (v := nI 12) hG dX12_person_215 (by decide) ?_
                refine pm_iconst (v := nI 1) hG dX12_person_217 (by decide) ?_
                refine pm_callV (As := [.int (nI k146), .int (nI 12), .int (nI 1)]) (rest := []) hG hR dX12_person_218 (lkX12_97 _ rfl) okV_X12_sets rfl rfl (m_sets (d := 2) (e := 14 * k146 + 122) (by omega) (by omega) (by omega)) rfl rfl hdd (Nat.le_refl _) (Nat.le_refl _) (by decide) (pm_kv (fun σ' cnt' hq => ?_))
                obtain ⟨rfl, rfl⟩ := hq
                obtain ⟨n_257, en_257⟩ : ∃ f : Nat → Int32, f = upd n_252 (14 * k146 + 122) (nI 1) := ⟨_, rfl⟩
                rw [← en_257]
                have hnn_257 := KI.w en_257 hnn_252 (okv_f (show kd (14 * k146 + 122) = (0, 0, false) from (kd_P (k := k146) (c := 12) (by omega) (by omega) (by decide))))
                have hrn_257 := NRx.w en_257 hrn_252 (by rw [(show kd (14 * k146 + 122) = (0, 0, false) from (kd_P (k := k146) (c := 12) (by omega) (by omega) (by decide)))])
                have e258 : n_257 8 = nI kc8 := by rw [en_257, pk_un (by omega)]; exact e253
                have e259 : n_257 0 = nI k142 := by rw [en_257, pk_un (by omega)]; exact e254
                have e260 : n_257 2 = nI (k146 + 1) := by rw [en_257, pk_un (by omega)]; exact e255
                have e261 : n_257 (14 * k146 + 122) = nI 1 := by rw [en_257, pk_us]
                refine pm_iloadi hG dX12_person_221 rfl ?_
                exact pm_iret hG hF dX12_person_223 rfl (Nat.le_refl _) (Nat.le_refl _) ⟨_, rfl, ⟨_, _, _, rfl, hnn_257, hrn_257, e258.trans ekc8.symm⟩, rfl⟩
              · refine pm_aloadn hG dX12_person_102 rfl ?_
                refine pm_iconst (v := nI 4) hG dX12_person_103 (by decide) ?_
                refine pm_callV (As := [.int (nI 4)]) (rest := []) hG hR dX12_person_104 (lkX12_80 _ rfl) okV_X12_finds rfl rfl (m_finds (d := 2) (by decide) hn hz (by omega)) rfl rfl hdd (Nat.le_refl _) (Nat.le_refl _) (by decide) (pm_ki (fun v262 σ' cnt' hq => ?_))
                obtain ⟨⟨I263, A263, rfl⟩, rfl, fv262⟩ := hq
                exact pm_iret hG hF dX12_person_107 rfl (Nat.le_refl _) (Nat.le_refl _) ⟨_, rfl, ⟨_, _, _, rfl, hn, hr, ekc8.trans ekc8.symm⟩, rfl⟩
            · refine pm_ifN_eq (tgt := 73) hG dX12_person_66 rfl (by omega) (fun _ => ?_) (fun q => absurd q (by omega))
              refine pm_iconst (v := nI 0) hG dX12_person_73 (by decide) ?_
              refine pm_istoreXi (loc' := [some (.ref (B + 54)), some (.int za), some (.int zb), some (.int zc), some (.int zd), some (.int (nI 0)), none, none]) hG dX12_person_74 (by decide) (pm_c1b rfl) rfl ?_
              refine pm_iloadi hG dX12_person_76 rfl ?_
              refine pm_ifN_ne (tgt := 87) hG dX12_person_78 rfl (by omega) (fun q => absurd q (by omega)) (fun _ => ?_)
              refine pm_aloadn hG dX12_person_81 rfl ?_
              refine pm_iconst (v := nI 1) hG dX12_person_82 (by decide) ?_
              refine pm_callV (As := [.int (nI 1)]) (rest := []) hG hR dX12_person_83 (lkX12_80 _ rfl) okV_X12_finds rfl rfl (m_finds (d := 2) (by decide) hn hz (by omega)) rfl rfl hdd (Nat.le_refl _) (Nat.le_refl _) (by decide) (pm_ki (fun v264 σ' cnt' hq => ?_))
              obtain ⟨⟨I265, A265, rfl⟩, rfl, fv264⟩ := hq
              exact pm_iret hG hF dX12_person_86 rfl (Nat.le_refl _) (Nat.le_refl _) ⟨_, rfl, ⟨_, _, _, rfl, hn, hr, ekc8.trans ekc8.symm⟩, rfl⟩
        · refine pm_ifN_eq (tgt := 73) hG dX12_person_42 rfl (by omega) (fun q => absurd q (by omega)) (fun _ => ?_)
          refine pm_aloadn hG dX12_person_45 rfl ?_
          refine pm_iloadn hG dX12_person_46 rfl ?_
          refine pm_top (v := nI k9) ek9 ?_
          refine pm_bipush (v := nI 100) hG dX12_person_47 (by decide) ?_
          refine pm_iremM hG dX12_person_49 (by omega) (by decide) (by decide) ?_
          refine pm_iconst (v := nI 1) hG dX12_person_50 (by decide) ?_
          refine pm_isub hG dX12_person_51 ?_
          refine pm_iconst (v := nI 0) hG dX12_person_52 (by decide) ?_
          refine pm_iloadn hG dX12_person_53 rfl ?_
          refine pm_callV (As := [.int ((nI ((k9 % 100))) - (nI 1)), .int (nI 0), .int zb]) (rest := []) hG hR dX12_person_54 (lkX12_94 _ rfl) okV_X12_isParent rfl rfl (m_isParent (d := 2) (by decide) hn hz) rfl rfl hdd (Nat.le_refl _) (Nat.le_refl _) (by decide) (pm_ki (fun v266 σ' cnt' hq => ?_))
          obtain ⟨rfl, rfl, hq⟩ := hq
          rcases hq with rfl | ⟨rfl, ek267 | ⟨k267, hk267, ek267⟩⟩
          · refine pm_ifN_eq (tgt := 73) hG dX12_person_57 rfl (by omega) (fun _ => ?_) (fun q => absurd q (by omega))
            refine pm_iconst (v := nI 0) hG dX12_person_73 (by decide) ?_
            refine pm_istoreXi (loc' := [some (.ref (B + 54)), some (.int za), some (.int zb), some (.int zc), some (.int zd), some (.int (nI 0)), none, none]) hG dX12_person_74 (by decide) (pm_c1b rfl) rfl ?_
            refine pm_iloadi hG dX12_person_76 rfl ?_
            refine pm_ifN_ne (tgt := 87) hG dX12_person_78 rfl (by omega) (fun q => absurd q (by omega)) (fun _ => ?_)
            refine pm_aloadn hG dX12_person_81 rfl ?_
            refine pm_iconst (v := nI 1) hG dX12_person_82 (by decide) ?_
            refine pm_callV (As := [.int (nI 1)]) (rest := []) hG hR dX12_person_83 (lkX12_80 _ rfl) okV_X12_finds rfl rfl (m_finds (d := 2) (by decide) hn hz (by omega)) rfl rfl hdd (Nat.le_refl _) (Nat.le_refl _) (by decide) (pm_ki (fun v268 σ' cnt' hq => ?_))
            obtain ⟨⟨I269, A269, rfl⟩, rfl, fv268⟩ := hq
            exact pm_iret hG hF dX12_person_86 rfl (Nat.le_refl _) (Nat.le_refl _) ⟨_, rfl, ⟨_, _, _, rfl, hn, hr, ekc8.trans ekc8.symm⟩, rfl⟩
          · refine pm_ifN_eq (tgt := 73) hG dX12_person_57 rfl (by omega) (fun q => absurd q (by omega)) (fun _ => ?_)
            refine pm_aloadn hG dX12_person_60 rfl ?_
            refine pm_iloadi hG dX12_person_61 rfl ?_
            obtain ⟨k270, hk270, ek270⟩ := KI.nat hn (show kd 0 = (1, 11, true) by decide)
            refine pm_callV (As := [.int zd]) (rest := []) hG hR dX12_person_63 (lkX12_84 _ rfl) okV_X12_isTown rfl rfl (m_isTown (d := 2) (by decide) ek270 (by omega)) rfl rfl hdd (Nat.le_refl _) (Nat.le_refl _) (by decide) (pm_ki (fun v271 σ' cnt' hq => ?_))
            obtain ⟨hq, rfl, rfl⟩ := hq
            rcases hq with ⟨rfl, k273, hk273, ek273⟩ | rfl
            · refine pm_ifN_eq (tgt := 73) hG dX12_person_66 rfl (by omega) (fun q => absurd q (by omega)) (fun _ => ?_)
              refine pm_iconst (v := nI 1) hG dX12_person_69 (by decide) ?_
              refine pm_goto (tgt := 74) hG dX12_person_70 rfl ?_
              refine pm_istoreXi (loc' := [some (.ref (B + 54)), some (.int za), some (.int zb), some (.int zc), some (.int zd), some (.int (nI 1)), none, none]) hG dX12_person_74 (by decide) (pm_c1b rfl) rfl ?_
              refine pm_iloadi hG dX12_person_76 rfl ?_
              refine pm_ifN_ne (tgt := 87) hG dX12_person_78 rfl (by omega) (fun _ => ?_) (fun q => absurd q (by omega))
              refine pm_aloadn hG dX12_person_87 rfl ?_
              refine pm_getf hG dX12_person_88 (flX12_7 _ rfl) rfl rfl ?_
              refine pm_iconst (v := nI 2) hG dX12_person_91 (by decide) ?_
              refine pm_ialdN hG dX12_person_92 rfl (by decide) (by omega) ?_
              obtain ⟨k274, hk274, ek274⟩ := KI.nat hn (show kd 2 = (1, 21, true) by decide)
              refine pm_top (v := nI k274) ek274 ?_
              refine pm_istoreXi (loc' := [some (.ref (B + 54)), some (.int za), some (.int zb), some (.int zc), some (.int zd), some (.int (nI 1)), some (.int (nI k274)), none]) hG dX12_person_93 (by decide) (pm_c1b rfl) rfl ?_
              refine pm_iloadi hG dX12_person_95 rfl ?_
              refine pm_bipush (v := nI 20) hG dX12_person_97 (by decide) ?_
              refine pm_icmpN_ne (tgt := 108) hG dX12_person_99 rfl (by omega) (by omega) (fun c275 => ?_) (fun c275 => ?_)
              · refine pm_aloadn hG dX12_person_108 rfl ?_
                refine pm_getf hG dX12_person_109 (flX12_7 _ rfl) rfl rfl ?_
                refine pm_iconst (v := nI 2) hG dX12_person_112 (by decide) ?_
                refine pm_dup2 hG dX12_person_113 rfl rfl ?_
                refine pm_ialdN hG dX12_person_114 rfl (by decide) (by omega) ?_
                refine pm_top (v := nI k274) ek274 ?_
                refine pm_iconst (v := nI 1) hG dX12_person_115 (by decide) ?_
                refine pm_iaddN (c := k274 + 1) hG dX12_person_116 (by omega) ?_
                refine pm_iastN hG dX12_person_117 rfl (by decide) (by omega) ?_
                refine mdn_now (fun n_276 en_276 => ?_)
                have hnn_276 := KI.w en_276 hn (okv_n (show kd 2 = (1, 21, true) by decide) (by omega))
                have hrn_276 := NRx.pers en_276 hr ek270 (by omega) ek274 (by omega)
                have e277 : n_276 8 = nI kc8 := by rw [en_276, pk_un (by omega)]; exact ekc8
                have e278 : n_276 0 = nI k270 := by rw [en_276, pk_un (by omega)]; exact ek270
                have e279 : n_276 2 = nI (k274 + 1) := by rw [en_276, pk_us]
                refine pm_iconst (v := nI 0) hG dX12_person_118 (by decide) ?_
                refine pm_istoreXi (loc' := [some (.ref (B + 54)), some (.int za), some (.int zb), some (.int zc), some (.int zd), some (.int (nI 1)), some (.int (nI k274)), some (.int (nI 0))]) hG dX12_person_119 (by decide) (pm_c1b rfl) rfl ?_
                refine pm_iloadi hG dX12_person_121 rfl ?_
                refine pm_bipush (v := nI 14) hG dX12_person_123 (by decide) ?_
                refine pm_icmpN_ge (tgt := 143) hG dX12_person_125 rfl (by omega) (by omega) (fun q => absurd q (by omega)) (fun _ => ?_)
                refine pm_aloadn hG dX12_person_128 rfl ?_
                refine pm_iloadi hG dX12_person_129 rfl ?_
                refine pm_iloadi hG dX12_person_131 rfl ?_
                refine pm_iconst (v := nI 0) hG dX12_person_133 (by decide) ?_
                refine pm_callV (As := [.int (nI k274), .int (nI 0), .int (nI 0)]) (rest := []) hG hR dX12_person_134 (lkX12_97 _ rfl) okV_X12_sets rfl rfl (m_sets (d := 2) (e := 14 * k274 + 110) (by omega) (by omega) (by omega)) rfl rfl hdd (Nat.le_refl _) (Nat.le_refl _) (by decide) (pm_kv (fun σ' cnt' hq => ?_))
                obtain ⟨rfl, rfl⟩ := hq
                obtain ⟨n_280, en_280⟩ : ∃ f : Nat → Int32, f = upd n_276 (14 * k274 + 110) (nI 0) := ⟨_, rfl⟩
                rw [← en_280]
                have hnn_280 := KI.w en_280 hnn_276 (okv_f (show kd (14 * k274 + 110) = (0, 0, false) from (kd_P (k := k274) (c := 0) (by omega) (by omega) (by decide))))
                have hrn_280 := NRx.w en_280 hrn_276 (by rw [(show kd (14 * k274 + 110) = (0, 0, false) from (kd_P (k := k274) (c := 0) (by omega) (by omega) (by decide)))])
                have e281 : n_280 8 = nI kc8 := by rw [en_280, pk_un (by omega)]; exact e277
                have e282 : n_280 0 = nI k270 := by rw [en_280, pk_un (by omega)]; exact e278
                have e283 : n_280 2 = nI (k274 + 1) := by rw [en_280, pk_un (by omega)]; exact e279
                have e284 : n_280 (14 * k274 + 110) = nI 0 := by rw [en_280, pk_us]
                refine pm_iincX (v := nI 1) (loc' := [some (.ref (B + 54)), some (.int za), some (.int zb), some (.int zc), some (.int zd), some (.int (nI 1)), some (.int (nI k274)), some (.int (nI 1))]) hG dX12_person_137 rfl (nI_1 _) (by decide) (pm_c1b rfl) rfl ?_
                refine pm_goto (tgt := 121) hG dX12_person_140 rfl ?_
                refine pm_iloadi hG dX12_person_121 rfl ?_
                refine pm_bipush (v := nI 14) hG dX12_person_123 (by decide) ?_
                refine pm_icmpN_ge (tgt := 143) hG dX12_person_125 rfl (by omega) (by omega) (fun q => absurd q (by omega)) (fun _ => ?_)
                refine pm_aloadn hG dX12_person_128 rfl ?_
                refine pm_iloadi hG dX12_person_129 rfl ?_
                refine pm_iloadi hG dX12_person_131 rfl ?_
                refine pm_iconst (v := nI 0) hG dX12_person_133 (by decide) ?_
                refine pm_callV (As := [.int (nI k274), .int (nI 1), .int (nI 0)]) (rest := []) hG hR dX12_person_134 (lkX12_97 _ rfl) okV_X12_sets rfl rfl (m_sets (d := 2) (e := 14 * k274 + 111) (by omega) (by omega) (by omega)) rfl rfl hdd (Nat.le_refl _) (Nat.le_refl _) (by decide) (pm_kv (fun σ' cnt' hq => ?_))
                obtain ⟨rfl, rfl⟩ := hq
                obtain ⟨n_285, en_285⟩ : ∃ f : Nat → Int32, f = upd n_280 (14 * k274 + 111) (nI 0) := ⟨_, rfl⟩
                rw [← en_285]
                have hnn_285 := KI.w en_285 hnn_280 (okv_f (show kd (14 * k274 + 111) = (0, 0, false) from (kd_P (k := k274) (c := 1) (by omega) (by omega) (by decide))))
                have hrn_285 := NRx.w en_285 hrn_280 (by rw [(show kd (14 * k274 + 111) = (0, 0, false) from (kd_P (k := k274) (c := 1) (by omega) (by omega) (by decide)))])
                have e286 : n_285 8 = nI kc8 := by rw [en_285, pk_un (by omega)]; exact e281
                have e287 : n_285 0 = nI k270 := by rw [en_285, pk_un (by omega)]; exact e282
                have e288 : n_285 2 = nI (k274 + 1) := by rw [en_285, pk_un (by omega)]; exact e283
                have e289 : n_285 (14 * k274 + 111) = nI 0 := by rw [en_285, pk_us]
                refine pm_iincX (v := nI 2) (loc' := [some (.ref (B + 54)), some (.int za), some (.int zb), some (.int zc), some (.int zd), some (.int (nI 1)), some (.int (nI k274)), some (.int (nI 2))]) hG dX12_person_137 rfl (nI_1 _) (by decide) (pm_c1b rfl) rfl ?_
                refine pm_goto (tgt := 121) hG dX12_person_140 rfl ?_
                refine pm_iloadi hG dX12_person_121 rfl ?_
                refine pm_bipush (v := nI 14) hG dX12_person_123 (by decide) ?_
                refine pm_icmpN_ge (tgt := 143) hG dX12_person_125 rfl (by omega) (by omega) (fun q => absurd q (by omega)) (fun _ => ?_)
                refine pm_aloadn hG dX12_person_128 rfl ?_
                refine pm_iloadi hG dX12_person_129 rfl ?_
                refine pm_iloadi hG dX12_person_131 rfl ?_
                refine pm_iconst (v := nI 0) hG dX12_person_133 (by decide) ?_
                refine pm_callV (As := [.int (nI k274), .int (nI 2), .int (nI 0)]) (rest := []) hG hR dX12_person_134 (lkX12_97 _ rfl) okV_X12_sets rfl rfl (m_sets (d := 2) (e := 14 * k274 + 112) (by omega) (by omega) (by omega)) rfl rfl hdd (Nat.le_refl _) (Nat.le_refl _) (by decide) (pm_kv (fun σ' cnt' hq => ?_))
                obtain ⟨rfl, rfl⟩ := hq
                obtain ⟨n_290, en_290⟩ : ∃ f : Nat → Int32, f = upd n_285 (14 * k274 + 112) (nI 0) := ⟨_, rfl⟩
                rw [← en_290]
                have hnn_290 := KI.w en_290 hnn_285 (okv_o (show kd (14 * k274 + 112) = (2, 20, false) from (kd_P (k := k274) (c := 2) (by omega) (by omega) (by decide))) (by omega))
                have hrn_290 := NRx.w en_290 hrn_285 (by rw [(show kd (14 * k274 + 112) = (2, 20, false) from (kd_P (k := k274) (c := 2) (by omega) (by omega) (by decide)))])
                have e291 : n_290 8 = nI kc8 := by rw [en_290, pk_un (by omega)]; exact e286
                have e292 : n_290 0 = nI k270 := by rw [en_290, pk_un (by omega)]; exact e287
                have e293 : n_290 2 = nI (k274 + 1) := by rw [en_290, pk_un (by omega)]; exact e288
                have e294 : n_290 (14 * k274 + 112) = nI 0 := by rw [en_290, pk_us]
                refine pm_iincX (v := nI 3) (loc' := [some (.ref (B + 54)), some (.int za), some (.int zb), some (.int zc), some (.int zd), some (.int (nI 1)), some (.int (nI k274)), some (.int (nI 3))]) hG dX12_person_137 rfl (nI_1 _) (by decide) (pm_c1b rfl) rfl ?_
                refine pm_goto (tgt := 121) hG dX12_person_140 rfl ?_
                refine pm_iloadi hG dX12_person_121 rfl ?_
                refine pm_bipush (v := nI 14) hG dX12_person_123 (by decide) ?_
                refine pm_icmpN_ge (tgt := 143) hG dX12_person_125 rfl (by omega) (by omega) (fun q => absurd q (by omega)) (fun _ => ?_)
                refine pm_aloadn hG dX12_person_128 rfl ?_
                refine pm_iloadi hG dX12_person_129 rfl ?_
                refine pm_iloadi hG dX12_person_131 rfl ?_
                refine pm_iconst (v := nI 0) hG dX12_person_133 (by decide) ?_
                refine pm_callV (As := [.int (nI k274), .int (nI 3), .int (nI 0)]) (rest := []) hG hR dX12_person_134 (lkX12_97 _ rfl) okV_X12_sets rfl rfl (m_sets (d := 2) (e := 14 * k274 + 113) (by omega) (by omega) (by omega)) rfl rfl hdd (Nat.le_refl _) (Nat.le_refl _) (by decide) (pm_kv (fun σ' cnt' hq => ?_))
                obtain ⟨rfl, rfl⟩ := hq
                obtain ⟨n_295, en_295⟩ : ∃ f : Nat → Int32, f = upd n_290 (14 * k274 + 113) (nI 0) := ⟨_, rfl⟩
                rw [← en_295]
                have hnn_295 := KI.w en_295 hnn_290 (okv_o (show kd (14 * k274 + 113) = (2, 20, false) from (kd_P (k := k274) (c := 3) (by omega) (by omega) (by decide))) (by omega))
                have hrn_295 := NRx.w en_295 hrn_290 (by rw [(show kd (14 * k274 + 113) = (2, 20, false) from (kd_P (k := k274) (c := 3) (by omega) (by omega) (by decide)))])
                have e296 : n_295 8 = nI kc8 := by rw [en_295, pk_un (by omega)]; exact e291
                have e297 : n_295 0 = nI k270 := by rw [en_295, pk_un (by omega)]; exact e292
                have e298 : n_295 2 = nI (k274 + 1) := by rw [en_295, pk_un (by omega)]; exact e293
                have e299 : n_295 (14 * k274 + 113) = nI 0 := by rw [en_295, pk_us]
                refine pm_iincX (v := nI 4) (loc' := [some (.ref (B + 54)), some (.int za), some (.int zb), some (.int zc), some (.int zd), some (.int (nI 1)), some (.int (nI k274)), some (.int (nI 4))]) hG dX12_person_137 rfl (nI_1 _) (by decide) (pm_c1b rfl) rfl ?_
                refine pm_goto (tgt := 121) hG dX12_person_140 rfl ?_
                refine pm_iloadi hG dX12_person_121 rfl ?_
                refine pm_bipush (v := nI 14) hG dX12_person_123 (by decide) ?_
                refine pm_icmpN_ge (tgt := 143) hG dX12_person_125 rfl (by omega) (by omega) (fun q => absurd q (by omega)) (fun _ => ?_)
                refine pm_aloadn hG dX12_person_128 rfl ?_
                refine pm_iloadi hG dX12_person_129 rfl ?_
                refine pm_iloadi hG dX12_person_131 rfl ?_
                refine pm_iconst (v := nI 0) hG dX12_person_133 (by decide) ?_
                refine pm_callV (As := [.int (nI k274), .int (nI 4), .int (nI 0)]) (rest := []) hG hR dX12_person_134 (lkX12_97 _ rfl) okV_X12_sets rfl rfl (m_sets (d := 2) (e := 14 * k274 + 114) (by omega) (by omega) (by omega)) rfl rfl hdd (Nat.le_refl _) (Nat.le_refl _) (by decide) (pm_kv (fun σ' cnt' hq => ?_))
                obtain ⟨rfl, rfl⟩ := hq
                obtain ⟨n_300, en_300⟩ : ∃ f : Nat → Int32, f = upd n_295 (14 * k274 + 114) (nI 0) := ⟨_, rfl⟩
                rw [← en_300]
                have hnn_300 := KI.w en_300 hnn_295 (okv_o (show kd (14 * k274 + 114) = (2, 10, false) from (kd_P (k := k274) (c := 4) (by omega) (by omega) (by decide))) (by omega))
                have hrn_300 := NRx.w en_300 hrn_295 (by rw [(show kd (14 * k274 + 114) = (2, 10, false) from (kd_P (k := k274) (c := 4) (by omega) (by omega) (by decide)))])
                have e301 : n_300 8 = nI kc8 := by rw [en_300, pk_un (by omega)]; exact e296
                have e302 : n_300 0 = nI k270 := by rw [en_300, pk_un (by omega)]; exact e297
                have e303 : n_300 2 = nI (k274 + 1) := by rw [en_300, pk_un (by omega)]; exact e298
                have e304 : n_300 (14 * k274 + 114) = nI 0 := by rw [en_300, pk_us]
                refine pm_iincX (v := nI 5) (loc' := [some (.ref (B + 54)), some (.int za), some (.int zb), some (.int zc), some (.int zd), some (.int (nI 1)), some (.int (nI k274)), some (.int (nI 5))]) hG dX12_person_137 rfl (nI_1 _) (by decide) (pm_c1b rfl) rfl ?_
                refine pm_goto (tgt := 121) hG dX12_person_140 rfl ?_
                refine pm_iloadi hG dX12_person_121 rfl ?_
                refine pm_bipush (v := nI 14) hG dX12_person_123 (by decide) ?_
                refine pm_icmpN_ge (tgt := 143) hG dX12_person_125 rfl (by omega) (by omega) (fun q => absurd q (by omega)) (fun _ => ?_)
                refine pm_aloadn hG dX12_person_128 rfl ?_
                refine pm_iloadi hG dX12_person_129 rfl ?_
                refine pm_iloadi hG dX12_person_131 rfl ?_
                refine pm_iconst (v := nI 0) hG dX12_person_133 (by decide) ?_
                refine pm_callV (As := [.int (nI k274), .int (nI 5), .int (nI 0)]) (rest := []) hG hR dX12_person_134 (lkX12_97 _ rfl) okV_X12_sets rfl rfl (m_sets (d := 2) (e := 14 * k274 + 115) (by omega) (by omega) (by omega)) rfl rfl hdd (Nat.le_refl _) (Nat.le_refl _) (by decide) (pm_kv (fun σ' cnt' hq => ?_))
                obtain ⟨rfl, rfl⟩ := hq
                obtain ⟨n_305, en_305⟩ : ∃ f : Nat → Int32, f = upd n_300 (14 * k274 + 115) (nI 0) := ⟨_, rfl⟩
                rw [← en_305]
                have hnn_305 := KI.w en_305 hnn_300 (okv_n (show kd (14 * k274 + 115) = (1, 10, false) from (kd_P (k := k274) (c := 5) (by omega) (by omega) (by decide))) (by omega))
                have hrn_305 := NRx.w en_305 hrn_300 (by rw [(show kd (14 * k274 + 115) = (1, 10, false) from (kd_P (k := k274) (c := 5) (by omega) (by omega) (by decide)))])
                have e306 : n_305 8 = nI kc8 := by rw [en_305, pk_un (by omega)]; exact e301
                have e307 : n_305 0 = nI k270 := by rw [en_305, pk_un (by omega)]; exact e302
                have e308 : n_305 2 = nI (k274 + 1) := by rw [en_305, pk_un (by omega)]; exact e303
                have e309 : n_305 (14 * k274 + 115) = nI 0 := by rw [en_305, pk_us]
                refine pm_iincX (v := nI 6) (loc' := [some (.ref (B + 54)), some (.int za), some (.int zb), some (.int zc), some (.int zd), some (.int (nI 1)), some (.int (nI k274)), some (.int (nI 6))]) hG dX12_person_137 rfl (nI_1 _) (by decide) (pm_c1b rfl) rfl ?_
                refine pm_goto (tgt := 121) hG dX12_person_140 rfl ?_
                refine pm_iloadi hG dX12_person_121 rfl ?_
                refine pm_bipush (v := nI 14) hG dX12_person_123 (by decide) ?_
                refine pm_icmpN_ge (tgt := 143) hG dX12_person_125 rfl (by omega) (by omega) (fun q => absurd q (by omega)) (fun _ => ?_)
                refine pm_aloadn hG dX12_person_128 rfl ?_
                refine pm_iloadi hG dX12_person_129 rfl ?_
                refine pm_iloadi hG dX12_person_131 rfl ?_
                refine pm_iconst (v := nI 0) hG dX12_person_133 (by decide) ?_
                refine pm_callV (As := [.int (nI k274), .int (nI 6), .int (nI 0)]) (rest := []) hG hR dX12_person_134 (lkX12_97 _ rfl) okV_X12_sets rfl rfl (m_sets (d := 2) (e := 14 * k274 + 116) (by omega) (by omega) (by omega)) rfl rfl hdd (Nat.le_refl _) (Nat.le_refl _) (by decide) (pm_kv (fun σ' cnt' hq => ?_))
                obtain ⟨rfl, rfl⟩ := hq
                obtain ⟨n_310, en_310⟩ : ∃ f : Nat → Int32, f = upd n_305 (14 * k274 + 116) (nI 0) := ⟨_, rfl⟩
                rw [← en_310]
                have hnn_310 := KI.w en_310 hnn_305 (okv_f (show kd (14 * k274 + 116) = (0, 0, false) from (kd_P (k := k274) (c := 6) (by omega) (by omega) (by decide))))
                have hrn_310 := NRx.w en_310 hrn_305 (by rw [(show kd (14 * k274 + 116) = (0, 0, false) from (kd_P (k := k274) (c := 6) (by omega) (by omega) (by decide)))])
                have e311 : n_310 8 = nI kc8 := by rw [en_310, pk_un (by omega)]; exact e306
                have e312 : n_310 0 = nI k270 := by rw [en_310, pk_un (by omega)]; exact e307
                have e313 : n_310 2 = nI (k274 + 1) := by rw [en_310, pk_un (by omega)]; exact e308
                have e314 : n_310 (14 * k274 + 116) = nI 0 := by rw [en_310, pk_us]
                refine pm_iincX (v := nI 7) (loc' := [some (.ref (B + 54)), some (.int za), some (.int zb), some (.int zc), some (.int zd), some (.int (nI 1)), some (.int (nI k274)), some (.int (nI 7))]) hG dX12_person_137 rfl (nI_1 _) (by decide) (pm_c1b rfl) rfl ?_
                refine pm_goto (tgt := 121) hG dX12_person_140 rfl ?_
                refine pm_iloadi hG dX12_person_121 rfl ?_
                refine pm_bipush (v := nI 14) hG dX12_person_123 (by decide) ?_
                refine pm_icmpN_ge (tgt := 143) hG dX12_person_125 rfl (by omega) (by omega) (fun q => absurd q (by omega)) (fun _ => ?_)
                refine pm_aloadn hG dX12_person_128 rfl ?_
                refine pm_iloadi hG dX12_person_129 rfl ?_
                refine pm_iloadi hG dX12_person_131 rfl ?_
                refine pm_iconst (v := nI 0) hG dX12_person_133 (by decide) ?_
                refine pm_callV (As := [.int (nI k274), .int (nI 7), .int (nI 0)]) (rest := []) hG hR dX12_person_134 (lkX12_97 _ rfl) okV_X12_sets rfl rfl (m_sets (d := 2) (e := 14 * k274 + 117) (by omega) (by omega) (by omega)) rfl rfl hdd (Nat.le_refl _) (Nat.le_refl _) (by decide) (pm_kv (fun σ' cnt' hq => ?_))
                obtain ⟨rfl, rfl⟩ := hq
                obtain ⟨n_315, en_315⟩ : ∃ f : Nat → Int32, f = upd n_310 (14 * k274 + 117) (nI 0) := ⟨_, rfl⟩
                rw [← en_315]
                have hnn_315 := KI.w en_315 hnn_310 (okv_f (show kd (14 * k274 + 117) = (0, 0, false) from (kd_P (k := k274) (c := 7) (by omega) (by omega) (by decide))))
                have hrn_315 := NRx.w en_315 hrn_310 (by rw [(show kd (14 * k274 + 117) = (0, 0, false) from (kd_P (k := k274) (c := 7) (by omega) (by omega) (by decide)))])
                have e316 : n_315 8 = nI kc8 := by rw [en_315, pk_un (by omega)]; exact e311
                have e317 : n_315 0 = nI k270 := by rw [en_315, pk_un (by omega)]; exact e312
                have e318 : n_315 2 = nI (k274 + 1) := by rw [en_315, pk_un (by omega)]; exact e313
                have e319 : n_315 (14 * k274 + 117) = nI 0 := by rw [en_315, pk_us]
                refine pm_iincX (v := nI 8) (loc' := [some (.ref (B + 54)), some (.int za), some (.int zb), some (.int zc), some (.int zd), some (.int (nI 1)), some (.int (nI k274)), some (.int (nI 8))]) hG dX12_person_137 rfl (nI_1 _) (by decide) (pm_c1b rfl) rfl ?_
                refine pm_goto (tgt := 121) hG dX12_person_140 rfl ?_
                refine pm_iloadi hG dX12_person_121 rfl ?_
                refine pm_bipush (v := nI 14) hG dX12_person_123 (by decide) ?_
                refine pm_icmpN_ge (tgt := 143) hG dX12_person_125 rfl (by omega) (by omega) (fun q => absurd q (by omega)) (fun _ => ?_)
                refine pm_aloadn hG dX12_person_128 rfl ?_
                refine pm_iloadi hG dX12_person_129 rfl ?_
                refine pm_iloadi hG dX12_person_131 rfl ?_
                refine pm_iconst (v := nI 0) hG dX12_person_133 (by decide) ?_
                refine pm_callV (As := [.int (nI k274), .int (nI 8), .int (nI 0)]) (rest := []) hG hR dX12_person_134 (lkX12_97 _ rfl) okV_X12_sets rfl rfl (m_sets (d := 2) (e := 14 * k274 + 118) (by omega) (by omega) (by omega)) rfl rfl hdd (Nat.le_refl _) (Nat.le_refl _) (by decide) (pm_kv (fun σ' cnt' hq => ?_))
                obtain ⟨rfl, rfl⟩ := hq
                obtain ⟨n_320, en_320⟩ : ∃ f : Nat → Int32, f = upd n_315 (14 * k274 + 118) (nI 0) := ⟨_, rfl⟩
                rw [← en_320]
                have hnn_320 := KI.w en_320 hnn_315 (okv_f (show kd (14 * k274 + 118) = (0, 0, false) from (kd_P (k := k274) (c := 8) (by omega) (by omega) (by decide))))
                have hrn_320 := NRx.w en_320 hrn_315 (by rw [(show kd (14 * k274 + 118) = (0, 0, false) from (kd_P (k := k274) (c := 8) (by omega) (by omega) (by decide)))])
                have e321 : n_320 8 = nI kc8 := by rw [en_320, pk_un (by omega)]; exact e316
                have e322 : n_320 0 = nI k270 := by rw [en_320, pk_un (by omega)]; exact e317
                have e323 : n_320 2 = nI (k274 + 1) := by rw [en_320, pk_un (by omega)]; exact e318
                have e324 : n_320 (14 * k274 + 118) = nI 0 := by rw [en_320, pk_us]
                refine pm_iincX (v := nI 9) (loc' := [some (.ref (B + 54)), some (.int za), some (.int zb), some (.int zc), some (.int zd), some (.int (nI 1)), some (.int (nI k274)), some (.int (nI 9))]) hG dX12_person_137 rfl (nI_1 _) (by decide) (pm_c1b rfl) rfl ?_
                refine pm_goto (tgt := 121) hG dX12_person_140 rfl ?_
                refine pm_iloadi hG dX12_person_121 rfl ?_
                refine pm_bipush (v := nI 14) hG dX12_person_123 (by decide) ?_
                refine pm_icmpN_ge (tgt := 143) hG dX12_person_125 rfl (by omega) (by omega) (fun q => absurd q (by omega)) (fun _ => ?_)
                refine pm_aloadn hG dX12_person_128 rfl ?_
                refine pm_iloadi hG dX12_person_129 rfl ?_
                refine pm_iloadi hG dX12_person_131 rfl ?_
                refine pm_iconst (v := nI 0) hG dX12_person_133 (by decide) ?_
                refine pm_callV (As := [.int (nI k274), .int (nI 9), .int (nI 0)]) (rest := []) hG hR dX12_person_134 (lkX12_97 _ rfl) okV_X12_sets rfl rfl (m_sets (d := 2) (e := 14 * k274 + 119) (by omega) (by omega) (by omega)) rfl rfl hdd (Nat.le_refl _) (Nat.le_refl _) (by decide) (pm_kv (fun σ' cnt' hq => ?_))
                obtain ⟨rfl, rfl⟩ := hq
                obtain ⟨n_325, en_325⟩ : ∃ f : Nat → Int32, f = upd n_320 (14 * k274 + 119) (nI 0) := ⟨_, rfl⟩
                rw [← en_325]
                have hnn_325 := KI.w en_325 hnn_320 (okv_o (show kd (14 * k274 + 119) = (2, 2001, false) from (kd_P (k := k274) (c := 9) (by omega) (by omega) (by decide))) (by omega))
                have hrn_325 := NRx.w en_325 hrn_320 (by rw [(show kd (14 * k274 + 119) = (2, 2001, false) from (kd_P (k := k274) (c := 9) (by omega) (by omega) (by decide)))])
                have e326 : n_325 8 = nI kc8 := by rw [en_325, pk_un (by omega)]; exact e321
                have e327 : n_325 0 = nI k270 := by rw [en_325, pk_un (by omega)]; exact e322
                have e328 : n_325 2 = nI (k274 + 1) := by rw [en_325, pk_un (by omega)]; exact e323
                have e329 : n_325 (14 * k274 + 119) = nI 0 := by rw [en_325, pk_us]
                refine pm_iincX (v := nI 10) (loc' := [some (.ref (B + 54)), some (.int za), some (.int zb), some (.int zc), some (.int zd), some (.int (nI 1)), some (.int (nI k274)), some (.int (nI 10))]) hG dX12_person_137 rfl (nI_1 _) (by decide) (pm_c1b rfl) rfl ?_
                refine pm_goto (tgt := 121) hG dX12_person_140 rfl ?_
                refine pm_iloadi hG dX12_person_121 rfl ?_
                refine pm_bipush (v := nI 14) hG dX12_person_123 (by decide) ?_
                refine pm_icmpN_ge (tgt := 143) hG dX12_person_125 rfl (by omega) (by omega) (fun q => absurd q (by omega)) (fun _ => ?_)
                refine pm_aloadn hG dX12_person_128 rfl ?_
                refine pm_iloadi hG dX12_person_129 rfl ?_
                refine pm_iloadi hG dX12_person_131 rfl ?_
                refine pm_iconst (v := nI 0) hG dX12_person_133 (by decide) ?_
                refine pm_callV (As := [.int (nI k274), .int (nI 10), .int (nI 0)]) (rest := []) hG hR dX12_person_134 (lkX12_97 _ rfl) okV_X12_sets rfl rfl (m_sets (d := 2) (e := 14 * k274 + 120) (by omega) (by omega) (by omega)) rfl rfl hdd (Nat.le_refl _) (Nat.le_refl _) (by decide) (pm_kv (fun σ' cnt' hq => ?_))
                obtain ⟨rfl, rfl⟩ := hq
                obtain ⟨n_330, en_330⟩ : ∃ f : Nat → Int32, f = upd n_325 (14 * k274 + 120) (nI 0) := ⟨_, rfl⟩
                rw [← en_330]
                have hnn_330 := KI.w en_330 hnn_325 (okv_f (show kd (14 * k274 + 120) = (0, 0, false) from (kd_P (k := k274) (c := 10) (by omega) (by omega) (by decide))))
                have hrn_330 := NRx.w en_330 hrn_325 (by rw [(show kd (14 * k274 + 120) = (0, 0, false) from (kd_P (k := k274) (c := 10) (by omega) (by omega) (by decide)))])
                have e331 : n_330 8 = nI kc8 := by rw [en_330, pk_un (by omega)]; exact e326
                have e332 : n_330 0 = nI k270 := by rw [en_330, pk_un (by omega)]; exact e327
                have e333 : n_330 2 = nI (k274 + 1) := by rw [en_330, pk_un (by omega)]; exact e328
                have e334 : n_330 (14 * k274 + 120) = nI 0 := by rw [en_330, pk_us]
                refine pm_iincX (v := nI 11) (loc' := [some (.ref (B + 54)), some (.int za), some (.int zb), some (.int zc), some (.int zd), some (.int (nI 1)), some (.int (nI k274)), some (.int (nI 11))]) hG dX12_person_137 rfl (nI_1 _) (by decide) (pm_c1b rfl) rfl ?_
                refine pm_goto (tgt := 121) hG dX12_person_140 rfl ?_
                refine pm_iloadi hG dX12_person_121 rfl ?_
                refine pm_bipush (v := nI 14) hG dX12_person_123 (by decide) ?_
                refine pm_icmpN_ge (tgt := 143) hG dX12_person_125 rfl (by omega) (by omega) (fun q => absurd q (by omega)) (fun _ => ?_)
                refine pm_aloadn hG dX12_person_128 rfl ?_
                refine pm_iloadi hG dX12_person_129 rfl ?_
                refine pm_iloadi hG dX12_person_131 rfl ?_
                refine pm_iconst (v := nI 0) hG dX12_person_133 (by decide) ?_
                refine pm_callV (As := [.int (nI k274), .int (nI 11), .int (nI 0)]) (rest := []) hG hR dX12_person_134 (lkX12_97 _ rfl) okV_X12_sets rfl rfl (m_sets (d := 2) (e := 14 * k274 + 121) (by omega) (by omega) (by omega)) rfl rfl hdd (Nat.le_refl _) (Nat.le_refl _) (by decide) (pm_kv (fun σ' cnt' hq => ?_))
                obtain ⟨rfl, rfl⟩ := hq
                obtain ⟨n_335, en_335⟩ : ∃ f : Nat → Int32, f = upd n_330 (14 * k274 + 121) (nI 0) := ⟨_, rfl⟩
                rw [← en_335]
                have hnn_335 := KI.w en_335 hnn_330 (okv_n (show kd (14 * k274 + 121) = (1, 2, true) from (kd_P (k := k274) (c := 11) (by omega) (by omega) (by decide))) (by omega))
                have hrn_335 := NRx.unseat (p := k274) en_335 hrn_330 (by omega)
                have e336 : n_335 8 = nI kc8 := by rw [en_335, pk_un (by omega)]; exact e331
                have e337 : n_335 0 = nI k270 := by rw [en_335, pk_un (by omega)]; exact e332
                have e338 : n_335 2 = nI (k274 + 1) := by rw [en_335, pk_un (by omega)]; exact e333
                have e339 : n_335 (14 * k274 + 121) = nI 0 := by rw [en_335, pk_us]
                refine pm_iincX (v := nI 12) (loc' := [some (.ref (B + 54)), some (.int za), some (.int zb), some (.int zc), some (.int zd), some (.int (nI 1)), some (.int (nI k274)), some (.int (nI 12))]) hG dX12_person_137 rfl (nI_1 _) (by decide) (pm_c1b rfl) rfl ?_
                refine pm_goto (tgt := 121) hG dX12_person_140 rfl ?_
                refine pm_iloadi hG dX12_person_121 rfl ?_
                refine pm_bipush (v := nI 14) hG dX12_person_123 (by decide) ?_
                refine pm_icmpN_ge (tgt := 143) hG dX12_person_125 rfl (by omega) (by omega) (fun q => absurd q (by omega)) (fun _ => ?_)
                refine pm_aloadn hG dX12_person_128 rfl ?_
                refine pm_iloadi hG dX12_person_129 rfl ?_
                refine pm_iloadi hG dX12_person_131 rfl ?_
                refine pm_iconst (v := nI 0) hG dX12_person_133 (by decide) ?_
                refine pm_callV (As := [.int (nI k274), .int (nI 12), .int (nI 0)]) (rest := []) hG hR dX12_person_134 (lkX12_97 _ rfl) okV_X12_sets rfl rfl (m_sets (d := 2) (e := 14 * k274 + 122) (by omega) (by omega) (by omega)) rfl rfl hdd (Nat.le_refl _) (Nat.le_refl _) (by decide) (pm_kv (fun σ' cnt' hq => ?_))
                obtain ⟨rfl, rfl⟩ := hq
                obtain ⟨n_340, en_340⟩ : ∃ f : Nat → Int32, f = upd n_335 (14 * k274 + 122) (nI 0) := ⟨_, rfl⟩
                rw [← en_340]
                have hnn_340 := KI.w en_340 hnn_335 (okv_f (show kd (14 * k274 + 122) = (0, 0, false) from (kd_P (k := k274) (c := 12) (by omega) (by omega) (by decide))))
                have hrn_340 := NRx.w en_340 hrn_335 (by rw [(show kd (14 * k274 + 122) = (0, 0, false) from (kd_P (k := k274) (c := 12) (by omega) (by omega) (by decide)))])
                have e341 : n_340 8 = nI kc8 := by rw [en_340, pk_un (by omega)]; exact e336
                have e342 : n_340 0 = nI k270 := by rw [en_340, pk_un (by omega)]; exact e337
                have e343 : n_340 2 = nI (k274 + 1) := by rw [en_340, pk_un (by omega)]; exact e338
                have e344 : n_340 (14 * k274 + 122) = nI 0 := by rw [en_340, pk_us]
                refine pm_iincX (v := nI 13) (loc' := [some (.ref (B + 54)), some (.int za), some (.int zb), some (.int zc), some (.int zd), some (.int (nI 1)), some (.int (nI k274)), some (.int (nI 13))]) hG dX12_person_137 rfl (nI_1 _) (by decide) (pm_c1b rfl) rfl ?_
                refine pm_goto (tgt := 121) hG dX12_person_140 rfl ?_
                refine pm_iloadi hG dX12_person_121 rfl ?_
                refine pm_bipush (v := nI 14) hG dX12_person_123 (by decide) ?_
                refine pm_icmpN_ge (tgt := 143) hG dX12_person_125 rfl (by omega) (by omega) (fun q => absurd q (by omega)) (fun _ => ?_)
                refine pm_aloadn hG dX12_person_128 rfl ?_
                refine pm_iloadi hG dX12_person_129 rfl ?_
                refine pm_iloadi hG dX12_person_131 rfl ?_
                refine pm_iconst (v := nI 0) hG dX12_person_133 (by decide) ?_
                refine pm_callV (As := [.int (nI k274), .int (nI 13), .int (nI 0)]) (rest := []) hG hR dX12_person_134 (lkX12_97 _ rfl) okV_X12_sets rfl rfl (m_sets (d := 2) (e := 14 * k274 + 123) (by omega) (by omega) (by omega)) rfl rfl hdd (Nat.le_refl _) (Nat.le_refl _) (by decide) (pm_kv (fun σ' cnt' hq => ?_))
                obtain ⟨rfl, rfl⟩ := hq
                obtain ⟨n_345, en_345⟩ : ∃ f : Nat → Int32, f = upd n_340 (14 * k274 + 123) (nI 0) := ⟨_, rfl⟩
                rw [← en_345]
                have hnn_345 := KI.w en_345 hnn_340 (okv_f (show kd (14 * k274 + 123) = (0, 0, false) from (kd_P (k := k274) (c := 13) (by omega) (by omega) (by decide))))
                have hrn_345 := NRx.w en_345 hrn_340 (by rw [(show kd (14 * k274 + 123) = (0, 0, false) from (kd_P (k := k274) (c := 13) (by omega) (by omega) (by decide)))])
                have e346 : n_345 8 = nI kc8 := by rw [en_345, pk_un (by omega)]; exact e341
                have e347 : n_345 0 = nI k270 := by rw [en_345, pk_un (by omega)]; exact e342
                have e348 : n_345 2 = nI (k274 + 1) := by rw [en_345, pk_un (by omega)]; exact e343
                have e349 : n_345 (14 * k274 + 123) = nI 0 := by rw [en_345, pk_us]
                refine pm_iincX (v := nI 14) (loc' := [some (.ref (B + 54)), some (.int za), some (.int zb), some (.int zc), some (.int zd), some (.int (nI 1)), some (.int (nI k274)), some (.int (nI 14))]) hG dX12_person_137 rfl (nI_1 _) (by decide) (pm_c1b rfl) rfl ?_
                refine pm_goto (tgt := 121) hG dX12_person_140 rfl ?_
                refine pm_iloadi hG dX12_person_121 rfl ?_
                refine pm_bipush (v := nI 14) hG dX12_person_123 (by decide) ?_
                refine pm_icmpN_ge (tgt := 143) hG dX12_person_125 rfl (by omega) (by omega) (fun _ => ?_) (fun q => absurd q (by omega))
                refine pm_aloadn hG dX12_person_143 rfl ?_
                refine pm_iloadi hG dX12_person_144 rfl ?_
                refine pm_iconst (v := nI 0) hG dX12_person_146 (by decide) ?_
                refine pm_iloadn hG dX12_person_147 rfl ?_
                refine pm_top (v := nI k3) ek3 ?_
                refine pm_callV (As := [.int (nI k274), .int (nI 0), .int (nI k3)]) (rest := []) hG hR dX12_person_148 (lkX12_97 _ rfl) okV_X12_sets rfl rfl (m_sets (d := 2) (e := 14 * k274 + 110) (by omega) (by omega) (by omega)) rfl rfl hdd (Nat.le_refl _) (Nat.le_refl _) (by decide) (pm_kv (fun σ' cnt' hq => ?_))
                obtain ⟨rfl, rfl⟩ := hq
                obtain ⟨n_350, en_350⟩ : ∃ f : Nat → Int32, f = upd n_345 (14 * k274 + 110) (nI k3) := ⟨_, rfl⟩
                rw [← en_350]
                have hnn_350 := KI.w en_350 hnn_345 (okv_f (show kd (14 * k274 + 110) = (0, 0, false) from (kd_P (k := k274) (c := 0) (by omega) (by omega) (by decide))))
                have hrn_350 := NRx.w en_350 hrn_345 (by rw [(show kd (14 * k274 + 110) = (0, 0, false) from (kd_P (k := k274) (c := 0) (by omega) (by omega) (by decide)))])
                have e351 : n_350 8 = nI kc8 := by rw [en_350, pk_un (by omega)]; exact e346
                have e352 : n_350 0 = nI k270 := by rw [en_350, pk_un (by omega)]; exact e347
                have e353 : n_350 2 = nI (k274 + 1) := by rw [en_350, pk_un (by omega)]; exact e348
                have e354 : n_350 (14 * k274 + 110) = nI k3 := by rw [en_350, pk_us]
                refine pm_aloadn hG dX12_person_151 rfl ?_
                refine pm_iloadi hG dX12_person_152 rfl ?_
                refine pm_iconst (v := nI 1) hG dX12_person_154 (by decide) ?_
                refine pm_iloadn hG dX12_person_155 rfl ?_
                refine pm_callV (As := [.int (nI k274), .int (nI 1), .int zb]) (rest := []) hG hR dX12_person_156 (lkX12_97 _ rfl) okV_X12_sets rfl rfl (m_sets (d := 2) (e := 14 * k274 + 111) (by omega) (by omega) (by omega)) rfl rfl hdd (Nat.le_refl _) (Nat.le_refl _) (by decide) (pm_kv (fun σ' cnt' hq => ?_))
                obtain ⟨rfl, rfl⟩ := hq
                obtain ⟨n_355, en_355⟩ : ∃ f : Nat → Int32, f = upd n_350 (14 * k274 + 111) zb := ⟨_, rfl⟩
                rw [← en_355]
                have hnn_355 := KI.w en_355 hnn_350 (okv_f (show kd (14 * k274 + 111) = (0, 0, false) from (kd_P (k := k274) (c := 1) (by omega) (by omega) (by decide))))
                have hrn_355 := NRx.w en_355 hrn_350 (by rw [(show kd (14 * k274 + 111) = (0, 0, false) from (kd_P (k := k274) (c := 1) (by omega) (by omega) (by decide)))])
                have e356 : n_355 8 = nI kc8 := by rw [en_355, pk_un (by omega)]; exact e351
                have e357 : n_355 0 = nI k270 := by rw [en_355, pk_un (by omega)]; exact e352
                have e358 : n_355 2 = nI (k274 + 1) := by rw [en_355, pk_un (by omega)]; exact e353
                have e359 : n_355 (14 * k274 + 111) = zb := by rw [en_355, pk_us]
                refine pm_aloadn hG dX12_person_159 rfl ?_
                refine pm_iloadi hG dX12_person_160 rfl ?_
                refine pm_iconst (v := nI 2) hG dX12_person_162 (by decide) ?_
                refine pm_iloadn hG dX12_person_163 rfl ?_
                refine pm_top (v := nI k9) ek9 ?_
                refine pm_bipush (v := nI 100) hG dX12_person_164 (by decide) ?_
                refine pm_idivN hG dX12_person_166 (by omega) (by decide) (by decide) ?_
                refine pm_iconst (v := nI 1) hG dX12_person_167 (by decide) ?_
                refine pm_isub hG dX12_person_168 ?_
                refine pm_top (v := nI k11) ek11 ?_
                refine pm_callV (As := [.int (nI k274), .int (nI 2), .int (nI k11)]) (rest := []) hG hR dX12_person_169 (lkX12_97 _ rfl) okV_X12_sets rfl rfl (m_sets (d := 2) (e := 14 * k274 + 112) (by omega) (by omega) (by omega)) rfl rfl hdd (Nat.le_refl _) (Nat.le_refl _) (by decide) (pm_kv (fun σ' cnt' hq => ?_))
                obtain ⟨rfl, rfl⟩ := hq
                obtain ⟨n_360, en_360⟩ : ∃ f : Nat → Int32, f = upd n_355 (14 * k274 + 112) (nI k11) := ⟨_, rfl⟩
                rw [← en_360]
                have hnn_360 := KI.w en_360 hnn_355 (okv_o (show kd (14 * k274 + 112) = (2, 20, false) from (kd_P (k := k274) (c := 2) (by omega) (by omega) (by decide))) (by omega))
                have hrn_360 := NRx.w en_360 hrn_355 (by rw [(show kd (14 * k274 + 112) = (2, 20, false) from (kd_P (k := k274) (c := 2) (by omega) (by omega) (by decide)))])
                have e361 : n_360 8 = nI kc8 := by rw [en_360, pk_un (by omega)]; exact e356
                have e362 : n_360 0 = nI k270 := by rw [en_360, pk_un (by omega)]; exact e357
                have e363 : n_360 2 = nI (k274 + 1) := by rw [en_360, pk_un (by omega)]; exact e358
                have e364 : n_360 (14 * k274 + 112) = nI k11 := by rw [en_360, pk_us]
                refine pm_aloadn hG dX12_person_172 rfl ?_
                refine pm_iloadi hG dX12_person_173 rfl ?_
                refine pm_iconst (v := nI 3) hG dX12_person_175 (by decide) ?_
                refine pm_iloadn hG dX12_person_176 rfl ?_
                refine pm_top (v := nI k9) ek9 ?_
                refine pm_bipush (v := nI 100) hG dX12_person_177 (by decide) ?_
                refine pm_iremM hG dX12_person_179 (by omega) (by decide) (by decide) ?_
                refine pm_iconst (v := nI 1) hG dX12_person_180 (by decide) ?_
                refine pm_isub hG dX12_person_181 ?_
                refine pm_top (v := (-1)) ek267 ?_
                refine pm_callV (As := [.int (nI k274), .int (nI 3), .int (-1)]) (rest := []) hG hR dX12_person_182 (lkX12_97 _ rfl) okV_X12_sets rfl rfl (m_sets (d := 2) (e := 14 * k274 + 113) (by omega) (by omega) (by omega)) rfl rfl hdd (Nat.le_refl _) (Nat.le_refl _) (by decide) (pm_kv (fun σ' cnt' hq => ?_))
                obtain ⟨rfl, rfl⟩ := hq
                obtain ⟨n_365, en_365⟩ : ∃ f : Nat → Int32, f = upd n_360 (14 * k274 + 113) (-1) := ⟨_, rfl⟩
                rw [← en_365]
                have hnn_365 := KI.w en_365 hnn_360 (okv_m (show kd (14 * k274 + 113) = (2, 20, false) from (kd_P (k := k274) (c := 3) (by omega) (by omega) (by decide))))
                have hrn_365 := NRx.w en_365 hrn_360 (by rw [(show kd (14 * k274 + 113) = (2, 20, false) from (kd_P (k := k274) (c := 3) (by omega) (by omega) (by decide)))])
                have e366 : n_365 8 = nI kc8 := by rw [en_365, pk_un (by omega)]; exact e361
                have e367 : n_365 0 = nI k270 := by rw [en_365, pk_un (by omega)]; exact e362
                have e368 : n_365 2 = nI (k274 + 1) := by rw [en_365, pk_un (by omega)]; exact e363
                have e369 : n_365 (14 * k274 + 113) = (-1) := by rw [en_365, pk_us]
                refine pm_aloadn hG dX12_person_185 rfl ?_
                refine pm_iloadi hG dX12_person_186 rfl ?_
                refine pm_iconst (v := nI 4) hG dX12_person_188 (by decide) ?_
                refine pm_iloadi hG dX12_person_189 rfl ?_
                refine pm_top (v := nI k273) ek273 ?_
                refine pm_callV (As := [.int (nI k274), .int (nI 4), .int (nI k273)]) (rest := []) hG hR dX12_person_191 (lkX12_97 _ rfl) okV_X12_sets rfl rfl (m_sets (d := 2) (e := 14 * k274 + 114) (by omega) (by omega) (by omega)) rfl rfl hdd (Nat.le_refl _) (Nat.le_refl _) (by decide) (pm_kv (fun σ' cnt' hq => ?_))
                obtain ⟨rfl, rfl⟩ := hq
                obtain ⟨n_370, en_370⟩ : ∃ f : Nat → Int32, f = upd n_365 (14 * k274 + 114) (nI k273) := ⟨_, rfl⟩
                rw [← en_370]
                have hnn_370 := KI.w en_370 hnn_365 (okv_o (show kd (14 * k274 + 114) = (2, 10, false) from (kd_P (k := k274) (c := 4) (by omega) (by omega) (by decide))) (by omega))
                have hrn_370 := NRx.w en_370 hrn_365 (by rw [(show kd (14 * k274 + 114) = (2, 10, false) from (kd_P (k := k274) (c := 4) (by omega) (by omega) (by decide)))])
                have e371 : n_370 8 = nI kc8 := by rw [en_370, pk_un (by omega)]; exact e366
                have e372 : n_370 0 = nI k270 := by rw [en_370, pk_un (by omega)]; exact e367
                have e373 : n_370 2 = nI (k274 + 1) := by rw [en_370, pk_un (by omega)]; exact e368
                have e374 : n_370 (14 * k274 + 114) = nI k273 := by rw [en_370, pk_us]
                refine pm_aloadn hG dX12_person_194 rfl ?_
                refine pm_iloadi hG dX12_person_195 rfl ?_
                refine pm_bipush (v := nI 9) hG dX12_person_197 (by decide) ?_
                refine pm_iconst (v := (-1)) hG dX12_person_199 (by decide) ?_
                refine pm_callV (As := [.int (nI k274), .int (nI 9), .int (-1)]) (rest := []) hG hR dX12_person_200 (lkX12_97 _ rfl) okV_X12_sets rfl rfl (m_sets (d := 2) (e := 14 * k274 + 119) (by omega) (by omega) (by omega)) rfl rfl hdd (Nat.le_refl _) (Nat.le_refl _) (by decide) (pm_kv (fun σ' cnt' hq => ?_))
                obtain ⟨rfl, rfl⟩ := hq
                obtain ⟨n_375, en_375⟩ : ∃ f : Nat → Int32, f = upd n_370 (14 * k274 + 119) (-1) := ⟨_, rfl⟩
                rw [← en_375]
                have hnn_375 := KI.w en_375 hnn_370 (okv_m (show kd (14 * k274 + 119) = (2, 2001, false) from (kd_P (k := k274) (c := 9) (by omega) (by omega) (by decide))))
                have hrn_375 := NRx.w en_375 hrn_370 (by rw [(show kd (14 * k274 + 119) = (2, 2001, false) from (kd_P (k := k274) (c := 9) (by omega) (by omega) (by decide)))])
                have e376 : n_375 8 = nI kc8 := by rw [en_375, pk_un (by omega)]; exact e371
                have e377 : n_375 0 = nI k270 := by rw [en_375, pk_un (by omega)]; exact e372
                have e378 : n_375 2 = nI (k274 + 1) := by rw [en_375, pk_un (by omega)]; exact e373
                have e379 : n_375 (14 * k274 + 119) = (-1) := by rw [en_375, pk_us]
                refine pm_aloadn hG dX12_person_203 rfl ?_
                refine pm_iloadi hG dX12_person_204 rfl ?_
                refine pm_bipush (v := nI 10) hG dX12_person_206 (by decide) ?_
                refine pm_iconst (v := (-1)) hG dX12_person_208 (by decide) ?_
                refine pm_callV (As := [.int (nI k274), .int (nI 10), .int (-1)]) (rest := []) hG hR dX12_person_209 (lkX12_97 _ rfl) okV_X12_sets rfl rfl (m_sets (d := 2) (e := 14 * k274 + 120) (by omega) (by omega) (by omega)) rfl rfl hdd (Nat.le_refl _) (Nat.le_refl _) (by decide) (pm_kv (fun σ' cnt' hq => ?_))
                obtain ⟨rfl, rfl⟩ := hq
                obtain ⟨n_380, en_380⟩ : ∃ f : Nat → Int32, f = upd n_375 (14 * k274 + 120) (-1) := ⟨_, rfl⟩
                rw [← en_380]
                have hnn_380 := KI.w en_380 hnn_375 (okv_f (show kd (14 * k274 + 120) = (0, 0, false) from (kd_P (k := k274) (c := 10) (by omega) (by omega) (by decide))))
                have hrn_380 := NRx.w en_380 hrn_375 (by rw [(show kd (14 * k274 + 120) = (0, 0, false) from (kd_P (k := k274) (c := 10) (by omega) (by omega) (by decide)))])
                have e381 : n_380 8 = nI kc8 := by rw [en_380, pk_un (by omega)]; exact e376
                have e382 : n_380 0 = nI k270 := by rw [en_380, pk_un (by omega)]; exact e377
                have e383 : n_380 2 = nI (k274 + 1) := by rw [en_380, pk_un (by omega)]; exact e378
                have e384 : n_380 (14 * k274 + 120) = (-1) := by rw [en_380, pk_us]
                refine pm_aloadn hG dX12_person_212 rfl ?_
                refine pm_iloadi hG dX12_person_213 rfl ?_
                refine pm_bipush (v := nI 12) hG dX12_person_215 (by decide) ?_
                refine pm_iconst (v := nI 1) hG dX12_person_217 (by decide) ?_
                refine pm_callV (As := [.int (nI k274), .int (nI 12), .int (nI 1)]) (rest := []) hG hR dX12_person_218 (lkX12_97 _ rfl) okV_X12_sets rfl rfl (m_sets (d := 2) (e := 14 * k274 + 122) (by omega) (by omega) (by omega)) rfl rfl hdd (Nat.le_refl _) (Nat.le_refl _) (by decide) (pm_kv (fun σ' cnt' hq => ?_))
                obtain ⟨rfl, rfl⟩ := hq
                obtain ⟨n_385, en_385⟩ : ∃ f : Nat → Int32, f = upd n_380 (14 * k274 + 122) (nI 1) := ⟨_, rfl⟩
                rw [← en_385]
                have hnn_385 := KI.w en_385 hnn_380 (okv_f (show kd (14 * k274 + 122) = (0, 0, false) from (kd_P (k := k274) (c := 12) (by omega) (by omega) (by decide))))
                have hrn_385 := NRx.w en_385 hrn_380 (by rw [(show kd (14 * k274 + 122) = (0, 0, false) from (kd_P (k := k274) (c := 12) (by omega) (by omega) (by decide)))])
                have e386 : n_385 8 = nI kc8 := by rw [en_385, pk_un (by omega)]; exact e381
                have e387 : n_385 0 = nI k270 := by rw [en_385, pk_un (by omega)]; exact e382
                have e388 : n_385 2 = nI (k274 + 1) := by rw [en_385, pk_un (by omega)]; exact e383
                have e389 : n_385 (14 * k274 + 122) = nI 1 := by rw [en_385, pk_us]
                refine pm_iloadi hG dX12_person_221 rfl ?_
                exact pm_iret hG hF dX12_person_223 rfl (Nat.le_refl _) (Nat.le_refl _) ⟨_, rfl, ⟨_, _, _, rfl, hnn_385, hrn_385, e386.trans ekc8.symm⟩, rfl⟩
              · refine pm_aloadn hG dX12_person_102 rfl ?_
                refine pm_iconst (v := nI 4) hG dX12_person_103 (by decide) ?_
                refine pm_callV (As := [.int (nI 4)]) (rest := []) hG hR dX12_person_104 (lkX12_80 _ rfl) okV_X12_finds rfl rfl (m_finds (d := 2) (by decide) hn hz (by omega)) rfl rfl hdd (Nat.le_refl _) (Nat.le_refl _) (by decide) (pm_ki (fun v390 σ' cnt' hq => ?_))
                obtain ⟨⟨I391, A391, rfl⟩, rfl, fv390⟩ := hq
                exact pm_iret hG hF dX12_person_107 rfl (Nat.le_refl _) (Nat.le_refl _) ⟨_, rfl, ⟨_, _, _, rfl, hn, hr, ekc8.trans ekc8.symm⟩, rfl⟩
            · refine pm_ifN_eq (tgt := 73) hG dX12_person_66 rfl (by omega) (fun _ => ?_) (fun q => absurd q (by omega))
              refine pm_iconst (v := nI 0) hG dX12_person_73 (by decide) ?_
              refine pm_istoreXi (loc' := [some (.ref (B + 54)), some (.int za), some (.int zb), some (.int zc), some (.int zd), some (.int (nI 0)), none, none]) hG dX12_person_74 (by decide) (pm_c1b rfl) rfl ?_
              refine pm_iloadi hG dX12_person_76 rfl ?_
              refine pm_ifN_ne (tgt := 87) hG dX12_person_78 rfl (by omega) (fun q => absurd q (by omega)) (fun _ => ?_)
              refine pm_aloadn hG dX12_person_81 rfl ?_
              refine pm_iconst (v := nI 1) hG dX12_person_82 (by decide) ?_
              refine pm_callV (As := [.int (nI 1)]) (rest := []) hG hR dX12_person_83 (lkX12_80 _ rfl) okV_X12_finds rfl rfl (m_finds (d := 2) (by decide) hn hz (by omega)) rfl rfl hdd (Nat.le_refl _) (Nat.le_refl _) (by decide) (pm_ki (fun v392 σ' cnt' hq => ?_))
              obtain ⟨⟨I393, A393, rfl⟩, rfl, fv392⟩ := hq
              exact pm_iret hG hF dX12_person_86 rfl (Nat.le_refl _) (Nat.le_refl _) ⟨_, rfl, ⟨_, _, _, rfl, hn, hr, ekc8.trans ekc8.symm⟩, rfl⟩
          · refine pm_ifN_eq (tgt := 73) hG dX12_person_57 rfl (by omega) (fun q => absurd q (by omega)) (fun _ => ?_)
            refine pm_aloadn hG dX12_person_60 rfl ?_
            refine pm_iloadi hG dX12_person_61 rfl ?_
            obtain ⟨k394, hk394, ek394⟩ := KI.nat hn (show kd 0 = (1, 11, true) by decide)
            refine pm_callV (As := [.int zd]) (rest := []) hG hR dX12_person_63 (lkX12_84 _ rfl) okV_X12_isTown rfl rfl (m_isTown (d := 2) (by decide) ek394 (by omega)) rfl rfl hdd (Nat.le_refl _) (Nat.le_refl _) (by decide) (pm_ki (fun v395 σ' cnt' hq => ?_))
            obtain ⟨hq, rfl, rfl⟩ := hq
            rcases hq with ⟨rfl, k397, hk397, ek397⟩ | rfl
            · refine pm_ifN_eq (tgt := 73) hG dX12_person_66 rfl (by omega) (fun q => absurd q (by omega)) (fun _ => ?_)
              refine pm_iconst (v := nI 1) hG dX12_person_69 (by decide) ?_
              refine pm_goto (tgt := 74) hG dX12_person_70 rfl ?_
              refine pm_istoreXi (loc' := [some (.ref (B + 54)), some (.int za), some (.int zb), some (.int zc), some (.int zd), some (.int (nI 1)), none, none]) hG dX12_person_74 (by decide) (pm_c1b rfl) rfl ?_
              refine pm_iloadi hG dX12_person_76 rfl ?_
              refine pm_ifN_ne (tgt := 87) hG dX12_person_78 rfl (by omega) (fun _ => ?_) (fun q => absurd q (by omega))
              refine pm_aloadn hG dX12_person_87 rfl ?_
              refine pm_getf hG dX12_person_88 (flX12_7 _ rfl) rfl rfl ?_
              refine pm_iconst (v := nI 2) hG dX12_person_91 (by decide) ?_
              refine pm_ialdN hG dX12_person_92 rfl (by decide) (by omega) ?_
              obtain ⟨k398, hk398, ek398⟩ := KI.nat hn (show kd 2 = (1, 21, true) by decide)
              refine pm_top (v := nI k398) ek398 ?_
              refine pm_istoreXi (loc' := [some (.ref (B + 54)), some (.int za), some (.int zb), some (.int zc), some (.int zd), some (.int (nI 1)), some (.int (nI k398)), none]) hG dX12_person_93 (by decide) (pm_c1b rfl) rfl ?_
              refine pm_iloadi hG dX12_person_95 rfl ?_
              refine pm_bipush (v := nI 20) hG dX12_person_97 (by decide) ?_
              refine pm_icmpN_ne (tgt := 108) hG dX12_person_99 rfl (by omega) (by omega) (fun c399 => ?_) (fun c399 => ?_)
              · refine pm_aloadn hG dX12_person_108 rfl ?_
                refine pm_getf hG dX12_person_109 (flX12_7 _ rfl) rfl rfl ?_
                refine pm_iconst (v := nI 2) hG dX12_person_112 (by decide) ?_
                refine pm_dup2 hG dX12_person_113 rfl rfl ?_
                refine pm_ialdN hG dX12_person_114 rfl (by decide) (by omega) ?_
                refine pm_top (v := nI k398) ek398 ?_
                refine pm_iconst (v := nI 1) hG dX12_person_115 (by decide) ?_
                refine pm_iaddN (c := k398 + 1) hG dX12_person_116 (by omega) ?_
                refine pm_iastN hG dX12_person_117 rfl (by decide) (by omega) ?_
                refine mdn_now (fun n_400 en_400 => ?_)
                have hnn_400 := KI.w en_400 hn (okv_n (show kd 2 = (1, 21, true) by decide) (by omega))
                have hrn_400 := NRx.pers en_400 hr ek394 (by omega) ek398 (by omega)
                have e401 : n_400 8 = nI kc8 := by rw [en_400, pk_un (by omega)]; exact ekc8
                have e402 : n_400 0 = nI k394 := by rw [en_400, pk_un (by omega)]; exact ek394
                have e403 : n_400 2 = nI (k398 + 1) := by rw [en_400, pk_us]
                refine pm_iconst (v := nI 0) hG dX12_person_118 (by decide) ?_
                refine pm_istoreXi (loc' := [some (.ref (B + 54)), some (.int za), some (.int zb), some (.int zc), some (.int zd), some (.int (nI 1)), some (.int (nI k398)), some (.int (nI 0))]) hG dX12_person_119 (by decide) (pm_c1b rfl) rfl ?_
                refine pm_iloadi hG dX12_person_121 rfl ?_
                refine pm_bipush (v := nI 14) hG dX12_person_123 (by decide) ?_
                refine pm_icmpN_ge (tgt := 143) hG dX12_person_125 rfl (by omega) (by omega) (fun q => absurd q (by omega)) (fun _ => ?_)
                refine pm_aloadn hG dX12_person_128 rfl ?_
                refine pm_iloadi hG dX12_person_129 rfl ?_
                refine pm_iloadi hG dX12_person_131 rfl ?_
                refine pm_iconst (v := nI 0) hG dX12_person_133 (by decide) ?_
                refine pm_callV (As := [.int (nI k398), .int (nI 0), .int (nI 0)]) (rest := []) hG hR dX12_person_134 (lkX12_97 _ rfl) okV_X12_sets rfl rfl (m_sets (d := 2) (e := 14 * k398 + 110) (by omega) (by omega) (by omega)) rfl rfl hdd (Nat.le_refl _) (Nat.le_refl _) (by decide) (pm_kv (fun σ' cnt' hq => ?_))
                obtain ⟨rfl, rfl⟩ := hq
                obtain ⟨n_404, en_404⟩ : ∃ f : Nat → Int32, f = upd n_400 (14 * k398 + 110) (nI 0) := ⟨_, rfl⟩
                rw [← en_404]
                have hnn_404 := KI.w en_404 hnn_400 (okv_f (show kd (14 * k398 + 110) = (0, 0, false) from (kd_P (k := k398) (c := 0) (by omega) (by omega) (by decide))))
                have hrn_404 := NRx.w en_404 hrn_400 (by rw [(show kd (14 * k398 + 110) = (0, 0, false) from (kd_P (k := k398) (c := 0) (by omega) (by omega) (by decide)))])
                have e405 : n_404 8 = nI kc8 := by rw [en_404, pk_un (by omega)]; exact e401
                have e406 : n_404 0 = nI k394 := by rw [en_404, pk_un (by omega)]; exact e402
                have e407 : n_404 2 = nI (k398 + 1) := by rw [en_404, pk_un (by omega)]; exact e403
                have e408 : n_404 (14 * k398 + 110) = nI 0 := by rw [en_404, pk_us]
                refine pm_iincX (v := nI 1) (loc' := [some (.ref (B + 54)), some (.int za), some (.int zb), some (.int zc), some (.int zd), some (.int (nI 1)), some (.int (nI k398)), some (.int (nI 1))]) hG dX12_person_137 rfl (nI_1 _) (by decide) (pm_c1b rfl) rfl ?_
                refine pm_goto (tgt := 121) hG dX12_person_140 rfl ?_
                refine pm_iloadi hG dX12_person_121 rfl ?_
                refine pm_bipush (v := nI 14) hG dX12_person_123 (by decide) ?_
                refine pm_icmpN_ge (tgt := 143) hG dX12_person_125 rfl (by omega) (by omega) (fun q => absurd q (by omega)) (fun _ => ?_)
                refine pm_aloadn hG dX12_person_128 rfl ?_
                refine pm_iloadi hG dX12_person_129 rfl ?_
                refine pm_iloadi hG dX12_person_131 rfl ?_
                refine pm_iconst (v := nI 0) hG dX12_person_133 (by decide) ?_
                refine pm_callV (As := [.int (nI k398), .int (nI 1), .int (nI 0)]) (rest := []) hG hR dX12_person_134 (lkX12_97 _ rfl) okV_X12_sets rfl rfl (m_sets (d := 2) (e := 14 * k398 + 111) (by omega) (by omega) (by omega)) rfl rfl hdd (Nat.le_refl _) (Nat.le_refl _) (by decide) (pm_kv (fun σ' cnt' hq => ?_))
                obtain ⟨rfl, rfl⟩ := hq
                obtain ⟨n_409, en_409⟩ : ∃ f : Nat → Int32, f = upd n_404 (14 * k398 + 111) (nI 0) := ⟨_, rfl⟩
                rw [← en_409]
                have hnn_409 := KI.w en_409 hnn_404 (okv_f (show kd (14 * k398 + 111) = (0, 0, false) from (kd_P (k := k398) (c := 1) (by omega) (by omega) (by decide))))
                have hrn_409 := NRx.w en_409 hrn_404 (by rw [(show kd (14 * k398 + 111) = (0, 0, false) from (kd_P (k := k398) (c := 1) (by omega) (by omega) (by decide)))])
                have e410 : n_409 8 = nI kc8 := by rw [en_409, pk_un (by omega)]; exact e405
                have e411 : n_409 0 = nI k394 := by rw [en_409, pk_un (by omega)]; exact e406
                have e412 : n_409 2 = nI (k398 + 1) := by rw [en_409, pk_un (by omega)]; exact e407
                have e413 : n_409 (14 * k398 + 111) = nI 0 := by rw [en_409, pk_us]
                refine pm_iincX (v := nI 2) (loc' := [some (.ref (B + 54)), some (.int za), some (.int zb), some (.int zc), some (.int zd), some (.int (nI 1)), some (.int (nI k398)), some (.int (nI 2))]) hG dX12_person_137 rfl (nI_1 _) (by decide) (pm_c1b rfl) rfl ?_
                refine pm_goto (tgt := 121) hG dX12_person_140 rfl ?_
                refine pm_iloadi hG dX12_person_121 rfl ?_
                refine pm_bipush (v := nI 14) hG dX12_person_123 (by decide) ?_
                refine pm_icmpN_ge (tgt := 143) hG dX12_person_125 rfl (by omega) (by omega) (fun q => absurd q (by omega)) (fun _ => ?_)
                refine pm_aloadn hG dX12_person_128 rfl ?_
                refine pm_iloadi hG dX12_person_129 rfl ?_
                refine pm_iloadi hG dX12_person_131 rfl ?_
                refine pm_iconst (v := nI 0) hG dX12_person_133 (by decide) ?_
                refine pm_callV (As := [.int (nI k398), .int (nI 2), .int (nI 0)]) (rest := []) hG hR dX12_person_134 (lkX12_97 _ rfl) okV_X12_sets rfl rfl (m_sets (d := 2) (e := 14 * k398 + 112) (by omega) (by omega) (by omega)) rfl rfl hdd (Nat.le_refl _) (Nat.le_refl _) (by decide) (pm_kv (fun σ' cnt' hq => ?_))
                obtain ⟨rfl, rfl⟩ := hq
                obtain ⟨n_414, en_414⟩ : ∃ f : Nat → Int32, f = upd n_409 (14 * k398 + 112) (nI 0) := ⟨_, rfl⟩
                rw [← en_414]
                have hnn_414 := KI.w en_414 hnn_409 (okv_o (show kd (14 * k398 + 112) = (2, 20, false) from (kd_P (k := k398) (c := 2) (by omega) (by omega) (by decide))) (by omega))
                have hrn_414 := NRx.w en_414 hrn_409 (by rw [(show kd (14 * k398 + 112) = (2, 20, false) from (kd_P (k := k398) (c := 2) (by omega) (by omega) (by decide)))])
                have e415 : n_414 8 = nI kc8 := by rw [en_414, pk_un (by omega)]; exact e410
                have e416 : n_414 0 = nI k394 := by rw [en_414, pk_un (by omega)]; exact e411
                have e417 : n_414 2 = nI (k398 + 1) := by rw [en_414, pk_un (by omega)]; exact e412
                have e418 : n_414 (14 * k398 + 112) = nI 0 := by rw [en_414, pk_us]
                refine pm_iincX (v := nI 3) (loc' := [some (.ref (B + 54)), some (.int za), some (.int zb), some (.int zc), some (.int zd), some (.int (nI 1)), some (.int (nI k398)), some (.int (nI 3))]) hG dX12_person_137 rfl (nI_1 _) (by decide) (pm_c1b rfl) rfl ?_
                refine pm_goto (tgt := 121) hG dX12_person_140 rfl ?_
                refine pm_iloadi hG dX12_person_121 rfl ?_
                refine pm_bipush (v := nI 14) hG dX12_person_123 (by decide) ?_
                refine pm_icmpN_ge (tgt := 143) hG dX12_person_125 rfl (by omega) (by omega) (fun q => absurd q (by omega)) (fun _ => ?_)
                refine pm_aloadn hG dX12_person_128 rfl ?_
                refine pm_iloadi hG dX12_person_129 rfl ?_
                refine pm_iloadi hG dX12_person_131 rfl ?_
                refine pm_iconst (v := nI 0) hG dX12_person_133 (by decide) ?_
                refine pm_callV (As := [.int (nI k398), .int (nI 3), .int (nI 0)]) (rest := []) hG hR dX12_person_134 (lkX12_97 _ rfl) okV_X12_sets rfl rfl (m_sets (d := 2) (e := 14 * k398 + 113) (by omega) (by omega) (by omega)) rfl rfl hdd (Nat.le_refl _) (Nat.le_refl _) (by decide) (pm_kv (fun σ' cnt' hq => ?_))
                obtain ⟨rfl, rfl⟩ := hq
                obtain ⟨n_419, en_419⟩ : ∃ f : Nat → Int32, f = upd n_414 (14 * k398 + 113) (nI 0) := ⟨_, rfl⟩
                rw [← en_419]
                have hnn_419 := KI.w en_419 hnn_414 (okv_o (show kd (14 * k398 + 113) = (2, 20, false) from (kd_P (k := k398) (c := 3) (by omega) (by omega) (by decide))) (by omega))
                have hrn_419 := NRx.w en_419 hrn_414 (by rw [(show kd (14 * k398 + 113) = (2, 20, false) from (kd_P (k := k398) (c := 3) (by omega) (by omega) (by decide)))])
                have e420 : n_419 8 = nI kc8 := by rw [en_419, pk_un (by omega)]; exact e415
                have e421 : n_419 0 = nI k394 := by rw [en_419, pk_un (by omega)]; exact e416
                have e422 : n_419 2 = nI (k398 + 1) := by rw [en_419, pk_un (by omega)]; exact e417
                have e423 : n_419 (14 * k398 + 113) = nI 0 := by rw [en_419, pk_us]
                refine pm_iincX (v := nI 4) (loc' := [some (.ref (B + 54)), some (.int za), some (.int zb), some (.int zc), some (.int zd), some (.int (nI 1)), some (.int (nI k398)), some (.int (nI 4))]) hG dX12_person_137 rfl (nI_1 _) (by decide) (pm_c1b rfl) rfl ?_
                refine pm_goto (tgt := 121) hG dX12_person_140 rfl ?_
                refine pm_iloadi hG dX12_person_121 rfl ?_
                refine pm_bipush (v := nI 14) hG dX12_person_123 (by decide) ?_
                refine pm_icmpN_ge (tgt := 143) hG dX12_person_125 rfl (by omega) (by omega) (fun q => absurd q (by omega)) (fun _ => ?_)
                refine pm_aloadn hG dX12_person_128 rfl ?_
                refine pm_iloadi hG dX12_person_129 rfl ?_
                refine pm_iloadi hG dX12_person_131 rfl ?_
                refine pm_iconst (v := nI 0) hG dX12_person_133 (by decide) ?_
                refine pm_callV (As := [.int (nI k398), .int (nI 4), .int (nI 0)]) (rest := []) hG hR dX12_person_134 (lkX12_97 _ rfl) okV_X12_sets rfl rfl (m_sets (d := 2) (e := 14 * k398 + 114) (by omega) (by omega) (by omega)) rfl rfl hdd (Nat.le_refl _) (Nat.le_refl _) (by decide) (pm_kv (fun σ' cnt' hq => ?_))
                obtain ⟨rfl, rfl⟩ := hq
                obtain ⟨n_424, en_424⟩ : ∃ f : Nat → Int32, f = upd n_419 (14 * k398 + 114) (nI 0) := ⟨_, rfl⟩
                rw [← en_424]
                have hnn_424 := KI.w en_424 hnn_419 (okv_o (show kd (14 * k398 + 114) = (2, 10, false) from (kd_P (k := k398) (c := 4) (by omega) (by omega) (by decide))) (by omega))
                have hrn_424 := NRx.w en_424 hrn_419 (by rw [(show kd (14 * k398 + 114) = (2, 10, false) from (kd_P (k := k398) (c := 4) (by omega) (by omega) (by decide)))])
                have e425 : n_424 8 = nI kc8 := by rw [en_424, pk_un (by omega)]; exact e420
                have e426 : n_424 0 = nI k394 := by rw [en_424, pk_un (by omega)]; exact e421
                have e427 : n_424 2 = nI (k398 + 1) := by rw [en_424, pk_un (by omega)]; exact e422
                have e428 : n_424 (14 * k398 + 114) = nI 0 := by rw [en_424, pk_us]
                refine pm_iincX (v := nI 5) (loc' := [some (.ref (B + 54)), some (.int za), some (.int zb), some (.int zc), some (.int zd), some (.int (nI 1)), some (.int (nI k398)), some (.int (nI 5))]) hG dX12_person_137 rfl (nI_1 _) (by decide) (pm_c1b rfl) rfl ?_
                refine pm_goto (tgt := 121) hG dX12_person_140 rfl ?_
                refine pm_iloadi hG dX12_person_121 rfl ?_
                refine pm_bipush (v := nI 14) hG dX12_person_123 (by decide) ?_
                refine pm_icmpN_ge (tgt := 143) hG dX12_person_125 rfl (by omega) (by omega) (fun q => absurd q (by omega)) (fun _ => ?_)
                refine pm_aloadn hG dX12_person_128 rfl ?_
                refine pm_iloadi hG dX12_person_129 rfl ?_
                refine pm_iloadi hG dX12_person_131 rfl ?_
                refine pm_iconst (v := nI 0) hG dX12_person_133 (by decide) ?_
                refine pm_callV (As := [.int (nI k398), .int (nI 5), .int (nI 0)]) (rest := []) hG hR dX12_person_134 (lkX12_97 _ rfl) okV_X12_sets rfl rfl (m_sets (d := 2) (e := 14 * k398 + 115) (by omega) (by omega) (by omega)) rfl rfl hdd (Nat.le_refl _) (Nat.le_refl _) (by decide) (pm_kv (fun σ' cnt' hq => ?_))
                obtain ⟨rfl, rfl⟩ := hq
                obtain ⟨n_429, en_429⟩ : ∃ f : Nat → Int32, f = upd n_424 (14 * k398 + 115) (nI 0) := ⟨_, rfl⟩
                rw [← en_429]
                have hnn_429 := KI.w en_429 hnn_424 (okv_n (show kd (14 * k398 + 115) = (1, 10, false) from (kd_P (k := k398) (c := 5) (by omega) (by omega) (by decide))) (by omega))
                have hrn_429 := NRx.w en_429 hrn_424 (by rw [(show kd (14 * k398 + 115) = (1, 10, false) from (kd_P (k := k398) (c := 5) (by omega) (by omega) (by decide)))])
                have e430 : n_429 8 = nI kc8 := by rw [en_429, pk_un (by omega)]; exact e425
                have e431 : n_429 0 = nI k394 := by rw [en_429, pk_un (by omega)]; exact e426
                have e432 : n_429 2 = nI (k398 + 1) := by rw [en_429, pk_un (by omega)]; exact e427
                have e433 : n_429 (14 * k398 + 115) = nI 0 := by rw [en_429, pk_us]
                refine pm_iincX (v := nI 6) (loc' := [some (.ref (B + 54)), some (.int za), some (.int zb), some (.int zc), some (.int zd), some (.int (nI 1)), some (.int (nI k398)), some (.int (nI 6))]) hG dX12_person_137 rfl (nI_1 _) (by decide) (pm_c1b rfl) rfl ?_
                refine pm_goto (tgt := 121) hG dX12_person_140 rfl ?_
                refine pm_iloadi hG dX12_person_121 rfl ?_
                refine pm_bipush (v := nI 14) hG dX12_person_123 (by decide) ?_
                refine pm_icmpN_ge (tgt := 143) hG dX12_person_125 rfl (by omega) (by omega) (fun q => absurd q (by omega)) (fun _ => ?_)
                refine pm_aloadn hG dX12_person_128 rfl ?_
                refine pm_iloadi hG dX12_person_129 rfl ?_
                refine pm_iloadi hG dX12_person_131 rfl ?_
                refine pm_iconst (v := nI 0) hG dX12_person_133 (by decide) ?_
                refine pm_callV (As := [.int (nI k398), .int (nI 6), .int (nI 0)]) (rest := []) hG hR dX12_person_134 (lkX12_97 _ rfl) okV_X12_sets rfl rfl (m_sets (d := 2) (e := 14 * k398 + 116) (by omega) (by omega) (by omega)) rfl rfl hdd (Nat.le_refl _) (Nat.le_refl _) (by decide) (pm_kv (fun σ' cnt' hq => ?_))
                obtain ⟨rfl, rfl⟩ := hq
                obtain ⟨n_434, en_434⟩ : ∃ f : Nat → Int32, f = upd n_429 (14 * k398 + 116) (nI 0) := ⟨_, rfl⟩
                rw [← en_434]
                have hnn_434 := KI.w en_434 hnn_429 (okv_f (show kd (14 * k398 + 116) = (0, 0, false) from (kd_P (k := k398) (c := 6) (by omega) (by omega) (by decide))))
                have hrn_434 := NRx.w en_434 hrn_429 (by rw [(show kd (14 * k398 + 116) = (0, 0, false) from (kd_P (k := k398) (c := 6) (by omega) (by omega) (by decide)))])
                have e435 : n_434 8 = nI kc8 := by rw [en_434, pk_un (by omega)]; exact e430
                have e436 : n_434 0 = nI k394 := by rw [en_434, pk_un (by omega)]; exact e431
                have e437 : n_434 2 = nI (k398 + 1) := by rw [en_434, pk_un (by omega)]; exact e432
                have e438 : n_434 (14 * k398 + 116) = nI 0 := by rw [en_434, pk_us]
                refine pm_iincX (v := nI 7) (loc' := [some (.ref (B + 54)), some (.int za), some (.int zb), some (.int zc), some (.int zd), some (.int (nI 1)), some (.int (nI k398)), some (.int (nI 7))]) hG dX12_person_137 rfl (nI_1 _) (by decide) (pm_c1b rfl) rfl ?_
                refine pm_goto (tgt := 121) hG dX12_person_140 rfl ?_
                refine pm_iloadi hG dX12_person_121 rfl ?_
                refine pm_bipush (v := nI 14) hG dX12_person_123 (by decide) ?_
                refine pm_icmpN_ge (tgt := 143) hG dX12_person_125 rfl (by omega) (by omega) (fun q => absurd q (by omega)) (fun _ => ?_)
                refine pm_aloadn hG dX12_person_128 rfl ?_
                refine pm_iloadi hG dX12_person_129 rfl ?_
                refine pm_iloadi hG dX12_person_131 rfl ?_
                refine pm_iconst (v := nI 0) hG dX12_person_133 (by decide) ?_
                refine pm_callV (As := [.int (nI k398), .int (nI 7), .int (nI 0)]) (rest := []) hG hR dX12_person_134 (lkX12_97 _ rfl) okV_X12_sets rfl rfl (m_sets (d := 2) (e := 14 * k398 + 117) (by omega) (by omega) (by omega)) rfl rfl hdd (Nat.le_refl _) (Nat.le_refl _) (by decide) (pm_kv (fun σ' cnt' hq => ?_))
                obtain ⟨rfl, rfl⟩ := hq
                obtain ⟨n_439, en_439⟩ : ∃ f : Nat → Int32, f = upd n_434 (14 * k398 + 117) (nI 0) := ⟨_, rfl⟩
                rw [← en_439]
                have hnn_439 := KI.w en_439 hnn_434 (okv_f (show kd (14 * k398 + 117) = (0, 0, false) from (kd_P (k := k398) (c := 7) (by omega) (by omega) (by decide))))
                have hrn_439 := NRx.w en_439 hrn_434 (by rw [(show kd (14 * k398 + 117) = (0, 0, false) from (kd_P (k := k398) (c := 7) (by omega) (by omega) (by decide)))])
                have e440 : n_439 8 = nI kc8 := by rw [en_439, pk_un (by omega)]; exact e435
                have e441 : n_439 0 = nI k394 := by rw [en_439, pk_un (by omega)]; exact e436
                have e442 : n_439 2 = nI (k398 + 1) := by rw [en_439, pk_un (by omega)]; exact e437
                have e443 : n_439 (14 * k398 + 117) = nI 0 := by rw [en_439, pk_us]
                refine pm_iincX (v := nI 8) (loc' := [some (.ref (B + 54)), some (.int za), some (.int zb), some (.int zc), some (.int zd), some (.int (nI 1)), some (.int (nI k398)), some (.int (nI 8))]) hG dX12_person_137 rfl (nI_1 _) (by decide) (pm_c1b rfl) rfl ?_
                refine pm_goto (tgt := 121) hG dX12_person_140 rfl ?_
                refine pm_iloadi hG dX12_person_121 rfl ?_
                refine pm_bipush (v := nI 14) hG dX12_person_123 (by decide) ?_
                refine pm_icmpN_ge (tgt := 143) hG dX12_person_125 rfl (by omega) (by omega) (fun q => absurd q (by omega)) (fun _ => ?_)
                refine pm_aloadn hG dX12_person_128 rfl ?_
                refine pm_iloadi hG dX12_person_129 rfl ?_
                refine pm_iloadi hG dX12_person_131 rfl ?_
                refine pm_iconst (v := nI 0) hG dX12_person_133 (by decide) ?_
                refine pm_callV (As := [.int (nI k398), .int (nI 8), .int (nI 0)]) (rest := []) hG hR dX12_person_134 (lkX12_97 _ rfl) okV_X12_sets rfl rfl (m_sets (d := 2) (e := 14 * k398 + 118) (by omega) (by omega) (by omega)) rfl rfl hdd (Nat.le_refl _) (Nat.le_refl _) (by decide) (pm_kv (fun σ' cnt' hq => ?_))
                obtain ⟨rfl, rfl⟩ := hq
                obtain ⟨n_444, en_444⟩ : ∃ f : Nat → Int32, f = upd n_439 (14 * k398 + 118) (nI 0) := ⟨_, rfl⟩
                rw [← en_444]
                have hnn_444 := KI.w en_444 hnn_439 (okv_f (show kd (14 * k398 + 118) = (0, 0, false) from (kd_P (k := k398) (c := 8) (by omega) (by omega) (by decide))))
                have hrn_444 := NRx.w en_444 hrn_439 (by rw [(show kd (14 * k398 + 118) = (0, 0, false) from (kd_P (k := k398) (c := 8) (by omega) (by omega) (by decide)))])
                have e445 : n_444 8 = nI kc8 := by rw [en_444, pk_un (by omega)]; exact e440
                have e446 : n_444 0 = nI k394 := by rw [en_444, pk_un (by omega)]; exact e441
                have e447 : n_444 2 = nI (k398 + 1) := by rw [en_444, pk_un (by omega)]; exact e442
                have e448 : n_444 (14 * k398 + 118) = nI 0 := by rw [en_444, pk_us]
                refine pm_iincX (v := nI 9) (loc' := [some (.ref (B + 54)), some (.int za), some (.int zb), some (.int zc), some (.int zd), some (.int (nI 1)), some (.int (nI k398)), some (.int (nI 9))]) hG dX12_person_137 rfl (nI_1 _) (by decide) (pm_c1b rfl) rfl ?_
                refine pm_goto (tgt := 121) hG dX12_person_140 rfl ?_
                refine pm_iloadi hG dX12_person_121 rfl ?_
                refine pm_bipush (v := nI 14) hG dX12_person_123 (by decide) ?_
                refine pm_icmpN_ge (tgt := 143) hG dX12_person_125 rfl (by omega) (by omega) (fun q => absurd q (by omega)) (fun _ => ?_)
                refine pm_aloadn hG dX12_person_128 rfl ?_
                refine pm_iloadi hG dX12_person_129 rfl ?_
                refine pm_iloadi hG dX12_person_131 rfl ?_
                refine pm_iconst (v := nI 0) hG dX12_person_133 (by decide) ?_
                refine pm_callV (As := [.int (nI k398), .int (nI 9), .int (nI 0)]) (rest := []) hG hR dX12_person_134 (lkX12_97 _ rfl) okV_X12_sets rfl rfl (m_sets (d := 2) (e := 14 * k398 + 119) (by omega) (by omega) (by omega)) rfl rfl hdd (Nat.le_refl _) (Nat.le_refl _) (by decide) (pm_kv (fun σ' cnt' hq => ?_))
                obtain ⟨rfl, rfl⟩ := hq
                obtain ⟨n_449, en_449⟩ : ∃ f : Nat → Int32, f = upd n_444 (14 * k398 + 119) (nI 0) := ⟨_, rfl⟩
                rw [← en_449]
                have hnn_449 := KI.w en_449 hnn_444 (okv_o (show kd (14 * k398 + 119) = (2, 2001, false) from (kd_P (k := k398) (c := 9) (by omega) (by omega) (by decide))) (by omega))
                have hrn_449 := NRx.w en_449 hrn_444 (by rw [(show kd (14 * k398 + 119) = (2, 2001, false) from (kd_P (k := k398) (c := 9) (by omega) (by omega) (by decide)))])
                have e450 : n_449 8 = nI kc8 := by rw [en_449, pk_un (by omega)]; exact e445
                have e451 : n_449 0 = nI k394 := by rw [en_449, pk_un (by omega)]; exact e446
                have e452 : n_449 2 = nI (k398 + 1) := by rw [en_449, pk_un (by omega)]; exact e447
                have e453 : n_449 (14 * k398 + 119) = nI 0 := by rw [en_449, pk_us]
                refine pm_iincX (v := nI 10) (loc' := [some (.ref (B + 54)), some (.int za), some (.int zb), some (.int zc), some (.int zd), some (.int (nI 1)), some (.int (nI k398)), some (.int (nI 10))]) hG dX12_person_137 rfl (nI_1 _) (by decide) (pm_c1b rfl) rfl ?_
                refine pm_goto (tgt := 121) hG dX12_person_140 rfl ?_
                refine pm_iloadi hG dX12_person_121 rfl ?_
                refine pm_bipush (v := nI 14) hG dX12_person_123 (by decide) ?_
                refine pm_icmpN_ge (tgt := 143) hG dX12_person_125 rfl (by omega) (by omega) (fun q => absurd q (by omega)) (fun _ => ?_)
                refine pm_aloadn hG dX12_person_128 rfl ?_
                refine pm_iloadi hG dX12_person_129 rfl ?_
                refine pm_iloadi hG dX12_person_131 rfl ?_
                refine pm_iconst (v := nI 0) hG dX12_person_133 (by decide) ?_
                refine pm_callV (As := [.int (nI k398), .int (nI 10), .int (nI 0)]) (rest := []) hG hR dX12_person_134 (lkX12_97 _ rfl) okV_X12_sets rfl rfl (m_sets (d := 2) (e := 14 * k398 + 120) (by omega) (by omega) (by omega)) rfl rfl hdd (Nat.le_refl _) (Nat.le_refl _) (by decide) (pm_kv (fun σ' cnt' hq => ?_))
                obtain ⟨rfl, rfl⟩ := hq
                obtain ⟨n_454, en_454⟩ : ∃ f : Nat → Int32, f = upd n_449 (14 * k398 + 120) (nI 0) := ⟨_, rfl⟩
                rw [← en_454]
                have hnn_454 := KI.w en_454 hnn_449 (okv_f (show kd (14 * k398 + 120) = (0, 0, false) from (kd_P (k := k398) (c := 10) (by omega) (by omega) (by decide))))
                have hrn_454 := NRx.w en_454 hrn_449 (by rw [(show kd (14 * k398 + 120) = (0, 0, false) from (kd_P (k := k398) (c := 10) (by omega) (by omega) (by decide)))])
                have e455 : n_454 8 = nI kc8 := by rw [en_454, pk_un (by omega)]; exact e450
                have e456 : n_454 0 = nI k394 := by rw [en_454, pk_un (by omega)]; exact e451
                have e457 : n_454 2 = nI (k398 + 1) := by rw [en_454, pk_un (by omega)]; exact e452
                have e458 : n_454 (14 * k398 + 120) = nI 0 := by rw [en_454, pk_us]
                refine pm_iincX (v := nI 11) (loc' := [some (.ref (B + 54)), some (.int za), some (.int zb), some (.int zc), some (.int zd), some (.int (nI 1)), some (.int (nI k398)), some (.int (nI 11))]) hG dX12_person_137 rfl (nI_1 _) (by decide) (pm_c1b rfl) rfl ?_
                refine pm_goto (tgt := 121) hG dX12_person_140 rfl ?_
                refine pm_iloadi hG dX12_person_121 rfl ?_
                refine pm_bipush (v := nI 14) hG dX12_person_123 (by decide) ?_
                refine pm_icmpN_ge (tgt := 143) hG dX12_person_125 rfl (by omega) (by omega) (fun q => absurd q (by omega)) (fun _ => ?_)
                refine pm_aloadn hG dX12_person_128 rfl ?_
                refine pm_iloadi hG dX12_person_129 rfl ?_
                refine pm_iloadi hG dX12_person_131 rfl ?_
                refine pm_iconst (v := nI 0) hG dX12_person_133 (by decide) ?_
                refine pm_callV (As := [.int (nI k398), .int (nI 11), .int (nI 0)]) (rest := []) hG hR dX12_person_134 (lkX12_97 _ rfl) okV_X12_sets rfl rfl (m_sets (d := 2) (e := 14 * k398 + 121) (by omega) (by omega) (by omega)) rfl rfl hdd (Nat.le_refl _) (Nat.le_refl _) (by decide) (pm_kv (fun σ' cnt' hq => ?_))
                obtain ⟨rfl, rfl⟩ := hq
                obtain ⟨n_459, en_459⟩ : ∃ f : Nat → Int32, f = upd n_454 (14 * k398 + 121) (nI 0) := ⟨_, rfl⟩
                rw [← en_459]
                have hnn_459 := KI.w en_459 hnn_454 (okv_n (show kd (14 * k398 + 121) = (1, 2, true) from (kd_P (k := k398) (c := 11) (by omega) (by omega) (by decide))) (by omega))
                have hrn_459 := NRx.unseat (p := k398) en_459 hrn_454 (by omega)
                have e460 : n_459 8 = nI kc8 := by rw [en_459, pk_un (by omega)]; exact e455
                have e461 : n_459 0 = nI k394 := by rw [en_459, pk_un (by omega)]; exact e456
                have e462 : n_459 2 = nI (k398 + 1) := by rw [en_459, pk_un (by omega)]; exact e457
                have e463 : n_459 (14 * k398 + 121) = nI 0 := by rw [en_459, pk_us]
                refine pm_iincX (v := nI 12) (loc' := [some (.ref (B + 54)), some (.int za), some (.int zb), some (.int zc), some (.int zd), some (.int (nI 1)), some (.int (nI k398)), some (.int (nI 12))]) hG dX12_person_137 rfl (nI_1 _) (by decide) (pm_c1b rfl) rfl ?_
                refine pm_goto (tgt := 121) hG dX12_person_140 rfl ?_
                refine pm_iloadi hG dX12_person_121 rfl ?_
                refine pm_bipush (v := nI 14) hG dX12_person_123 (by decide) ?_
                refine pm_icmpN_ge (tgt := 143) hG dX12_person_125 rfl (by omega) (by omega) (fun q => absurd q (by omega)) (fun _ => ?_)
                refine pm_aloadn hG dX12_person_128 rfl ?_
                refine pm_iloadi hG dX12_person_129 rfl ?_
                refine pm_iloadi hG dX12_person_131 rfl ?_
                refine pm_iconst (v := nI 0) hG dX12_person_133 (by decide) ?_
                refine pm_callV (As := [.int (nI k398), .int (nI 12), .int (nI 0)]) (rest := []) hG hR dX12_person_134 (lkX12_97 _ rfl) okV_X12_sets rfl rfl (m_sets (d := 2) (e := 14 * k398 + 122) (by omega) (by omega) (by omega)) rfl rfl hdd (Nat.le_refl _) (Nat.le_refl _) (by decide) (pm_kv (fun σ' cnt' hq => ?_))
                obtain ⟨rfl, rfl⟩ := hq
                obtain ⟨n_464, en_464⟩ : ∃ f : Nat → Int32, f = upd n_459 (14 * k398 + 122) (nI 0) := ⟨_, rfl⟩
                rw [← en_464]
                have hnn_464 := KI.w en_464 hnn_459 (okv_f (show kd (14 * k398 + 122) = (0, 0, false) from (kd_P (k := k398) (c := 12) (by omega) (by omega) (by decide))))
                have hrn_464 := NRx.w en_464 hrn_459 (by rw [(show kd (14 * k398 + 122) = (0, 0, false) from (kd_P (k := k398) (c := 12) (by omega) (by omega) (by decide)))])
                have e465 : n_464 8 = nI kc8 := by rw [en_464, pk_un (by omega)]; exact e460
                have e466 : n_464 0 = nI k394 := by rw [en_464, pk_un (by omega)]; exact e461
                have e467 : n_464 2 = nI (k398 + 1) := by rw [en_464, pk_un (by omega)]; exact e462
                have e468 : n_464 (14 * k398 + 122) = nI 0 := by rw [en_464, pk_us]
                refine pm_iincX (v := nI 13) (loc' := [some (.ref (B + 54)), some (.int za), some (.int zb), some (.int zc), some (.int zd), some (.int (nI 1)), some (.int (nI k398)), some (.int (nI 13))]) hG dX12_person_137 rfl (nI_1 _) (by decide) (pm_c1b rfl) rfl ?_
                refine pm_goto (tgt := 121) hG dX12_person_140 rfl ?_
                refine pm_iloadi hG dX12_person_121 rfl ?_
                refine pm_bipush (v := nI 14) hG dX12_person_123 (by decide) ?_
                refine pm_icmpN_ge (tgt := 143) hG dX12_person_125 rfl (by omega) (by omega) (fun q => absurd q (by omega)) (fun _ => ?_)
                refine pm_aloadn hG dX12_person_128 rfl ?_
                refine pm_iloadi hG dX12_person_129 rfl ?_
                refine pm_iloadi hG dX12_person_131 rfl ?_
                refine pm_iconst (v := nI 0) hG dX12_person_133 (by decide) ?_
                refine pm_callV (As := [.int (nI k398), .int (nI 13), .int (nI 0)]) (rest := []) hG hR dX12_person_134 (lkX12_97 _ rfl) okV_X12_sets rfl rfl (m_sets (d := 2) (e := 14 * k398 + 123) (by omega) (by omega) (by omega)) rfl rfl hdd (Nat.le_refl _) (Nat.le_refl _) (by decide) (pm_kv (fun σ' cnt' hq => ?_))
                obtain ⟨rfl, rfl⟩ := hq
                obtain ⟨n_469, en_469⟩ : ∃ f : Nat → Int32, f = upd n_464 (14 * k398 + 123) (nI 0) := ⟨_, rfl⟩
                rw [← en_469]
                have hnn_469 := KI.w en_469 hnn_464 (okv_f (show kd (14 * k398 + 123) = (0, 0, false) from (kd_P (k := k398) (c := 13) (by omega) (by omega) (by decide))))
                have hrn_469 := NRx.w en_469 hrn_464 (by rw [(show kd (14 * k398 + 123) = (0, 0, false) from (kd_P (k := k398) (c := 13) (by omega) (by omega) (by decide)))])
                have e470 : n_469 8 = nI kc8 := by rw [en_469, pk_un (by omega)]; exact e465
                have e471 : n_469 0 = nI k394 := by rw [en_469, pk_un (by omega)]; exact e466
                have e472 : n_469 2 = nI (k398 + 1) := by rw [en_469, pk_un (by omega)]; exact e467
                have e473 : n_469 (14 * k398 + 123) = nI 0 := by rw [en_469, pk_us]
                refine pm_iincX (v := nI 14) (loc' := [some (.ref (B + 54)), some (.int za), some (.int zb), some (.int zc), some (.int zd), some (.int (nI 1)), some (.int (nI k398)), some (.int (nI 14))]) hG dX12_person_137 rfl (nI_1 _) (by decide) (pm_c1b rfl) rfl ?_
                refine pm_goto (tgt := 121) hG dX12_person_140 rfl ?_
                refine pm_iloadi hG dX12_person_121 rfl ?_
                refine pm_bipush (v := nI 14) hG dX12_person_123 (by decide) ?_
                refine pm_icmpN_ge (tgt := 143) hG dX12_person_125 rfl (by omega) (by omega) (fun _ => ?_) (fun q => absurd q (by omega))
                refine pm_aloadn hG dX12_person_143 rfl ?_
                refine pm_iloadi hG dX12_person_144 rfl ?_
                refine pm_iconst (v := nI 0) hG dX12_person_146 (by decide) ?_
                refine pm_iloadn hG dX12_person_147 rfl ?_
                refine pm_top (v := nI k3) ek3 ?_
                refine pm_callV (As := [.int (nI k398), .int (nI 0), .int (nI k3)]) (rest := []) hG hR dX12_person_148 (lkX12_97 _ rfl) okV_X12_sets rfl rfl (m_sets (d := 2) (e := 14 * k398 + 110) (by omega) (by omega) (by omega)) rfl rfl hdd (Nat.le_refl _) (Nat.le_refl _) (by decide) (pm_kv (fun σ' cnt' hq => ?_))
                obtain ⟨rfl, rfl⟩ := hq
                obtain ⟨n_474, en_474⟩ : ∃ f : Nat → Int32, f = upd n_469 (14 * k398 + 110) (nI k3) := ⟨_, rfl⟩
                rw [← en_474]
                have hnn_474 := KI.w en_474 hnn_469 (okv_f (show kd (14 * k398 + 110) = (0, 0, false) from (kd_P (k := k398) (c := 0) (by omega) (by omega) (by decide))))
                have hrn_474 := NRx.w en_474 hrn_469 (by rw [(show kd (14 * k398 + 110) = (0, 0, false) from (kd_P (k := k398) (c := 0) (by omega) (by omega) (by decide)))])
                have e475 : n_474 8 = nI kc8 := by rw [en_474, pk_un (by omega)]; exact e470
                have e476 : n_474 0 = nI k394 := by rw [en_474, pk_un (by omega)]; exact e471
                have e477 : n_474 2 = nI (k398 + 1) := by rw [en_474, pk_un (by omega)]; exact e472
                have e478 : n_474 (14 * k398 + 110) = nI k3 := by rw [en_474, pk_us]
                refine pm_aloadn hG dX12_person_151 rfl ?_
                refine pm_iloadi hG dX12_person_152 rfl ?_
                refine pm_iconst (v := nI 1) hG dX12_person_154 (by decide) ?_
                refine pm_iloadn hG dX12_person_155 rfl ?_
                refine pm_callV (As := [.int (nI k398), .int (nI 1), .int zb]) (rest := []) hG hR dX12_person_156 (lkX12_97 _ rfl) okV_X12_sets rfl rfl (m_sets (d := 2) (e := 14 * k398 + 111) (by omega) (by omega) (by omega)) rfl rfl hdd (Nat.le_refl _) (Nat.le_refl _) (by decide) (pm_kv (fun σ' cnt' hq => ?_))
                obtain ⟨rfl, rfl⟩ := hq
                obtain ⟨n_479, en_479⟩ : ∃ f : Nat → Int32, f = upd n_474 (14 * k398 + 111) zb := ⟨_, rfl⟩
                rw [← en_479]
                have hnn_479 := KI.w en_479 hnn_474 (okv_f (show kd (14 * k398 + 111) = (0, 0, false) from (kd_P (k := k398) (c := 1) (by omega) (by omega) (by decide))))
                have hrn_479 := NRx.w en_479 hrn_474 (by rw [(show kd (14 * k398 + 111) = (0, 0, false) from (kd_P (k := k398) (c := 1) (by omega) (by omega) (by decide)))])
                have e480 : n_479 8 = nI kc8 := by rw [en_479, pk_un (by omega)]; exact e475
                have e481 : n_479 0 = nI k394 := by rw [en_479, pk_un (by omega)]; exact e476
                have e482 : n_479 2 = nI (k398 + 1) := by rw [en_479, pk_un (by omega)]; exact e477
                have e483 : n_479 (14 * k398 + 111) = zb := by rw [en_479, pk_us]
                refine pm_aloadn hG dX12_person_159 rfl ?_
                refine pm_iloadi hG dX12_person_160 rfl ?_
                refine pm_iconst (v := nI 2) hG dX12_person_162 (by decide) ?_
                refine pm_iloadn hG dX12_person_163 rfl ?_
                refine pm_top (v := nI k9) ek9 ?_
                refine pm_bipush (v := nI 100) hG dX12_person_164 (by decide) ?_
                refine pm_idivN hG dX12_person_166 (by omega) (by decide) (by decide) ?_
                refine pm_iconst (v := nI 1) hG dX12_person_167 (by decide) ?_
                refine pm_isub hG dX12_person_168 ?_
                refine pm_top (v := nI k11) ek11 ?_
                refine pm_callV (As := [.int (nI k398), .int (nI 2), .int (nI k11)]) (rest := []) hG hR dX12_person_169 (lkX12_97 _ rfl) okV_X12_sets rfl rfl (m_sets (d := 2) (e := 14 * k398 + 112) (by omega) (by omega) (by omega)) rfl rfl hdd (Nat.le_refl _) (Nat.le_refl _) (by decide) (pm_kv (fun σ' cnt' hq => ?_))
                obtain ⟨rfl, rfl⟩ := hq
                obtain ⟨n_484, en_484⟩ : ∃ f : Nat → Int32, f = upd n_479 (14 * k398 + 112) (nI k11) := ⟨_, rfl⟩
                rw [← en_484]
                have hnn_484 := KI.w en_484 hnn_479 (okv_o (show kd (14 * k398 + 112) = (2, 20, false) from (kd_P (k := k398) (c := 2) (by omega) (by omega) (by decide))) (by omega))
                have hrn_484 := NRx.w en_484 hrn_479 (by rw [(show kd (14 * k398 + 112) = (2, 20, false) from (kd_P (k := k398) (c := 2) (by omega) (by omega) (by decide)))])
                have e485 : n_484 8 = nI kc8 := by rw [en_484, pk_un (by omega)]; exact e480
                have e486 : n_484 0 = nI k394 := by rw [en_484, pk_un (by omega)]; exact e481
                have e487 : n_484 2 = nI (k398 + 1) := by rw [en_484, pk_un (by omega)]; exact e482
                have e488 : n_484 (14 * k398 + 112) = nI k11 := by rw [en_484, pk_us]
                refine pm_aloadn hG dX12_person_172 rfl ?_
                refine pm_iloadi hG dX12_person_173 rfl ?_
                refine pm_iconst (v := nI 3) hG dX12_person_175 (by decide) ?_
                refine pm_iloadn hG dX12_person_176 rfl ?_
                refine pm_top (v := nI k9) ek9 ?_
                refine pm_bipush (v := nI 100) hG dX12_person_177 (by decide) ?_
                refine pm_iremM hG dX12_person_179 (by omega) (by decide) (by decide) ?_
                refine pm_iconst (v := nI 1) hG dX12_person_180 (by decide) ?_
                refine pm_isub hG dX12_person_181 ?_
                refine pm_top (v := nI k267) ek267 ?_
                refine pm_callV (As := [.int (nI k398), .int (nI 3), .int (nI k267)]) (rest := []) hG hR dX12_person_182 (lkX12_97 _ rfl) okV_X12_sets rfl rfl (m_sets (d := 2) (e := 14 * k398 + 113) (by omega) (by omega) (by omega)) rfl rfl hdd (Nat.le_refl _) (Nat.le_refl _) (by decide) (pm_kv (fun σ' cnt' hq => ?_))
                obtain ⟨rfl, rfl⟩ := hq
                obtain ⟨n_489, en_489⟩ : ∃ f : Nat → Int32, f = upd n_484 (14 * k398 + 113) (nI k267) := ⟨_, rfl⟩
                rw [← en_489]
                have hnn_489 := KI.w en_489 hnn_484 (okv_o (show kd (14 * k398 + 113) = (2, 20, false) from (kd_P (k := k398) (c := 3) (by omega) (by omega) (by decide))) (by omega))
                have hrn_489 := NRx.w en_489 hrn_484 (by rw [(show kd (14 * k398 + 113) = (2, 20, false) from (kd_P (k := k398) (c := 3) (by omega) (by omega) (by decide)))])
                have e490 : n_489 8 = nI kc8 := by rw [en_489, pk_un (by omega)]; exact e485
                have e491 : n_489 0 = nI k394 := by rw [en_489, pk_un (by omega)]; exact e486
                have e492 : n_489 2 = nI (k398 + 1) := by rw [en_489, pk_un (by omega)]; exact e487
                have e493 : n_489 (14 * k398 + 113) = nI k267 := by rw [en_489, pk_us]
                refine pm_aloadn hG dX12_person_185 rfl ?_
                refine pm_iloadi hG dX12_person_186 rfl ?_
                refine pm_iconst (v := nI 4) hG dX12_person_188 (by decide) ?_
                refine pm_iloadi hG dX12_person_189 rfl ?_
                refine pm_top (v := nI k397) ek397 ?_
                refine pm_callV (As := [.int (nI k398), .int (nI 4), .int (nI k397)]) (rest := []) hG hR dX12_person_191 (lkX12_97 _ rfl) okV_X12_sets rfl rfl (m_sets (d := 2) (e := 14 * k398 + 114) (by omega) (by omega) (by omega)) rfl rfl hdd (Nat.le_refl _) (Nat.le_refl _) (by decide) (pm_kv (fun σ' cnt' hq => ?_))
                obtain ⟨rfl, rfl⟩ := hq
                obtain ⟨n_494, en_494⟩ : ∃ f : Nat → Int32, f = upd n_489 (14 * k398 + 114) (nI k397) := ⟨_, rfl⟩
                rw [← en_494]
                have hnn_494 := KI.w en_494 hnn_489 (okv_o (show kd (14 * k398 + 114) = (2, 10, false) from (kd_P (k := k398) (c := 4) (by omega) (by omega) (by decide))) (by omega))
                have hrn_494 := NRx.w en_494 hrn_489 (by rw [(show kd (14 * k398 + 114) = (2, 10, false) from (kd_P (k := k398) (c := 4) (by omega) (by omega) (by decide)))])
                have e495 : n_494 8 = nI kc8 := by rw [en_494, pk_un (by omega)]; exact e490
                have e496 : n_494 0 = nI k394 := by rw [en_494, pk_un (by omega)]; exact e491
                have e497 : n_494 2 = nI (k398 + 1) := by rw [en_494, pk_un (by omega)]; exact e492
                have e498 : n_494 (14 * k398 + 114) = nI k397 := by rw [en_494, pk_us]
                refine pm_aloadn hG dX12_person_194 rfl ?_
                refine pm_iloadi hG dX12_person_195 rfl ?_
                refine pm_bipush (v := nI 9) hG dX12_person_197 (by decide) ?_
                refine pm_iconst (v := (-1)) hG dX12_person_199 (by decide) ?_
                refine pm_callV (As := [.int (nI k398), .int (nI 9), .int (-1)]) (rest := []) hG hR dX12_person_200 (lkX12_97 _ rfl) okV_X12_sets rfl rfl (m_sets (d := 2) (e := 14 * k398 + 119) (by omega) (by omega) (by omega)) rfl rfl hdd (Nat.le_refl _) (Nat.le_refl _) (by decide) (pm_kv (fun σ' cnt' hq => ?_))
                obtain ⟨rfl, rfl⟩ := hq
                obtain ⟨n_499, en_499⟩ : ∃ f : Nat → Int32, f = upd n_494 (14 * k398 + 119) (-1) := ⟨_, rfl⟩
                rw [← en_499]
                have hnn_499 := KI.w en_499 hnn_494 (okv_m (show kd (14 * k398 + 119) = (2, 2001, false) from (kd_P (k := k398) (c := 9) (by omega) (by omega) (by decide))))
                have hrn_499 := NRx.w en_499 hrn_494 (by rw [(show kd (14 * k398 + 119) = (2, 2001, false) from (kd_P (k := k398) (c := 9) (by omega) (by omega) (by decide)))])
                have e500 : n_499 8 = nI kc8 := by rw [en_499, pk_un (by omega)]; exact e495
                have e501 : n_499 0 = nI k394 := by rw [en_499, pk_un (by omega)]; exact e496
                have e502 : n_499 2 = nI (k398 + 1) := by rw [en_499, pk_un (by omega)]; exact e497
                have e503 : n_499 (14 * k398 + 119) = (-1) := by rw [en_499, pk_us]
                refine pm_aloadn hG dX12_person_203 rfl ?_
                refine pm_iloadi hG dX12_person_204 rfl ?_
                refine pm_bipush (v := nI 10) hG dX12_person_206 (by decide) ?_
                refine pm_iconst (v := (-1)) hG dX12_person_208 (by decide) ?_
                refine pm_callV (As := [.int (nI k398), .int (nI 10), .int (-1)]) (rest := []) hG hR dX12_person_209 (lkX12_97 _ rfl) okV_X12_sets rfl rfl (m_sets (d := 2) (e := 14 * k398 + 120) (by omega) (by omega) (by omega)) rfl rfl hdd (Nat.le_refl _) (Nat.le_refl _) (by decide) (pm_kv (fun σ' cnt' hq => ?_))
                obtain ⟨rfl, rfl⟩ := hq
                obtain ⟨n_504, en_504⟩ : ∃ f : Nat → Int32, f = upd n_499 (14 * k398 + 120) (-1) := ⟨_, rfl⟩
                rw [← en_504]
                have hnn_504 := KI.w en_504 hnn_499 (okv_f (show kd (14 * k398 + 120) = (0, 0, false) from (kd_P (k := k398) (c := 10) (by omega) (by omega) (by decide))))
                have hrn_504 := NRx.w en_504 hrn_499 (by rw [(show kd (14 * k398 + 120) = (0, 0, false) from (kd_P (k := k398) (c := 10) (by omega) (by omega) (by decide)))])
                have e505 : n_504 8 = nI kc8 := by rw [en_504, pk_un (by omega)]; exact e500
                have e506 : n_504 0 = nI k394 := by rw [en_504, pk_un (by omega)]; exact e501
                have e507 : n_504 2 = nI (k398 + 1) := by rw [en_504, pk_un (by omega)]; exact e502
                have e508 : n_504 (14 * k398 + 120) = (-1) := by rw [en_504, pk_us]
                refine pm_aloadn hG dX12_person_212 rfl ?_
                refine pm_iloadi hG dX12_person_213 rfl ?_
                refine pm_bipush (v := nI 12) hG dX12_person_215 (by decide) ?_
                refine pm_iconst (v := nI 1) hG dX12_person_217 (by decide) ?_
                refine pm_callV (As := [.int (nI k398), .int (nI 12), .int (nI 1)]) (rest := []) hG hR dX12_person_218 (lkX12_97 _ rfl) okV_X12_sets rfl rfl (m_sets (d := 2) (e := 14 * k398 + 122) (by omega) (by omega) (by omega)) rfl rfl hdd (Nat.le_refl _) (Nat.le_refl _) (by decide) (pm_kv (fun σ' cnt' hq => ?_))
                obtain ⟨rfl, rfl⟩ := hq
                obtain ⟨n_509, en_509⟩ : ∃ f : Nat → Int32, f = upd n_504 (14 * k398 + 122) (nI 1) := ⟨_, rfl⟩
                rw [← en_509]
                have hnn_509 := KI.w en_509 hnn_504 (okv_f (show kd (14 * k398 + 122) = (0, 0, false) from (kd_P (k := k398) (c := 12) (by omega) (by omega) (by decide))))
                have hrn_509 := NRx.w en_509 hrn_504 (by rw [(show kd (14 * k398 + 122) = (0, 0, false) from (kd_P (k := k398) (c := 12) (by omega) (by omega) (by decide)))])
                have e510 : n_509 8 = nI kc8 := by rw [en_509, pk_un (by omega)]; exact e505
                have e511 : n_509 0 = nI k394 := by rw [en_509, pk_un (by omega)]; exact e506
                have e512 : n_509 2 = nI (k398 + 1) := by rw [en_509, pk_un (by omega)]; exact e507
                have e513 : n_509 (14 * k398 + 122) = nI 1 := by rw [en_509, pk_us]
                refine pm_iloadi hG dX12_person_221 rfl ?_
                exact pm_iret hG hF dX12_person_223 rfl (Nat.le_refl _) (Nat.le_refl _) ⟨_, rfl, ⟨_, _, _, rfl, hnn_509, hrn_509, e510.trans ekc8.symm⟩, rfl⟩
              · refine pm_aloadn hG dX12_person_102 rfl ?_
                refine pm_iconst (v := nI 4) hG dX12_person_103 (by decide) ?_
                refine pm_callV (As := [.int (nI 4)]) (rest := []) hG hR dX12_person_104 (lkX12_80 _ rfl) okV_X12_finds rfl rfl (m_finds (d := 2) (by decide) hn hz (by omega)) rfl rfl hdd (Nat.le_refl _) (Nat.le_refl _) (by decide) (pm_ki (fun v514 σ' cnt' hq => ?_))
                obtain ⟨⟨I515, A515, rfl⟩, rfl, fv514⟩ := hq
                exact pm_iret hG hF dX12_person_107 rfl (Nat.le_refl _) (Nat.le_refl _) ⟨_, rfl, ⟨_, _, _, rfl, hn, hr, ekc8.trans ekc8.symm⟩, rfl⟩
            · refine pm_ifN_eq (tgt := 73) hG dX12_person_66 rfl (by omega) (fun _ => ?_) (fun q => absurd q (by omega))
              refine pm_iconst (v := nI 0) hG dX12_person_73 (by decide) ?_
              refine pm_istoreXi (loc' := [some (.ref (B + 54)), some (.int za), some (.int zb), some (.int zc), some (.int zd), some (.int (nI 0)), none, none]) hG dX12_person_74 (by decide) (pm_c1b rfl) rfl ?_
              refine pm_iloadi hG dX12_person_76 rfl ?_
              refine pm_ifN_ne (tgt := 87) hG dX12_person_78 rfl (by omega) (fun q => absurd q (by omega)) (fun _ => ?_)
              refine pm_aloadn hG dX12_person_81 rfl ?_
              refine pm_iconst (v := nI 1) hG dX12_person_82 (by decide) ?_
              refine pm_callV (As := [.int (nI 1)]) (rest := []) hG hR dX12_person_83 (lkX12_80 _ rfl) okV_X12_finds rfl rfl (m_finds (d := 2) (by decide) hn hz (by omega)) rfl rfl hdd (Nat.le_refl _) (Nat.le_refl _) (by decide) (pm_ki (fun v516 σ' cnt' hq => ?_))
              obtain ⟨⟨I517, A517, rfl⟩, rfl, fv516⟩ := hq
              exact pm_iret hG hF dX12_person_86 rfl (Nat.le_refl _) (Nat.le_refl _) ⟨_, rfl, ⟨_, _, _, rfl, hn, hr, ekc8.trans ekc8.symm⟩, rfl⟩
    · refine pm_ifN_eq (tgt := 73) hG dX12_person_23 rfl (by omega) (fun _ => ?_) (fun q => absurd q (by omega))
      refine pm_iconst (v := nI 0) hG dX12_person_73 (by decide) ?_
      refine pm_istoreXi (loc' := [some (.ref (B + 54)), some (.int za), some (.int zb), some (.int zc), some (.int zd), some (.int (nI 0)), none, none]) hG dX12_person_74 (by decide) (pm_c1b rfl) rfl ?_
      refine pm_iloadi hG dX12_person_76 rfl ?_
      refine pm_ifN_ne (tgt := 87) hG dX12_person_78 rfl (by omega) (fun q => absurd q (by omega)) (fun _ => ?_)
      refine pm_aloadn hG dX12_person_81 rfl ?_
      refine pm_iconst (v := nI 1) hG dX12_person_82 (by decide) ?_
      refine pm_callV (As := [.int (nI 1)]) (rest := []) hG hR dX12_person_83 (lkX12_80 _ rfl) okV_X12_finds rfl rfl (m_finds (d := 2) (by decide) hn hz (by omega)) rfl rfl hdd (Nat.le_refl _) (Nat.le_refl _) (by decide) (pm_ki (fun v518 σ' cnt' hq => ?_))
      obtain ⟨⟨I519, A519, rfl⟩, rfl, fv518⟩ := hq
      exact pm_iret hG hF dX12_person_86 rfl (Nat.le_refl _) (Nat.le_refl _) ⟨_, rfl, ⟨_, _, _, rfl, hn, hr, ekc8.trans ekc8.symm⟩, rfl⟩
  · refine pm_ifN_eq (tgt := 73) hG dX12_person_6 rfl (by omega) (fun _ => ?_) (fun q => absurd q (by omega))
    refine pm_iconst (v := nI 0) hG dX12_person_73 (by decide) ?_
    refine pm_istoreXi (loc' := [some (.ref (B + 54)), some (.int za), some (.int zb), some (.int zc), some (.int zd), some (.int (nI 0)), none, none]) hG dX12_person_74 (by decide) (pm_c1b rfl) rfl ?_
    refine pm_iloadi hG dX12_person_76 rfl ?_
    refine pm_ifN_ne (tgt := 87) hG dX12_person_78 rfl (by omega) (fun q => absurd q (by omega)) (fun _ => ?_)
    refine pm_aloadn hG dX12_person_81 rfl ?_
    refine pm_iconst (v := nI 1) hG dX12_person_82 (by decide) ?_
    refine pm_callV (As := [.int (nI 1)]) (rest := []) hG hR dX12_person_83 (lkX12_80 _ rfl) okV_X12_finds rfl rfl (m_finds (d := 2) (by decide) hn hz (by omega)) rfl rfl hdd (Nat.le_refl _) (Nat.le_refl _) (by decide) (pm_ki (fun v520 σ' cnt' hq => ?_))
    obtain ⟨⟨I521, A521, rfl⟩, rfl, fv520⟩ := hq
    exact pm_iret hG hF dX12_person_86 rfl (Nat.le_refl _) (Nat.le_refl _) ⟨_, rfl, ⟨_, _, _, rfl, hn, hr, ekc8.trans ekc8.symm⟩, rfl⟩
