set_option maxRecDepth 100000 in
set_option maxHeartbeats 4000000 in
theorem m_own {d B cnt p0 t0 : Nat} {σ : pm_S} {I : Nat → Int32} {A : Nat → Nat → Int32} {n k z : Nat → Int32} {ac wt pl im : Int32} {za zb : Int32} (hdd : 2 ≤ d) (hn : KI n) (hr : NR n) (hz : SZ z)  : pm_met mX12_own d 0 0 B [.ref (B + 54), .int za, .int zb] cnt (pm_mid σ (md_L B I A n k z ac wt pl (nI p0) (nI t0) im)) (pm_Qi (fun v σ' cnt' => (∃ (I' : Nat → Int32) (A' : Nat → Nat → Int32) (n' : Nat → Int32), σ' = pm_mid σ (md_L B I' A' n' k z ac wt pl (nI p0) (nI t0) im) ∧ KI n' ∧ NR n' ∧ n' 0 = n 0) ∧ cnt = cnt')) := by
  obtain ⟨kc0, hkc0, ekc0⟩ := KI.nat hn (show kd 0 = (1, 11, true) by decide)
  refine pm_enter 1 (by decide) (Nat.le_of_ble_eq_true rfl) rfl (fun G hG hR hF => ?_)
  refine pm_aloadn hG dX12_own_0 rfl ?_
  refine pm_iloadn hG dX12_own_1 rfl ?_
  refine pm_callV (As := [.int za]) (rest := []) hG hR dX12_own_2 (lkX12_84 _ rfl) okV_X12_isTown rfl rfl (m_isTown (d := 1) (by decide) ekc0 (by omega)) rfl rfl hdd (Nat.le_refl _) (Nat.le_refl _) (by decide) (pm_ki (fun v1 σ' cnt' hq => ?_))
  obtain ⟨hq, rfl, rfl⟩ := hq
  rcases hq with ⟨rfl, k3, hk3, ek3⟩ | rfl
  · refine pm_ifN_eq (tgt := 29) hG dX12_own_5 rfl (by omega) (fun q => absurd q (by omega)) (fun _ => ?_)
    refine pm_iloadn hG dX12_own_8 rfl ?_
    refine pm_iconst (v := (-1)) hG dX12_own_9 (by decide) ?_
    refine pm_icmp_eq (tgt := 35) hG dX12_own_10 rfl (fun c4 => ?_) (fun c4 => ?_)
    · refine pm_aloadn hG dX12_own_35 rfl ?_
      refine pm_getf hG dX12_own_36 (flX12_7 _ rfl) rfl rfl ?_
      refine pm_bipush (v := nI 20) hG dX12_own_39 (by decide) ?_
      refine pm_iconst (v := nI 3) hG dX12_own_41 (by decide) ?_
      refine pm_iloadn hG dX12_own_42 rfl ?_
      refine pm_top (v := nI k3) ek3 ?_
      refine pm_imulN (c := 3 * k3) hG dX12_own_43 (by omega) ?_
      refine pm_iaddN (c := 3 * k3 + 20) hG dX12_own_44 (by omega) ?_
      refine pm_iconst (v := nI 2) hG dX12_own_45 (by decide) ?_
      refine pm_iaddN (c := 3 * k3 + 22) hG dX12_own_46 (by omega) ?_
      refine pm_ialdN hG dX12_own_47 rfl (by decide) (by omega) ?_
      refine pm_gen (fun x5 ex5 => ?_)
      refine pm_iconst (v := nI 1) hG dX12_own_48 (by decide) ?_
      refine pm_icmp_ne (tgt := 58) hG dX12_own_49 rfl (fun c6 => ?_) (fun c6 => ?_)
      · refine pm_aloadn hG dX12_own_58 rfl ?_
        refine pm_getf hG dX12_own_59 (flX12_7 _ rfl) rfl rfl ?_
        refine pm_bipush (v := nI 20) hG dX12_own_62 (by decide) ?_
        refine pm_iconst (v := nI 3) hG dX12_own_64 (by decide) ?_
        refine pm_iloadn hG dX12_own_65 rfl ?_
        refine pm_top (v := nI k3) ek3 ?_
        refine pm_imulN (c := 3 * k3) hG dX12_own_66 (by omega) ?_
        refine pm_iaddN (c := 3 * k3 + 20) hG dX12_own_67 (by omega) ?_
        refine pm_iconst (v := nI 1) hG dX12_own_68 (by decide) ?_
        refine pm_iaddN (c := 3 * k3 + 21) hG dX12_own_69 (by omega) ?_
        refine pm_ialdN hG dX12_own_70 rfl (by decide) (by omega) ?_
        rcases KI.opt hn (show kd (3 * k3 + 21) = (2, 20, false) from (kd_T (k := k3) (c := 1) (by omega) (by omega) (by decide))) with ek7 | ⟨k7, hk7, ek7⟩
        · refine pm_top (v := (-1)) ek7 ?_
          refine pm_istoreXn (loc' := [some (.ref (B + 54)), some (.int za), some (.int zb), some (.int (-1))]) hG dX12_own_71 (by decide) (pm_c1b rfl) rfl ?_
          refine pm_aloadn hG dX12_own_72 rfl ?_
          refine pm_getf hG dX12_own_73 (flX12_7 _ rfl) rfl rfl ?_
          refine pm_bipush (v := nI 20) hG dX12_own_76 (by decide) ?_
          refine pm_iconst (v := nI 3) hG dX12_own_78 (by decide) ?_
          refine pm_iloadn hG dX12_own_79 rfl ?_
          refine pm_top (v := nI k3) ek3 ?_
          refine pm_imulN (c := 3 * k3) hG dX12_own_80 (by omega) ?_
          refine pm_iaddN (c := 3 * k3 + 20) hG dX12_own_81 (by omega) ?_
          refine pm_iconst (v := nI 1) hG dX12_own_82 (by decide) ?_
          refine pm_iaddN (c := 3 * k3 + 21) hG dX12_own_83 (by omega) ?_
          refine pm_iloadn hG dX12_own_84 rfl ?_
          refine pm_top (v := (-1)) c4 ?_
          refine pm_iastN hG dX12_own_85 rfl (by decide) (by omega) ?_
          refine mdn_now (fun n_8 en_8 => ?_)
          have hnn_8 := KI.w en_8 hn (okv_m (show kd (3 * k3 + 21) = (2, 20, false) from (kd_T (k := k3) (c := 1) (by omega) (by omega) (by decide))))
          have hrn_8 := NRx.w en_8 hr (by rw [(show kd (3 * k3 + 21) = (2, 20, false) from (kd_T (k := k3) (c := 1) (by omega) (by omega) (by decide)))])
          have e9 : n_8 0 = nI kc0 := by rw [en_8, pk_un (by omega)]; exact ekc0
          have e10 : n_8 (3 * k3 + 22) = x5 := by rw [en_8, pk_un (by omega)]; exact ex5
          have e11 : n_8 (3 * k3 + 21) = (-1) := by rw [en_8, pk_us]
          refine pm_iloadn hG dX12_own_86 rfl ?_
          exact pm_iret hG hF dX12_own_87 rfl (Nat.le_refl _) (Nat.le_refl _) ⟨_, rfl, ⟨_, _, _, rfl, hnn_8, hrn_8, e9.trans ekc0.symm⟩, rfl⟩
        · refine pm_top (v := nI k7) ek7 ?_
          refine pm_istoreXn (loc' := [some (.ref (B + 54)), some (.int za), some (.int zb), some (.int (nI k7))]) hG dX12_own_71 (by decide) (pm_c1b rfl) rfl ?_
          refine pm_aloadn hG dX12_own_72 rfl ?_
          refine pm_getf hG dX12_own_73 (flX12_7 _ rfl) rfl rfl ?_
          refine pm_bipush (v := nI 20) hG dX12_own_76 (by decide) ?_
          refine pm_iconst (v := nI 3) hG dX12_own_78 (by decide) ?_
          refine pm_iloadn hG dX12_own_79 rfl ?_
          refine pm_top (v := nI k3) ek3 ?_
          refine pm_imulN (c := 3 * k3) hG dX12_own_80 (by omega) ?_
          refine pm_iaddN (c := 3 * k3 + 20) hG dX12_own_81 (by omega) ?_
          refine pm_iconst (v := nI 1) hG dX12_own_82 (by decide) ?_
          refine pm_iaddN (c := 3 * k3 + 21) hG dX12_own_83 (by omega) ?_
          refine pm_iloadn hG dX12_own_84 rfl ?_
          refine pm_top (v := (-1)) c4 ?_
          refine pm_iastN hG dX12_own_85 rfl (by decide) (by omega) ?_
          refine mdn_now (fun n_12 en_12 => ?_)
          have hnn_12 := KI.w en_12 hn (okv_m (show kd (3 * k3 + 21) = (2, 20, false) from (kd_T (k := k3) (c := 1) (by omega) (by omega) (by decide))))
          have hrn_12 := NRx.w en_12 hr (by rw [(show kd (3 * k3 + 21) = (2, 20, false) from (kd_T (k := k3) (c := 1) (by omega) (by omega) (by decide)))])
          have e13 : n_12 0 = nI kc0 := by rw [en_12, pk_un (by omega)]; exact ekc0
          have e14 : n_12 (3 * k3 + 22) = x5 := by rw [en_12, pk_un (by omega)]; exact ex5
          have e15 : n_12 (3 * k3 + 21) = (-1) := by rw [en_12, pk_us]
          refine pm_iloadn hG dX12_own_86 rfl ?_
          exact pm_iret hG hF dX12_own_87 rfl (Nat.le_refl _) (Nat.le_refl _) ⟨_, rfl, ⟨_, _, _, rfl, hnn_12, hrn_12, e13.trans ekc0.symm⟩, rfl⟩
      · refine pm_aloadn hG dX12_own_52 rfl ?_
        refine pm_iconst (v := nI 3) hG dX12_own_53 (by decide) ?_
        refine pm_callV (As := [.int (nI 3)]) (rest := []) hG hR dX12_own_54 (lkX12_80 _ rfl) okV_X12_finds rfl rfl (m_finds (d := 1) (by decide) hn hz (by omega)) rfl rfl hdd (Nat.le_refl _) (Nat.le_refl _) (by decide) (pm_ki (fun v16 σ' cnt' hq => ?_))
        obtain ⟨⟨I17, A17, rfl⟩, rfl, fv16⟩ := hq
        exact pm_iret hG hF dX12_own_57 rfl (Nat.le_refl _) (Nat.le_refl _) ⟨_, rfl, ⟨_, _, _, rfl, hn, hr, ekc0.trans ekc0.symm⟩, rfl⟩
    · refine pm_aloadn hG dX12_own_13 rfl ?_
      refine pm_iloadn hG dX12_own_14 rfl ?_
      obtain ⟨k18, hk18, ek18⟩ := KI.nat hn (show kd 2 = (1, 21, true) by decide)
      refine pm_callV (As := [.int zb]) (rest := []) hG hR dX12_own_15 (lkX12_91 _ rfl) okV_X12_isPerson rfl rfl (m_isPerson (d := 1) (by decide) ek18 (by omega)) rfl rfl hdd (Nat.le_refl _) (Nat.le_refl _) (by decide) (pm_ki (fun v19 σ' cnt' hq => ?_))
      obtain ⟨hq, rfl, rfl⟩ := hq
      rcases hq with ⟨rfl, k21, hk21, ek21⟩ | rfl
      · refine pm_ifN_eq (tgt := 29) hG dX12_own_18 rfl (by omega) (fun q => absurd q (by omega)) (fun _ => ?_)
        refine pm_aloadn hG dX12_own_21 rfl ?_
        refine pm_iloadn hG dX12_own_22 rfl ?_
        refine pm_top (v := nI k21) ek21 ?_
        rcases KI.opt hn (show kd (14 * k21 + 119) = (2, 2001, false) from (kd_P (k := k21) (c := 9) (by omega) (by omega) (by decide))) with ek22 | ⟨k22, hk22, ek22⟩
        · refine pm_callV (As := [.int (nI k21)]) (rest := []) hG hR dX12_own_23 (lkX12_101 _ rfl) okV_X12_lives rfl rfl (m_lives1 (d := 1) (by decide) (by omega) (by omega : 14 * k21 + 119 = 14 * k21 + 119) ek22) rfl rfl hdd (Nat.le_refl _) (Nat.le_refl _) (by decide) (pm_ki (fun v23 σ' cnt' hq => ?_))
          obtain ⟨rfl, rfl, rfl⟩ := hq
          refine pm_ifN_ne (tgt := 35) hG dX12_own_26 rfl (by omega) (fun _ => ?_) (fun q => absurd q (by omega))
          refine pm_aloadn hG dX12_own_35 rfl ?_
          refine pm_getf hG dX12_own_36 (flX12_7 _ rfl) rfl rfl ?_
          refine pm_bipush (v := nI 20) hG dX12_own_39 (by decide) ?_
          refine pm_iconst (v := nI 3) hG dX12_own_41 (by decide) ?_
          refine pm_iloadn hG dX12_own_42 rfl ?_
          refine pm_top (v := nI k3) ek3 ?_
          refine pm_imulN (c := 3 * k3) hG dX12_own_43 (by omega) ?_
          refine pm_iaddN (c := 3 * k3 + 20) hG dX12_own_44 (by omega) ?_
          refine pm_iconst (v := nI 2) hG dX12_own_45 (by decide) ?_
          refine pm_iaddN (c := 3 * k3 + 22) hG dX12_own_46 (by omega) ?_
          refine pm_ialdN hG dX12_own_47 rfl (by decide) (by omega) ?_
          refine pm_gen (fun x24 ex24 => ?_)
          refine pm_iconst (v := nI 1) hG dX12_own_48 (by decide) ?_
          refine pm_icmp_ne (tgt := 58) hG dX12_own_49 rfl (fun c25 => ?_) (fun c25 => ?_)
          · refine pm_aloadn hG dX12_own_58 rfl ?_
            refine pm_getf hG dX12_own_59 (flX12_7 _ rfl) rfl rfl ?_
            refine pm_bipush (v := nI 20) hG dX12_own_62 (by decide) ?_
            refine pm_iconst (v := nI 3) hG dX12_own_64 (by decide) ?_
            refine pm_iloadn hG dX12_own_65 rfl ?_
            refine pm_top (v := nI k3) ek3 ?_
            refine pm_imulN (c := 3 * k3) hG dX12_own_66 (by omega) ?_
            refine pm_iaddN (c := 3 * k3 + 20) hG dX12_own_67 (by omega) ?_
            refine pm_iconst (v := nI 1) hG dX12_own_68 (by decide) ?_
            refine pm_iaddN (c := 3 * k3 + 21) hG dX12_own_69 (by omega) ?_
            refine pm_ialdN hG dX12_own_70 rfl (by decide) (by omega) ?_
            rcases KI.opt hn (show kd (3 * k3 + 21) = (2, 20, false) from (kd_T (k := k3) (c := 1) (by omega) (by omega) (by decide))) with ek26 | ⟨k26, hk26, ek26⟩
            · refine pm_top (v := (-1)) ek26 ?_
              refine pm_istoreXn (loc' := [some (.ref (B + 54)), some (.int za), some (.int zb), some (.int (-1))]) hG dX12_own_71 (by decide) (pm_c1b rfl) rfl ?_
              refine pm_aloadn hG dX12_own_72 rfl ?_
              refine pm_getf hG dX12_own_73 (flX12_7 _ rfl) rfl rfl ?_
              refine pm_bipush (v := nI 20) hG dX12_own_76 (by decide) ?_
              refine pm_iconst (v := nI 3) hG dX12_own_78 (by decide) ?_
              refine pm_iloadn hG dX12_own_79 rfl ?_
              refine pm_top (v := nI k3) ek3 ?_
              refine pm_imulN (c := 3 * k3) hG dX12_own_80 (by omega) ?_
              refine pm_iaddN (c := 3 * k3 + 20) hG dX12_own_81 (by omega) ?_
              refine pm_iconst (v := nI 1) hG dX12_own_82 (by decide) ?_
              refine pm_iaddN (c := 3 * k3 + 21) hG dX12_own_83 (by omega) ?_
              refine pm_iloadn hG dX12_own_84 rfl ?_
              refine pm_top (v := nI k21) ek21 ?_
              refine pm_iastN hG dX12_own_85 rfl (by decide) (by omega) ?_
              refine mdn_now (fun n_27 en_27 => ?_)
              have hnn_27 := KI.w en_27 hn (okv_o (show kd (3 * k3 + 21) = (2, 20, false) from (kd_T (k := k3) (c := 1) (by omega) (by omega) (by decide))) (by omega))
              have hrn_27 := NRx.w en_27 hr (by rw [(show kd (3 * k3 + 21) = (2, 20, false) from (kd_T (k := k3) (c := 1) (by omega) (by omega) (by decide)))])
              have e28 : n_27 0 = nI kc0 := by rw [en_27, pk_un (by omega)]; exact ekc0
              have e29 : n_27 2 = nI k18 := by rw [en_27, pk_un (by omega)]; exact ek18
              have e30 : n_27 (14 * k21 + 119) = (-1) := by rw [en_27, pk_un (by omega)]; exact ek22
              have e31 : n_27 (3 * k3 + 22) = x24 := by rw [en_27, pk_un (by omega)]; exact ex24
              have e32 : n_27 (3 * k3 + 21) = nI k21 := by rw [en_27, pk_us]
              refine pm_iloadn hG dX12_own_86 rfl ?_
              exact pm_iret hG hF dX12_own_87 rfl (Nat.le_refl _) (Nat.le_refl _) ⟨_, rfl, ⟨_, _, _, rfl, hnn_27, hrn_27, e28.trans ekc0.symm⟩, rfl⟩
            · refine pm_top (v := nI k26) ek26 ?_
              refine pm_istoreXn (loc' := [some (.ref (B + 54)), some (.int za), some (.int zb), some (.int (nI k26))]) hG dX12_own_71 (by decide) (pm_c1b rfl) rfl ?_
              refine pm_aloadn hG dX12_own_72 rfl ?_
              refine pm_getf hG dX12_own_73 (flX12_7 _ rfl) rfl rfl ?_
              refine pm_bipush (v := nI 20) hG dX12_own_76 (by decide) ?_
              refine pm_iconst (v := nI 3) hG dX12_own_78 (by decide) ?_
              refine pm_iloadn hG dX12_own_79 rfl ?_
              refine pm_top (v := nI k3) ek3 ?_
              refine pm_imulN (c := 3 * k3) hG dX12_own_80 (by omega) ?_
              refine pm_iaddN (c := 3 * k3 + 20) hG dX12_own_81 (by omega) ?_
              refine pm_iconst (v := nI 1) hG dX12_own_82 (by decide) ?_
              refine pm_iaddN (c := 3 * k3 + 21) hG dX12_own_83 (by omega) ?_
              refine pm_iloadn hG dX12_own_84 rfl ?_
              refine pm_top (v := nI k21) ek21 ?_
              refine pm_iastN hG dX12_own_85 rfl (by decide) (by omega) ?_
              refine mdn_now (fun n_33 en_33 => ?_)
              have hnn_33 := KI.w en_33 hn (okv_o (show kd (3 * k3 + 21) = (2, 20, false) from (kd_T (k := k3) (c := 1) (by omega) (by omega) (by decide))) (by omega))
              have hrn_33 := NRx.w en_33 hr (by rw [(show kd (3 * k3 + 21) = (2, 20, false) from (kd_T (k := k3) (c := 1) (by omega) (by omega) (by decide)))])
              have e34 : n_33 0 = nI kc0 := by rw [en_33, pk_un (by omega)]; exact ekc0
              have e35 : n_33 2 = nI k18 := by rw [en_33, pk_un (by omega)]; exact ek18
              have e36 : n_33 (14 * k21 + 119) = (-1) := by rw [en_33, pk_un (by omega)]; exact ek22
              have e37 : n_33 (3 * k3 + 22) = x24 := by rw [en_33, pk_un (by omega)]; exact ex24
              have e38 : n_33 (3 * k3 + 21) = nI k21 := by rw [en_33, pk_us]
              refine pm_iloadn hG dX12_own_86 rfl ?_
              exact pm_iret hG hF dX12_own_87 rfl (Nat.le_refl _) (Nat.le_refl _) ⟨_, rfl, ⟨_, _, _, rfl, hnn_33, hrn_33, e34.trans ekc0.symm⟩, rfl⟩
          · refine pm_aloadn hG dX12_own_52 rfl ?_
            refine pm_iconst (v := nI 3) hG dX12_own_53 (by decide) ?_
            refine pm_callV (As := [.int (nI 3)]) (rest := []) hG hR dX12_own_54 (lkX12_80 _ rfl) okV_X12_finds rfl rfl (m_finds (d := 1) (by decide) hn hz (by omega)) rfl rfl hdd (Nat.le_refl _) (Nat.le_refl _) (by decide) (pm_ki (fun v39 σ' cnt' hq => ?_))
            obtain ⟨⟨I40, A40, rfl⟩, rfl, fv39⟩ := hq
            exact pm_iret hG hF dX12_own_57 rfl (Nat.le_refl _) (Nat.le_refl _) ⟨_, rfl, ⟨_, _, _, rfl, hn, hr, ekc0.trans ekc0.symm⟩, rfl⟩
        · refine pm_callV (As := [.int (nI k21)]) (rest := []) hG hR dX12_own_23 (lkX12_101 _ rfl) okV_X12_lives rfl rfl (m_lives0 (d := 1) (by decide) (by omega) (by omega : 14 * k21 + 119 = 14 * k21 + 119) ek22 (by omega)) rfl rfl hdd (Nat.le_refl _) (Nat.le_refl _) (by decide) (pm_ki (fun v41 σ' cnt' hq => ?_))
          obtain ⟨rfl, rfl, rfl⟩ := hq
          refine pm_ifN_ne (tgt := 35) hG dX12_own_26 rfl (by omega) (fun q => absurd q (by omega)) (fun _ => ?_)
          refine pm_aloadn hG dX12_own_29 rfl ?_
          refine pm_iconst (v := nI 1) hG dX12_own_30 (by decide) ?_
          refine pm_callV (As := [.int (nI 1)]) (rest := []) hG hR dX12_own_31 (lkX12_80 _ rfl) okV_X12_finds rfl rfl (m_finds (d := 1) (by decide) hn hz (by omega)) rfl rfl hdd (Nat.le_refl _) (Nat.le_refl _) (by decide) (pm_ki (fun v42 σ' cnt' hq => ?_))
          obtain ⟨⟨I43, A43, rfl⟩, rfl, fv42⟩ := hq
          exact pm_iret hG hF dX12_own_34 rfl (Nat.le_refl _) (Nat.le_refl _) ⟨_, rfl, ⟨_, _, _, rfl, hn, hr, ekc0.trans ekc0.symm⟩, rfl⟩
      · refine pm_ifN_eq (tgt := 29) hG dX12_own_18 rfl (by omega) (fun _ => ?_) (fun q => absurd q (by omega))
        refine pm_aloadn hG dX12_own_29 rfl ?_
        refine pm_iconst (v := nI 1) hG dX12_own_30 (by decide) ?_
        refine pm_callV (As := [.int (nI 1)]) (rest := []) hG hR dX12_own_31 (lkX12_80 _ rfl) okV_X12_finds rfl rfl (m_finds (d := 1) (by decide) hn hz (by omega)) rfl rfl hdd (Nat.le_refl _) (Nat.le_refl _) (by decide) (pm_ki (fun v44 σ' cnt' hq => ?_))
        obtain ⟨⟨I45, A45, rfl⟩, rfl, fv44⟩ := hq
        exact pm_iret hG hF dX12_own_34 rfl (Nat.le_refl _) (Nat.le_refl _) ⟨_, rfl, ⟨_, _, _, rfl, hn, hr, ekc0.trans ekc0.symm⟩, rfl⟩
  · refine pm_ifN_eq (tgt := 29) hG dX12_own_5 rfl (by omega) (fun _ => ?_) (fun q => absurd q (by omega))
    refine pm_aloadn hG dX12_own_29 rfl ?_
    refine pm_iconst (v := nI 1) hG dX12_own_30 (by decide) ?_
    refine pm_callV (As := [.int (nI 1)]) (rest := []) hG hR dX12_own_31 (lkX12_80 _ rfl) okV_X12_finds rfl rfl (m_finds (d := 1) (by decide) hn hz (by omega)) rfl rfl hdd (Nat.le_refl _) (Nat.le_refl _) (by decide) (pm_ki (fun v46 σ' cnt' hq => ?_))
    obtain ⟨⟨I47, A47, rfl⟩, rfl, fv46⟩ := hq
    exact pm_iret hG hF dX12_own_34 rfl (Nat.le_refl _) (Nat.le_refl _) ⟨_, rfl, ⟨_, _, _, rfl, hn, hr, ekc0.trans ekc0.symm⟩, rfl⟩

set_option maxRecDepth 100000 in
set_option maxHeartbeats 4000000 in
theorem m_pay {d B cnt p0 t0 : Nat} {σ : pm_S} {I : Nat → Int32} {A : Nat → Nat → Int32} {n k z : Nat → Int32} {ac wt pl im : Int32} {za zb : Int32} (hdd : 2 ≤ d) (hn : KI n) (hr : NR n) (hz : SZ z)  : pm_met mX12_pay d 0 0 B [.ref (B + 54), .int za, .int zb] cnt (pm_mid σ (md_L B I A n k z ac wt pl (nI p0) (nI t0) im)) (pm_Qi (fun v σ' cnt' => (∃ (I' : Nat → Int32) (A' : Nat → Nat → Int32) (n' : Nat → Int32), σ' = pm_mid σ (md_L B I' A' n' k z ac wt pl (nI p0) (nI t0) im) ∧ KI n' ∧ NR n' ∧ n' 0 = n 0) ∧ cnt = cnt')) := by
  obtain ⟨kc0, hkc0, ekc0⟩ := KI.nat hn (show kd 0 = (1, 11, true) by decide)
  refine pm_enter 0 (by decide) (Nat.le_of_ble_eq_true rfl) rfl (fun G hG hR hF => ?_)
  refine pm_aloadn hG dX12_pay_0 rfl ?_
  refine pm_iloadn hG dX12_pay_1 rfl ?_
  obtain ⟨k1, hk1, ek1⟩ := KI.nat hn (show kd 2 = (1, 21, true) by decide)
  refine pm_callV (As := [.int za]) (rest := []) hG hR dX12_pay_2 (lkX12_91 _ rfl) okV_X12_isPerson rfl rfl (m_isPerson (d := 1) (by decide) ek1 (by omega)) rfl rfl hdd (Nat.le_refl _) (Nat.le_refl _) (by decide) (pm_ki (fun v2 σ' cnt' hq => ?_))
  obtain ⟨hq, rfl, rfl⟩ := hq
  rcases hq with ⟨rfl, k4, hk4, ek4⟩ | rfl
  · refine pm_ifN_eq (tgt := 19) hG dX12_pay_5 rfl (by omega) (fun q => absurd q (by omega)) (fun _ => ?_)
    refine pm_iloadn hG dX12_pay_8 rfl ?_
    refine pm_iconst (v := nI 1) hG dX12_pay_9 (by decide) ?_
    refine pm_sipush (v := nI 9999) hG dX12_pay_10 (by decide) ?_
    refine pm_callS (As := [.int zb, .int (nI 1), .int (nI 9999)]) (rest := []) hG hR dX12_pay_13 (lkX12_68 _ rfl) okS_X12_in (m_in (d := 1)) rfl rfl hdd (Nat.le_refl _) (Nat.le_refl _) (by decide) (pm_ki (fun v5 σ' cnt' hq => ?_))
    obtain ⟨hq, rfl, rfl⟩ := hq
    rcases hq with ⟨rfl, ac6, bc6⟩ | ⟨rfl, c6⟩
    · obtain ⟨k7, hk7, ek7⟩ := in_nat (by omega) (by omega) ac6 bc6
      refine pm_ifN_ne (tgt := 25) hG dX12_pay_16 rfl (by omega) (fun _ => ?_) (fun q => absurd q (by omega))
      refine pm_aloadn hG dX12_pay_25 rfl ?_
      refine pm_iloadn hG dX12_pay_26 rfl ?_
      refine pm_top (v := nI k4) ek4 ?_
      rcases KI.opt hn (show kd (14 * k4 + 119) = (2, 2001, false) from (kd_P (k := k4) (c := 9) (by omega) (by omega) (by decide))) with ek8 | ⟨k8, hk8, ek8⟩
      · refine pm_callV (As := [.int (nI k4)]) (rest := []) hG hR dX12_pay_27 (lkX12_101 _ rfl) okV_X12_lives rfl rfl (m_lives1 (d := 1) (by decide) (by omega) (by omega : 14 * k4 + 119 = 14 * k4 + 119) ek8) rfl rfl hdd (Nat.le_refl _) (Nat.le_refl _) (by decide) (pm_ki (fun v9 σ' cnt' hq => ?_))
        obtain ⟨rfl, rfl, rfl⟩ := hq
        refine pm_ifN_ne (tgt := 39) hG dX12_pay_30 rfl (by omega) (fun _ => ?_) (fun q => absurd q (by omega))
        refine pm_aloadn hG dX12_pay_39 rfl ?_
        refine pm_getf hG dX12_pay_40 (flX12_7 _ rfl) rfl rfl ?_
        refine pm_bipush (v := nI 9) hG dX12_pay_43 (by decide) ?_
        refine pm_ialdN hG dX12_pay_45 rfl (by decide) (by omega) ?_
        refine pm_gen (fun x10 ex10 => ?_)
        refine pm_iloadn hG dX12_pay_46 rfl ?_
        refine pm_top (v := nI k7) ek7 ?_
        refine pm_icmp_ge (tgt := 56) hG dX12_pay_47 rfl (fun c11 => ?_) (fun c11 => ?_)
        · refine pm_aloadn hG dX12_pay_56 rfl ?_
          refine pm_getf hG dX12_pay_57 (flX12_7 _ rfl) rfl rfl ?_
          refine pm_bipush (v := nI 9) hG dX12_pay_60 (by decide) ?_
          refine pm_dup2 hG dX12_pay_62 rfl rfl ?_
          refine pm_ialdN hG dX12_pay_63 rfl (by decide) (by omega) ?_
          refine pm_top (v := x10) ex10 ?_
          refine pm_iloadn hG dX12_pay_64 rfl ?_
          refine pm_top (v := nI k7) ek7 ?_
          refine pm_isub hG dX12_pay_65 ?_
          refine pm_iastN hG dX12_pay_66 rfl (by decide) (by omega) ?_
          refine mdn_now (fun n_12 en_12 => ?_)
          have hnn_12 := KI.w en_12 hn (okv_f (show kd 9 = (0, 0, false) by decide))
          have hrn_12 := NRx.w en_12 hr (by rw [(show kd 9 = (0, 0, false) by decide)])
          have e13 : n_12 0 = nI kc0 := by rw [en_12, pk_un (by omega)]; exact ekc0
          have e14 : n_12 2 = nI k1 := by rw [en_12, pk_un (by omega)]; exact ek1
          have e15 : n_12 (14 * k4 + 119) = (-1) := by rw [en_12, pk_un (by omega)]; exact ek8
          have e16 : n_12 9 = x10 - (nI k7) := by rw [en_12, pk_us]
          refine pm_aloadn hG dX12_pay_67 rfl ?_
          refine pm_iloadn hG dX12_pay_68 rfl ?_
          refine pm_top (v := nI k4) ek4 ?_
          refine pm_bipush (v := nI 7) hG dX12_pay_69 (by decide) ?_
          refine pm_aloadn hG dX12_pay_71 rfl ?_
          refine pm_iloadn hG dX12_pay_72 rfl ?_
          refine pm_top (v := nI k4) ek4 ?_
          refine pm_bipush (v := nI 7) hG dX12_pay_73 (by decide) ?_
          refine pm_callV (As := [.int (nI k4), .int (nI 7)]) (rest := [.int (nI 7), .int (nI k4), .ref (B + 54)]) hG hR dX12_pay_75 (lkX12_72 _ rfl) okV_X12_man rfl rfl (m_man (d := 1) (e := 14 * k4 + 117) (by omega) (by omega) (by omega)) rfl rfl hdd (Nat.le_refl _) (Nat.le_refl _) (Nat.le_of_ble_eq_true rfl) (pm_ki (fun v17 σ' cnt' hq => ?_))
          obtain ⟨rfl, rfl, rfl⟩ := hq
          refine pm_gen (fun x18 ex18 => ?_)
          refine pm_iloadn hG dX12_pay_78 rfl ?_
          refine pm_top (v := nI k7) ek7 ?_
          refine pm_iadd hG dX12_pay_79 ?_
          refine pm_callV (As := [.int (nI k4), .int (nI 7), .int (x18 + (nI k7))]) (rest := []) hG hR dX12_pay_80 (lkX12_97 _ rfl) okV_X12_sets rfl rfl (m_sets (d := 1) (e := 14 * k4 + 117) (by omega) (by omega) (by omega)) rfl rfl hdd (Nat.le_refl _) (Nat.le_refl _) (by decide) (pm_kv (fun σ' cnt' hq => ?_))
          obtain ⟨rfl, rfl⟩ := hq
          obtain ⟨n_19, en_19⟩ : ∃ f : Nat → Int32, f = upd n_12 (14 * k4 + 117) (x18 + (nI k7)) := ⟨_, rfl⟩
          rw [← en_19]
          have hnn_19 := KI.w en_19 hnn_12 (okv_f (show kd (14 * k4 + 117) = (0, 0, false) from (kd_P (k := k4) (c := 7) (by omega) (by omega) (by decide))))
          have hrn_19 := NRx.w en_19 hrn_12 (by rw [(show kd (14 * k4 + 117) = (0, 0, false) from (kd_P (k := k4) (c := 7) (by omega) (by omega) (by decide)))])
          have e20 : n_19 0 = nI kc0 := by rw [en_19, pk_un (by omega)]; exact e13
          have e21 : n_19 2 = nI k1 := by rw [en_19, pk_un (by omega)]; exact e14
          have e22 : n_19 (14 * k4 + 119) = (-1) := by rw [en_19, pk_un (by omega)]; exact e15
          have e23 : n_19 9 = x10 - (nI k7) := by rw [en_19, pk_un (by omega)]; exact e16
          have e24 : n_19 (14 * k4 + 117) = x18 + (nI k7) := by rw [en_19, pk_us]
          refine pm_aloadn hG dX12_pay_83 rfl ?_
          refine pm_getf hG dX12_pay_84 (flX12_7 _ rfl) rfl rfl ?_
          refine pm_bipush (v := nI 9) hG dX12_pay_87 (by decide) ?_
          refine pm_ialdN hG dX12_pay_89 rfl (by decide) (by omega) ?_
          refine pm_top (v := x10 - (nI k7)) e23 ?_
          exact pm_iret hG hF dX12_pay_90 rfl (Nat.le_refl _) (Nat.le_refl _) ⟨_, rfl, ⟨_, _, _, rfl, hnn_19, hrn_19, e20.trans ekc0.symm⟩, rfl⟩
        · refine pm_aloadn hG dX12_pay_50 rfl ?_
          refine pm_iconst (v := nI 2) hG dX12_pay_51 (by decide) ?_
          refine pm_callV (As := [.int (nI 2)]) (rest := []) hG hR dX12_pay_52 (lkX12_80 _ rfl) okV_X12_finds rfl rfl (m_finds (d := 1) (by decide) hn hz (by omega)) rfl rfl hdd (Nat.le_refl _) (Nat.le_refl _) (by decide) (pm_ki (fun v25 σ' cnt' hq => ?_))
          obtain ⟨⟨I26, A26, rfl⟩, rfl, fv25⟩ := hq
          exact pm_iret hG hF dX12_pay_55 rfl (Nat.le_refl _) (Nat.le_refl _) ⟨_, rfl, ⟨_, _, _, rfl, hn, hr, ekc0.trans ekc0.symm⟩, rfl⟩
      · refine pm_callV (As := [.int (nI k4)]) (rest := []) hG hR dX12_pay_27 (lkX12_101 _ rfl) okV_X12_lives rfl rfl (m_lives0 (d := 1) (by decide) (by omega) (by omega : 14 * k4 + 119 = 14 * k4 + 119) ek8 (by omega)) rfl rfl hdd (Nat.le_refl _) (Nat.le_refl _) (by decide) (pm_ki (fun v27 σ' cnt' hq => ?_))
        obtain ⟨rfl, rfl, rfl⟩ := hq
        refine pm_ifN_ne (tgt := 39) hG dX12_pay_30 rfl (by omega) (fun q => absurd q (by omega)) (fun _ => ?_)
        refine pm_aloadn hG dX12_pay_33 rfl ?_
        refine pm_iconst (v := nI 3) hG dX12_pay_34 (by decide) ?_
        refine pm_callV (As := [.int (nI 3)]) (rest := []) hG hR dX12_pay_35 (lkX12_80 _ rfl) okV_X12_finds rfl rfl (m_finds (d := 1) (by decide) hn hz (by omega)) rfl rfl hdd (Nat.le_refl _) (Nat.le_refl _) (by decide) (pm_ki (fun v28 σ' cnt' hq => ?_))
        obtain ⟨⟨I29, A29, rfl⟩, rfl, fv28⟩ := hq
        exact pm_iret hG hF dX12_pay_38 rfl (Nat.le_refl _) (Nat.le_refl _) ⟨_, rfl, ⟨_, _, _, rfl, hn, hr, ekc0.trans ekc0.symm⟩, rfl⟩
    · refine pm_ifN_ne (tgt := 25) hG dX12_pay_16 rfl (by omega) (fun q => absurd q (by omega)) (fun _ => ?_)
      refine pm_aloadn hG dX12_pay_19 rfl ?_
      refine pm_iconst (v := nI 1) hG dX12_pay_20 (by decide) ?_
      refine pm_callV (As := [.int (nI 1)]) (rest := []) hG hR dX12_pay_21 (lkX12_80 _ rfl) okV_X12_finds rfl rfl (m_finds (d := 1) (by decide) hn hz (by omega)) rfl rfl hdd (Nat.le_refl _) (Nat.le_refl _) (by decide) (pm_ki (fun v30 σ' cnt' hq => ?_))
      obtain ⟨⟨I31, A31, rfl⟩, rfl, fv30⟩ := hq
      exact pm_iret hG hF dX12_pay_24 rfl (Nat.le_refl _) (Nat.le_refl _) ⟨_, rfl, ⟨_, _, _, rfl, hn, hr, ekc0.trans ekc0.symm⟩, rfl⟩
  · refine pm_ifN_eq (tgt := 19) hG dX12_pay_5 rfl (by omega) (fun _ => ?_) (fun q => absurd q (by omega))
    refine pm_aloadn hG dX12_pay_19 rfl ?_
    refine pm_iconst (v := nI 1) hG dX12_pay_20 (by decide) ?_
    refine pm_callV (As := [.int (nI 1)]) (rest := []) hG hR dX12_pay_21 (lkX12_80 _ rfl) okV_X12_finds rfl rfl (m_finds (d := 1) (by decide) hn hz (by omega)) rfl rfl hdd (Nat.le_refl _) (Nat.le_refl _) (by decide) (pm_ki (fun v32 σ' cnt' hq => ?_))
    obtain ⟨⟨I33, A33, rfl⟩, rfl, fv32⟩ := hq
    exact pm_iret hG hF dX12_pay_24 rfl (Nat.le_refl _) (Nat.le_refl _) ⟨_, rfl, ⟨_, _, _, rfl, hn, hr, ekc0.trans ekc0.symm⟩, rfl⟩

set_option maxRecDepth 100000 in
set_option maxHeartbeats 4000000 in
theorem m_person {d B cnt p0 t0 : Nat} {σ : pm_S} {I : Nat → Int32} {A : Nat → Nat → Int32} {n k z : Nat → Int32} {ac wt pl im : Int32} {za zb zc zd : Int32} (hdd : 3 ≤ d) (hn : KI n) (hr : NR n) (hz : SZ z)  : pm_met mX12_person d 0 0 B [.ref (B + 54), .int za, .int zb, .int zc, .int zd] cnt (pm_mid σ (md_L B I A n k z ac wt pl (nI p0) (nI t0) im)) (pm_Qi (fun v σ' cnt' => (∃ (I' : Nat → Int32) (A' : Nat → Nat → Int32) (n' : Nat → Int32), σ' = pm_mid σ (md_L B I' A' n' k z ac wt pl (nI p0) (nI t0) im) ∧ KI n' ∧ NR n' ∧ n' 0 = n 0) ∧ cnt = cnt')) := by
  obtain ⟨kc0, hkc0, ekc0⟩ := KI.nat hn (show kd 0 = (1, 11, true) by decide)
  refine pm_enter 3 (by decide) (Nat.le_of_ble_eq_true rfl) rfl (fun G hG hR hF => ?_)
  refine pm_iloadn hG dX12_person_0 rfl ?_
  refine pm_iconst (v := nI 0) hG dX12_person_1 (by decide) ?_
  refine pm_iconst (v := nI 1) hG dX12_person_2 (by decide) ?_
  refine pm_callS (As := [.int za, .int (nI 0), .int (nI 1)]) (rest := []) hG hR dX12_person_3 (lkX12_68 _ rfl) okS_X12_in (m_in (d := 2)) rfl rfl hdd (Nat.le_refl _) (Nat.le_refl _) (by decide) (pm_ki (fun v1 σ' cnt' hq => ?_))
  obtain ⟨hq, rfl, rfl⟩ := hq
  rcases hq with ⟨rfl, ac2, bc2⟩ | ⟨rfl, c2⟩
  · obtain ⟨k3, hk3, ek3⟩ := in_nat (by omega) (by omega) ac2 bc2
    refine pm_ifN_eq (tgt := 73) hG dX12_person_6 rfl (by omega) (fun q => absurd q (by omega)) (fun _ => ?_)
    refine pm_iloadn hG dX12_person_9 rfl ?_
    refine pm_sipush (v := (-20000)) hG dX12_person_10 (by decide) ?_
    refine pm_aloadn hG dX12_person_13 rfl ?_
    refine pm_getf hG dX12_person_14 (flX12_7 _ rfl) rfl rfl ?_
    refine pm_bipush (v := nI 8) hG dX12_person_17 (by decide) ?_
    refine pm_ialdN hG dX12_person_19 rfl (by decide) (by omega) ?_
    obtain ⟨k4, hk4, ek4⟩ := KI.nat hn (show kd 8 = (1, 2001, false) by decide)
    refine pm_top (v := nI k4) ek4 ?_
    refine pm_callS (As := [.int zb, .int (-20000), .int (nI k4)]) (rest := []) hG hR dX12_person_20 (lkX12_68 _ rfl) okS_X12_in (m_in (d := 2)) rfl rfl hdd (Nat.le_refl _) (Nat.le_refl _) (by decide) (pm_ki (fun v5 σ' cnt' hq => ?_))
    obtain ⟨hq, rfl, rfl⟩ := hq
    rcases hq with ⟨rfl, ac6, bc6⟩ | ⟨rfl, c6⟩
    · refine pm_ifN_eq (tgt := 73) hG dX12_person_23 rfl (by omega) (fun q => absurd q (by omega)) (fun _ => ?_)
      refine pm_iloadn hG dX12_person_26 rfl ?_
      refine pm_if_lt (tgt := 73) hG dX12_person_27 rfl (fun c7 => ?_) (fun c7 => ?_)
      · refine pm_iconst (v := nI 0) hG dX12_person_73 (by decide) ?_
        refine pm_istoreXi (loc' := [some (.ref (B + 54)), some (.int za), some (.int zb), some (.int zc), some (.int zd), some (.int (nI 0)), none, none]) hG dX12_person_74 (by decide) (pm_c1b rfl) rfl ?_
        refine pm_iloadi hG dX12_person_76 rfl ?_
        refine pm_ifN_ne (tgt := 87) hG dX12_person_78 rfl (by omega) (fun q => absurd q (by omega)) (fun _ => ?_)
        refine pm_aloadn hG dX12_person_81 rfl ?_
        refine pm_iconst (v := nI 1) hG dX12_person_82 (by decide) ?_
        refine pm_callV (As := [.int (nI 1)]) (rest := []) hG hR dX12_person_83 (lkX12_80 _ rfl) okV_X12_finds rfl rfl (m_finds (d := 2) (by decide) hn hz (by omega)) rfl rfl hdd (Nat.le_refl _) (Nat.le_refl _) (by decide) (pm_ki (fun v8 σ' cnt' hq => ?_))
        obtain ⟨⟨I9, A9, rfl⟩, rfl, fv8⟩ := hq
        exact pm_iret hG hF dX12_person_86 rfl (Nat.le_refl _) (Nat.le_refl _) ⟨_, rfl, ⟨_, _, _, rfl, hn, hr, ekc0.trans ekc0.symm⟩, rfl⟩
      · obtain ⟨k10, hk10, ek10⟩ := nI_of c7
        refine pm_aloadn hG dX12_person_30 rfl ?_
        refine pm_iloadn hG dX12_person_31 rfl ?_
        refine pm_top (v := nI k10) ek10 ?_
        refine pm_bipush (v := nI 100) hG dX12_person_32 (by decide) ?_
        refine pm_idivN hG dX12_person_34 (by omega) (by decide) (by decide) ?_
        refine pm_iconst (v := nI 1) hG dX12_person_35 (by decide) ?_
        refine pm_isub hG dX12_person_36 ?_
        refine pm_iconst (v := nI 1) hG dX12_person_37 (by decide) ?_
        refine pm_iloadn hG dX12_person_38 rfl ?_
        refine pm_callV (As := [.int ((nI ((k10 / 100))) - (nI 1)), .int (nI 1), .int zb]) (rest := []) hG hR dX12_person_39 (lkX12_94 _ rfl) okV_X12_isParent rfl rfl (m_isParent (d := 2) (by decide) hn hz) rfl rfl hdd (Nat.le_refl _) (Nat.le_refl _) (by decide) (pm_ki (fun v11 σ' cnt' hq => ?_))
        obtain ⟨rfl, rfl, hq⟩ := hq
        rcases hq with rfl | ⟨rfl, ek12 | ⟨k12, hk12, ek12⟩⟩
        · refine pm_ifN_eq (tgt := 73) hG dX12_person_42 rfl (by omega) (fun _ => ?_) (fun q => absurd q (by omega))
          refine pm_iconst (v := nI 0) hG dX12_person_73 (by decide) ?_
          refine pm_istoreXi (loc' := [some (.ref (B + 54)), some (.int za), some (.int zb), some (.int zc), some (.int zd), some (.int (nI 0)), none, none]) hG dX12_person_74 (by decide) (pm_c1b rfl) rfl ?_
          refine pm_iloadi hG dX12_person_76 rfl ?_
          refine pm_ifN_ne (tgt := 87) hG dX12_person_78 rfl (by omega) (fun q => absurd q (by omega)) (fun _ => ?_)
          refine pm_aloadn hG dX12_person_81 rfl ?_
          refine pm_iconst (v := nI 1) hG dX12_person_82 (by decide) ?_
          refine pm_callV (As := [.int (nI 1)]) (rest := []) hG hR dX12_person_83 (lkX12_80 _ rfl) okV_X12_finds rfl rfl (m_finds (d := 2) (by decide) hn hz (by omega)) rfl rfl hdd (Nat.le_refl _) (Nat.le_refl _) (by decide) (pm_ki (fun v13 σ' cnt' hq => ?_))
          obtain ⟨⟨I14, A14, rfl⟩, rfl, fv13⟩ := hq
          exact pm_iret hG hF dX12_person_86 rfl (Nat.le_refl _) (Nat.le_refl _) ⟨_, rfl, ⟨_, _, _, rfl, hn, hr, ekc0.trans ekc0.symm⟩, rfl⟩
        · refine pm_ifN_eq (tgt := 73) hG dX12_person_42 rfl (by omega) (fun q => absurd q (by omega)) (fun _ => ?_)
          refine pm_aloadn hG dX12_person_45 rfl ?_
          refine pm_iloadn hG dX12_person_46 rfl ?_
          refine pm_top (v := nI k10) ek10 ?_
          refine pm_bipush (v := nI 100) hG dX12_person_47 (by decide) ?_
          refine pm_iremM hG dX12_person_49 (by omega) (by decide) (by decide) ?_
          refine pm_iconst (v := nI 1) hG dX12_person_50 (by decide) ?_
          refine pm_isub hG dX12_person_51 ?_
          refine pm_iconst (v := nI 0) hG dX12_person_52 (by decide) ?_
          refine pm_iloadn hG dX12_person_53 rfl ?_
          refine pm_callV (As := [.int ((nI ((k10 % 100))) - (nI 1)), .int (nI 0), .int zb]) (rest := []) hG hR dX12_person_54 (lkX12_94 _ rfl) okV_X12_isParent rfl rfl (m_isParent (d := 2) (by decide) hn hz) rfl rfl hdd (Nat.le_refl _) (Nat.le_refl _) (by decide) (pm_ki (fun v15 σ' cnt' hq => ?_))
          obtain ⟨rfl, rfl, hq⟩ := hq
          rcases hq with rfl | ⟨rfl, ek16 | ⟨k16, hk16, ek16⟩⟩
          · refine pm_ifN_eq (tgt := 73) hG dX12_person_57 rfl (by omega) (fun _ => ?_) (fun q => absurd q (by omega))
            refine pm_iconst (v := nI 0) hG dX12_person_73 (by decide) ?_
            refine pm_istoreXi (loc' := [some (.ref (B + 54)), some (.int za), some (.int zb), some (.int zc), some (.int zd), some (.int (nI 0)), none, none]) hG dX12_person_74 (by decide) (pm_c1b rfl) rfl ?_
            refine pm_iloadi hG dX12_person_76 rfl ?_
            refine pm_ifN_ne (tgt := 87) hG dX12_person_78 rfl (by omega) (fun q => absurd q (by omega)) (fun _ => ?_)
            refine pm_aloadn hG dX12_person_81 rfl ?_
            refine pm_iconst (v := nI 1) hG dX12_person_82 (by decide) ?_
            refine pm_callV (As := [.int (nI 1)]) (rest := []) hG hR dX12_person_83 (lkX12_80 _ rfl) okV_X12_finds rfl rfl (m_finds (d := 2) (by decide) hn hz (by omega)) rfl rfl hdd (Nat.le_refl _) (Nat.le_refl _) (by decide) (pm_ki (fun v17 σ' cnt' hq => ?_))
            obtain ⟨⟨I18, A18, rfl⟩, rfl, fv17⟩ := hq
            exact pm_iret hG hF dX12_person_86 rfl (Nat.le_refl _) (Nat.le_refl _) ⟨_, rfl, ⟨_, _, _, rfl, hn, hr, ekc0.trans ekc0.symm⟩, rfl⟩
          · refine pm_ifN_eq (tgt := 73) hG dX12_person_57 rfl (by omega) (fun q => absurd q (by omega)) (fun _ => ?_)
            refine pm_aloadn hG dX12_person_60 rfl ?_
            refine pm_iloadi hG dX12_person_61 rfl ?_
            refine pm_callV (As := [.int zd]) (rest := []) hG hR dX12_person_63 (lkX12_84 _ rfl) okV_X12_isTown rfl rfl (m_isTown (d := 2) (by decide) ekc0 (by omega)) rfl rfl hdd (Nat.le_refl _) (Nat.le_refl _) (by decide) (pm_ki (fun v19 σ' cnt' hq => ?_))
            obtain ⟨hq, rfl, rfl⟩ := hq
            rcases hq with ⟨rfl, k21, hk21, ek21⟩ | rfl
            · refine pm_ifN_eq (tgt := 73) hG dX12_person_66 rfl (by omega) (fun q => absurd q (by omega)) (fun _ => ?_)
              refine pm_iconst (v := nI 1) hG dX12_person_69 (by decide) ?_
              refine pm_goto (tgt := 74) hG dX12_person_70 rfl ?_
              refine pm_istoreXi (loc' := [some (.ref (B + 54)), some (.int za), some (.int zb), some (.int zc), some (.int zd), some (.int (nI 1)), none, none]) hG dX12_person_74 (by decide) (pm_c1b rfl) rfl ?_
              refine pm_iloadi hG dX12_person_76 rfl ?_
              refine pm_ifN_ne (tgt := 87) hG dX12_person_78 rfl (by omega) (fun _ => ?_) (fun q => absurd q (by omega))
              refine pm_aloadn hG dX12_person_87 rfl ?_
              refine pm_getf hG dX12_person_88 (flX12_7 _ rfl) rfl rfl ?_
              refine pm_iconst (v := nI 2) hG dX12_person_91 (by decide) ?_
              refine pm_ialdN hG dX12_person_92 rfl (by decide) (by omega) ?_
              obtain ⟨k22, hk22, ek22⟩ := KI.nat hn (show kd 2 = (1, 21, true) by decide)
              refine pm_top (v := nI k22) ek22 ?_
              refine pm_istoreXi (loc' := [some (.ref (B + 54)), some (.int za), some (.int zb), some (.int zc), some (.int zd), some (.int (nI 1)), some (.int (nI k22)), none]) hG dX12_person_93 (by decide) (pm_c1b rfl) rfl ?_
              refine pm_iloadi hG dX12_person_95 rfl ?_
              refine pm_bipush (v := nI 20) hG dX12_person_97 (by decide) ?_
              refine pm_icmpN_ne (tgt := 108) hG dX12_person_99 rfl (by omega) (by omega) (fun c23 => ?_) (fun c23 => ?_)
              · refine pm_aloadn hG dX12_person_108 rfl ?_
                refine pm_getf hG dX12_person_109 (flX12_7 _ rfl) rfl rfl ?_
                refine pm_iconst (v := nI 2) hG dX12_person_112 (by decide) ?_
                refine pm_dup2 hG dX12_person_113 rfl rfl ?_
                refine pm_ialdN hG dX12_person_114 rfl (by decide) (by omega) ?_
                refine pm_top (v := nI k22) ek22 ?_
                refine pm_iconst (v := nI 1) hG dX12_person_115 (by decide) ?_
                refine pm_iaddN (c := k22 + 1) hG dX12_person_116 (by omega) ?_
                refine pm_iastN hG dX12_person_117 rfl (by decide) (by omega) ?_
                refine mdn_now (fun n_24 en_24 => ?_)
                have hnn_24 := KI.w en_24 hn (okv_n (show kd 2 = (1, 21, true) by decide) (by omega))
                have hrn_24 := NRx.pers en_24 hr ekc0 (by omega) ek22 (by omega)
                have e25 : n_24 0 = nI kc0 := by rw [en_24, pk_un (by omega)]; exact ekc0
                have e26 : n_24 8 = nI k4 := by rw [en_24, pk_un (by omega)]; exact ek4
                have e27 : n_24 2 = nI (k22 + 1) := by rw [en_24, pk_us]
                refine pm_iconst (v := nI 0) hG dX12_person_118 (by decide) ?_
                refine pm_istoreXi (loc' := [some (.ref (B + 54)), some (.int za), some (.int zb), some (.int zc), some (.int zd), some (.int (nI 1)), some (.int (nI k22)), some (.int (nI 0))]) hG dX12_person_119 (by decide) (pm_c1b rfl) rfl ?_
                refine pm_iloadi hG dX12_person_121 rfl ?_
                refine pm_bipush (v := nI 14) hG dX12_person_123 (by decide) ?_
                refine pm_icmpN_ge (tgt := 143) hG dX12_person_125 rfl (by omega) (by omega) (fun q => absurd q (by omega)) (fun _ => ?_)
                refine pm_aloadn hG dX12_person_128 rfl ?_
                refine pm_iloadi hG dX12_person_129 rfl ?_
                refine pm_iloadi hG dX12_person_131 rfl ?_
                refine pm_iconst (v := nI 0) hG dX12_person_133 (by decide) ?_
                refine pm_callV (As := [.int (nI k22), .int (nI 0), .int (nI 0)]) (rest := []) hG hR dX12_person_134 (lkX12_97 _ rfl) okV_X12_sets rfl rfl (m_sets (d := 2) (e := 14 * k22 + 110) (by omega) (by omega) (by omega)) rfl rfl hdd (Nat.le_refl _) (Nat.le_refl _) (by decide) (pm_kv (fun σ' cnt' hq => ?_))
                obtain ⟨rfl, rfl⟩ := hq
                obtain ⟨n_28, en_28⟩ : ∃ f : Nat → Int32, f = upd n_24 (14 * k22 + 110) (nI 0) := ⟨_, rfl⟩
                rw [← en_28]
                have hnn_28 := KI.w en_28 hnn_24 (okv_f (show kd (14 * k22 + 110) = (0, 0, false) from (kd_P (k := k22) (c := 0) (by omega) (by omega) (by decide))))
                have hrn_28 := NRx.w en_28 hrn_24 (by rw [(show kd (14 * k22 + 110) = (0, 0, false) from (kd_P (k := k22) (c := 0) (by omega) (by omega) (by decide)))])
                have e29 : n_28 0 = nI kc0 := by rw [en_28, pk_un (by omega)]; exact e25
                have e30 : n_28 8 = nI k4 := by rw [en_28, pk_un (by omega)]; exact e26
                have e31 : n_28 2 = nI (k22 + 1) := by rw [en_28, pk_un (by omega)]; exact e27
                have e32 : n_28 (14 * k22 + 110) = nI 0 := by rw [en_28, pk_us]
                refine pm_iincX (v := nI 1) (loc' := [some (.ref (B + 54)), some (.int za), some (.int zb), some (.int zc), some (.int zd), some (.int (nI 1)), some (.int (nI k22)), some (.int (nI 1))]) hG dX12_person_137 rfl (nI_1 _) (by decide) (pm_c1b rfl) rfl ?_
                refine pm_goto (tgt := 121) hG dX12_person_140 rfl ?_
                refine pm_iloadi hG dX12_person_121 rfl ?_
                refine pm_bipush (v := nI 14) hG dX12_person_123 (by decide) ?_
                refine pm_icmpN_ge (tgt := 143) hG dX12_person_125 rfl (by omega) (by omega) (fun q => absurd q (by omega)) (fun _ => ?_)
                refine pm_aloadn hG dX12_person_128 rfl ?_
                refine pm_iloadi hG dX12_person_129 rfl ?_
                refine pm_iloadi hG dX12_person_131 rfl ?_
                refine pm_iconst (v := nI 0) hG dX12_person_133 (by decide) ?_
                refine pm_callV (As := [.int (nI k22), .int (nI 1), .int (nI 0)]) (rest := []) hG hR dX12_person_134 (lkX12_97 _ rfl) okV_X12_sets rfl rfl (m_sets (d := 2) (e := 14 * k22 + 111) (by omega) (by omega) (by omega)) rfl rfl hdd (Nat.le_refl _) (Nat.le_refl _) (by decide) (pm_kv (fun σ' cnt' hq => ?_))
                obtain ⟨rfl, rfl⟩ := hq
                obtain ⟨n_33, en_33⟩ : ∃ f : Nat → Int32, f = upd n_28 (14 * k22 + 111) (nI 0) := ⟨_, rfl⟩
                rw [← en_33]
                have hnn_33 := KI.w en_33 hnn_28 (okv_f (show kd (14 * k22 + 111) = (0, 0, false) from (kd_P (k := k22) (c := 1) (by omega) (by omega) (by decide))))
                have hrn_33 := NRx.w en_33 hrn_28 (by rw [(show kd (14 * k22 + 111) = (0, 0, false) from (kd_P (k := k22) (c := 1) (by omega) (by omega) (by decide)))])
                have e34 : n_33 0 = nI kc0 := by rw [en_33, pk_un (by omega)]; exact e29
                have e35 : n_33 8 = nI k4 := by rw [en_33, pk_un (by omega)]; exact e30
                have e36 : n_33 2 = nI (k22 + 1) := by rw [en_33, pk_un (by omega)]; exact e31
                have e37 : n_33 (14 * k22 + 111) = nI 0 := by rw [en_33, pk_us]
                refine pm_iincX (v := nI 2) (loc' := [some (.ref (B + 54)), some (.int za), some (.int zb), some (.int zc), some (.int zd), some (.int (nI 1)), some (.int (nI k22)), some (.int (nI 2))]) hG dX12_person_137 rfl (nI_1 _) (by decide) (pm_c1b rfl) rfl ?_
                refine pm_goto (tgt := 121) hG dX12_person_140 rfl ?_
                refine pm_iloadi hG dX12_person_121 rfl ?_
                refine pm_bipush (v := nI 14) hG dX12_person_123 (by decide) ?_
                refine pm_icmpN_ge (tgt := 143) hG dX12_person_125 rfl (by omega) (by omega) (fun q => absurd q (by omega)) (fun _ => ?_)
                refine pm_aloadn hG dX12_person_128 rfl ?_
                refine pm_iloadi hG dX12_person_129 rfl ?_
                refine pm_iloadi hG dX12_person_131 rfl ?_
                refine pm_iconst (v := nI 0) hG dX12_person_133 (by decide) ?_
                refine pm_callV (As := [.int (nI k22), .int (nI 2), .int (nI 0)]) (rest := []) hG hR dX12_person_134 (lkX12_97 _ rfl) okV_X12_sets rfl rfl (m_sets (d := 2) (e := 14 * k22 + 112) (by omega) (by omega) (by omega)) rfl rfl hdd (Nat.le_refl _) (Nat.le_refl _) (by decide) (pm_kv (fun σ' cnt' hq => ?_))
                obtain ⟨rfl, rfl⟩ := hq
                obtain ⟨n_38, en_38⟩ : ∃ f : Nat → Int32, f = upd n_33 (14 * k22 + 112) (nI 0) := ⟨_, rfl⟩
                rw [← en_38]
                have hnn_38 := KI.w en_38 hnn_33 (okv_o (show kd (14 * k22 + 112) = (2, 20, false) from (kd_P (k := k22) (c := 2) (by omega) (by omega) (by decide))) (by omega))
                have hrn_38 := NRx.w en_38 hrn_33 (by rw [(show kd (14 * k22 + 112) = (2, 20, false) from (kd_P (k := k22) (c := 2) (by omega) (by omega) (by decide)))])
                have e39 : n_38 0 = nI kc0 := by rw [en_38, pk_un (by omega)]; exact e34
                have e40 : n_38 8 = nI k4 := by rw [en_38, pk_un (by omega)]; exact e35
                have e41 : n_38 2 = nI (k22 + 1) := by rw [en_38, pk_un (by omega)]; exact e36
                have e42 : n_38 (14 * k22 + 112) = nI 0 := by rw [en_38, pk_us]
                refine pm_iincX (v := nI 3) (loc' := [some (.ref (B + 54)), some (.int za), some (.int zb), some (.int zc), some (.int zd), some (.int (nI 1)), some (.int (nI k22)), some (.int (nI 3))]) hG dX12_person_137 rfl (nI_1 _) (by decide) (pm_c1b rfl) rfl ?_
                refine pm_goto (tgt := 121) hG dX12_person_140 rfl ?_
                refine pm_iloadi hG dX12_person_121 rfl ?_
                refine pm_bipush (v := nI 14) hG dX12_person_123 (by decide) ?_
                refine pm_icmpN_ge (tgt := 143) hG dX12_person_125 rfl (by omega) (by omega) (fun q => absurd q (by omega)) (fun _ => ?_)
                refine pm_aloadn hG dX12_person_128 rfl ?_
                refine pm_iloadi hG dX12_person_129 rfl ?_
                refine pm_iloadi hG dX12_person_131 rfl ?_
                refine pm_iconst (v := nI 0) hG dX12_person_133 (by decide) ?_
                refine pm_callV (As := [.int (nI k22), .int (nI 3), .int (nI 0)]) (rest := []) hG hR dX12_person_134 (lkX12_97 _ rfl) okV_X12_sets rfl rfl (m_sets (d := 2) (e := 14 * k22 + 113) (by omega) (by omega) (by omega)) rfl rfl hdd (Nat.le_refl _) (Nat.le_refl _) (by decide) (pm_kv (fun σ' cnt' hq => ?_))
                obtain ⟨rfl, rfl⟩ := hq
                obtain ⟨n_43, en_43⟩ : ∃ f : Nat → Int32, f = upd n_38 (14 * k22 + 113) (nI 0) := ⟨_, rfl⟩
                rw [← en_43]
                have hnn_43 := KI.w en_43 hnn_38 (okv_o (show kd (14 * k22 + 113) = (2, 20, false) from (kd_P (k := k22) (c := 3) (by omega) (by omega) (by decide))) (by omega))
                have hrn_43 := NRx.w en_43 hrn_38 (by rw [(show kd (14 * k22 + 113) = (2, 20, false) from (kd_P (k := k22) (c := 3) (by omega) (by omega) (by decide)))])
                have e44 : n_43 0 = nI kc0 := by rw [en_43, pk_un (by omega)]; exact e39
                have e45 : n_43 8 = nI k4 := by rw [en_43, pk_un (by omega)]; exact e40
                have e46 : n_43 2 = nI (k22 + 1) := by rw [en_43, pk_un (by omega)]; exact e41
                have e47 : n_43 (14 * k22 + 113) = nI 0 := by rw [en_43, pk_us]
                refine pm_iincX (v := nI 4) (loc' := [some (.ref (B + 54)), some (.int za), some (.int zb), some (.int zc), some (.int zd), some (.int (nI 1)), some (.int (nI k22)), some (.int (nI 4))]) hG dX12_person_137 rfl (nI_1 _) (by decide) (pm_c1b rfl) rfl ?_
                refine pm_goto (tgt := 121) hG dX12_person_140 rfl ?_
                refine pm_iloadi hG dX12_person_121 rfl ?_
                refine pm_bipush (v := nI 14) hG dX12_person_123 (by decide) ?_
                refine pm_icmpN_ge (tgt := 143) hG dX12_person_125 rfl (by omega) (by omega) (fun q => absurd q (by omega)) (fun _ => ?_)
                refine pm_aloadn hG dX12_person_128 rfl ?_
                refine pm_iloadi hG dX12_person_129 rfl ?_
                refine pm_iloadi hG dX12_person_131 rfl ?_
                refine pm_iconst (v := nI 0) hG dX12_person_133 (by decide) ?_
                refine pm_callV (As := [.int (nI k22), .int (nI 4), .int (nI 0)]) (rest := []) hG hR dX12_person_134 (lkX12_97 _ rfl) okV_X12_sets rfl rfl (m_sets (d := 2) (e := 14 * k22 + 114) (by omega) (by omega) (by omega)) rfl rfl hdd (Nat.le_refl _) (Nat.le_refl _) (by decide) (pm_kv (fun σ' cnt' hq => ?_))
                obtain ⟨rfl, rfl⟩ := hq
                obtain ⟨n_48, en_48⟩ : ∃ f : Nat → Int32, f = upd n_43 (14 * k22 + 114) (nI 0) := ⟨_, rfl⟩
                rw [← en_48]
                have hnn_48 := KI.w en_48 hnn_43 (okv_o (show kd (14 * k22 + 114) = (2, 10, false) from (kd_P (k := k22) (c := 4) (by omega) (by omega) (by decide))) (by omega))
                have hrn_48 := NRx.w en_48 hrn_43 (by rw [(show kd (14 * k22 + 114) = (2, 10, false) from (kd_P (k := k22) (c := 4) (by omega) (by omega) (by decide)))])
                have e49 : n_48 0 = nI kc0 := by rw [en_48, pk_un (by omega)]; exact e44
                have e50 : n_48 8 = nI k4 := by rw [en_48, pk_un (by omega)]; exact e45
                have e51 : n_48 2 = nI (k22 + 1) := by rw [en_48, pk_un (by omega)]; exact e46
                have e52 : n_48 (14 * k22 + 114) = nI 0 := by rw [en_48, pk_us]
                refine pm_iincX (v := nI 5) (loc' := [some (.ref (B + 54)), some (.int za), some (.int zb), some (.int zc), some (.int zd), some (.int (nI 1)), some (.int (nI k22)), some (.int (nI 5))]) hG dX12_person_137 rfl (nI_1 _) (by decide) (pm_c1b rfl) rfl ?_
                refine pm_goto (tgt := 121) hG dX12_person_140 rfl ?_
                refine pm_iloadi hG dX12_person_121 rfl ?_
                refine pm_bipush (v := nI 14) hG dX12_person_123 (by decide) ?_
                refine pm_icmpN_ge (tgt := 143) hG dX12_person_125 rfl (by omega) (by omega) (fun q => absurd q (by omega)) (fun _ => ?_)
                refine pm_aloadn hG dX12_person_128 rfl ?_
                refine pm_iloadi hG dX12_person_129 rfl ?_
                refine pm_iloadi hG dX12_person_131 rfl ?_
                refine pm_iconst (v := nI 0) hG dX12_person_133 (by decide) ?_
                refine pm_callV (As := [.int (nI k22), .int (nI 5), .int (nI 0)]) (rest := []) hG hR dX12_person_134 (lkX12_97 _ rfl) okV_X12_sets rfl rfl (m_sets (d := 2) (e := 14 * k22 + 115) (by omega) (by omega) (by omega)) rfl rfl hdd (Nat.le_refl _) (Nat.le_refl _) (by decide) (pm_kv (fun σ' cnt' hq => ?_))
                obtain ⟨rfl, rfl⟩ := hq
                obtain ⟨n_53, en_53⟩ : ∃ f : Nat → Int32, f = upd n_48 (14 * k22 + 115) (nI 0) := ⟨_, rfl⟩
                rw [← en_53]
                have hnn_53 := KI.w en_53 hnn_48 (okv_n (show kd (14 * k22 + 115) = (1, 10, false) from (kd_P (k := k22) (c := 5) (by omega) (by omega) (by decide))) (by omega))
                have hrn_53 := NRx.w en_53 hrn_48 (by rw [(show kd (14 * k22 + 115) = (1, 10, false) from (kd_P (k := k22) (c := 5) (by omega) (by omega) (by decide)))])
                have e54 : n_53 0 = nI kc0 := by rw [en_53, pk_un (by omega)]; exact e49
                have e55 : n_53 8 = nI k4 := by rw [en_53, pk_un (by omega)]; exact e50
                have e56 : n_53 2 = nI (k22 + 1) := by rw [en_53, pk_un (by omega)]; exact e51
                have e57 : n_53 (14 * k22 + 115) = nI 0 := by rw [en_53, pk_us]
                refine pm_iincX (v := nI 6) (loc' := [some (.ref (B + 54)), some (.int za), some (.int zb), some (.int zc), some (.int zd), some (.int (nI 1)), some (.int (nI k22)), some (.int (nI 6))]) hG dX12_person_137 rfl (nI_1 _) (by decide) (pm_c1b rfl) rfl ?_
                refine pm_goto (tgt := 121) hG dX12_person_140 rfl ?_
                refine pm_iloadi hG dX12_person_121 rfl ?_
                refine pm_bipush (v := nI 14) hG dX12_person_123 (by decide) ?_
                refine pm_icmpN_ge (tgt := 143) hG dX12_person_125 rfl (by omega) (by omega) (fun q => absurd q (by omega)) (fun _ => ?_)
                refine pm_aloadn hG dX12_person_128 rfl ?_
                refine pm_iloadi hG dX12_person_129 rfl ?_
                refine pm_iloadi hG dX12_person_131 rfl ?_
                refine pm_iconst (v := nI 0) hG dX12_person_133 (by decide) ?_
                refine pm_callV (As := [.int (nI k22), .int (nI 6), .int (nI 0)]) (rest := []) hG hR dX12_person_134 (lkX12_97 _ rfl) okV_X12_sets rfl rfl (m_sets (d := 2) (e := 14 * k22 + 116) (by omega) (by omega) (by omega)) rfl rfl hdd (Nat.le_refl _) (Nat.le_refl _) (by decide) (pm_kv (fun σ' cnt' hq => ?_))
                obtain ⟨rfl, rfl⟩ := hq
                obtain ⟨n_58, en_58⟩ : ∃ f : Nat → Int32, f = upd n_53 (14 * k22 + 116) (nI 0) := ⟨_, rfl⟩
                rw [← en_58]
                have hnn_58 := KI.w en_58 hnn_53 (okv_f (show kd (14 * k22 + 116) = (0, 0, false) from (kd_P (k := k22) (c := 6) (by omega) (by omega) (by decide))))
                have hrn_58 := NRx.w en_58 hrn_53 (by rw [(show kd (14 * k22 + 116) = (0, 0, false) from (kd_P (k := k22) (c := 6) (by omega) (by omega) (by decide)))])
                have e59 : n_58 0 = nI kc0 := by rw [en_58, pk_un (by omega)]; exact e54
                have e60 : n_58 8 = nI k4 := by rw [en_58, pk_un (by omega)]; exact e55
                have e61 : n_58 2 = nI (k22 + 1) := by rw [en_58, pk_un (by omega)]; exact e56
                have e62 : n_58 (14 * k22 + 116) = nI 0 := by rw [en_58, pk_us]
                refine pm_iincX (v := nI 7) (loc' := [some (.ref (B + 54)), some (.int za), some (.int zb), some (.int zc), some (.int zd), some (.int (nI 1)), some (.int (nI k22)), some (.int (nI 7))]) hG dX12_person_137 rfl (nI_1 _) (by decide) (pm_c1b rfl) rfl ?_
                refine pm_goto (tgt := 121) hG dX12_person_140 rfl ?_
                refine pm_iloadi hG dX12_person_121 rfl ?_
                refine pm_bipush (v := nI 14) hG dX12_person_123 (by decide) ?_
                refine pm_icmpN_ge (tgt := 143) hG dX12_person_125 rfl (by omega) (by omega) (fun q => absurd q (by omega)) (fun _ => ?_)
                refine pm_aloadn hG dX12_person_128 rfl ?_
                refine pm_iloadi hG dX12_person_129 rfl ?_
                refine pm_iloadi hG dX12_person_131 rfl ?_
                refine pm_iconst (v := nI 0) hG dX12_person_133 (by decide) ?_
                refine pm_callV (As := [.int (nI k22), .int (nI 7), .int (nI 0)]) (rest := []) hG hR dX12_person_134 (lkX12_97 _ rfl) okV_X12_sets rfl rfl (m_sets (d := 2) (e := 14 * k22 + 117) (by omega) (by omega) (by omega)) rfl rfl hdd (Nat.le_refl _) (Nat.le_refl _) (by decide) (pm_kv (fun σ' cnt' hq => ?_))
                obtain ⟨rfl, rfl⟩ := hq
                obtain ⟨n_63, en_63⟩ : ∃ f : Nat → Int32, f = upd n_58 (14 * k22 + 117) (nI 0) := ⟨_, rfl⟩
                rw [← en_63]
                have hnn_63 := KI.w en_63 hnn_58 (okv_f (show kd (14 * k22 + 117) = (0, 0, false) from (kd_P (k := k22) (c := 7) (by omega) (by omega) (by decide))))
                have hrn_63 := NRx.w en_63 hrn_58 (by rw [(show kd (14 * k22 + 117) = (0, 0, false) from (kd_P (k := k22) (c := 7) (by omega) (by omega) (by decide)))])
                have e64 : n_63 0 = nI kc0 := by rw [en_63, pk_un (by omega)]; exact e59
                have e65 : n_63 8 = nI k4 := by rw [en_63, pk_un (by omega)]; exact e60
                have e66 : n_63 2 = nI (k22 + 1) := by rw [en_63, pk_un (by omega)]; exact e61
                have e67 : n_63 (14 * k22 + 117) = nI 0 := by rw [en_63, pk_us]
                refine pm_iincX (v := nI 8) (loc' := [some (.ref (B + 54)), some (.int za), some (.int zb), some (.int zc), some (.int zd), some (.int (nI 1)), some (.int (nI k22)), some (.int (nI 8))]) hG dX12_person_137 rfl (nI_1 _) (by decide) (pm_c1b rfl) rfl ?_
                refine pm_goto (tgt := 121) hG dX12_person_140 rfl ?_
                refine pm_iloadi hG dX12_person_121 rfl ?_
                refine pm_bipush (v := nI 14) hG dX12_person_123 (by decide) ?_
                refine pm_icmpN_ge (tgt := 143) hG dX12_person_125 rfl (by omega) (by omega) (fun q => absurd q (by omega)) (fun _ => ?_)
                refine pm_aloadn hG dX12_person_128 rfl ?_
                refine pm_iloadi hG dX12_person_129 rfl ?_
                refine pm_iloadi hG dX12_person_131 rfl ?_
                refine pm_iconst (v := nI 0) hG dX12_person_133 (by decide) ?_
                refine pm_callV (As := [.int (nI k22), .int (nI 8), .int (nI 0)]) (rest := []) hG hR dX12_person_134 (lkX12_97 _ rfl) okV_X12_sets rfl rfl (m_sets (d := 2) (e := 14 * k22 + 118) (by omega) (by omega) (by omega)) rfl rfl hdd (Nat.le_refl _) (Nat.le_refl _) (by decide) (pm_kv (fun σ' cnt' hq => ?_))
                obtain ⟨rfl, rfl⟩ := hq
                obtain ⟨n_68, en_68⟩ : ∃ f : Nat → Int32, f = upd n_63 (14 * k22 + 118) (nI 0) := ⟨_, rfl⟩
                rw [← en_68]
                have hnn_68 := KI.w en_68 hnn_63 (okv_f (show kd (14 * k22 + 118) = (0, 0, false) from (kd_P (k := k22) (c := 8) (by omega) (by omega) (by decide))))
                have hrn_68 := NRx.w en_68 hrn_63 (by rw [(show kd (14 * k22 + 118) = (0, 0, false) from (kd_P (k := k22) (c := 8) (by omega) (by omega) (by decide)))])
                have e69 : n_68 0 = nI kc0 := by rw [en_68, pk_un (by omega)]; exact e64
                have e70 : n_68 8 = nI k4 := by rw [en_68, pk_un (by omega)]; exact e65
                have e71 : n_68 2 = nI (k22 + 1) := by rw [en_68, pk_un (by omega)]; exact e66
                have e72 : n_68 (14 * k22 + 118) = nI 0 := by rw [en_68, pk_us]
                refine pm_iincX (v := nI 9) (loc' := [some (.ref (B + 54)), some (.int za), some (.int zb), some (.int zc), some (.int zd), some (.int (nI 1)), some (.int (nI k22)), some (.int (nI 9))]) hG dX12_person_137 rfl (nI_1 _) (by decide) (pm_c1b rfl) rfl ?_
                refine pm_goto (tgt := 121) hG dX12_person_140 rfl ?_
                refine pm_iloadi hG dX12_person_121 rfl ?_
                refine pm_bipush (v := nI 14) hG dX12_person_123 (by decide) ?_
                refine pm_icmpN_ge (tgt := 143) hG dX12_person_125 rfl (by omega) (by omega) (fun q => absurd q (by omega)) (fun _ => ?_)
                refine pm_aloadn hG dX12_person_128 rfl ?_
                refine pm_iloadi hG dX12_person_129 rfl ?_
                refine pm_iloadi hG dX12_person_131 rfl ?_
                refine pm_iconst (v := nI 0) hG dX12_person_133 (by decide) ?_
                refine pm_callV (As := [.int (nI k22), .int (nI 9), .int (nI 0)]) (rest := []) hG hR dX12_person_134 (lkX12_97 _ rfl) okV_X12_sets rfl rfl (m_sets (d := 2) (e := 14 * k22 + 119) (by omega) (by omega) (by omega)) rfl rfl hdd (Nat.le_refl _) (Nat.le_refl _) (by decide) (pm_kv (fun σ' cnt' hq => ?_))
                obtain ⟨rfl, rfl⟩ := hq
                obtain ⟨n_73, en_73⟩ : ∃ f : Nat → Int32, f = upd n_68 (14 * k22 + 119) (nI 0) := ⟨_, rfl⟩
                rw [← en_73]
                have hnn_73 := KI.w en_73 hnn_68 (okv_o (show kd (14 * k22 + 119) = (2, 2001, false) from (kd_P (k := k22) (c := 9) (by omega) (by omega) (by decide))) (by omega))
                have hrn_73 := NRx.w en_73 hrn_68 (by rw [(show kd (14 * k22 + 119) = (2, 2001, false) from (kd_P (k := k22) (c := 9) (by omega) (by omega) (by decide)))])
                have e74 : n_73 0 = nI kc0 := by rw [en_73, pk_un (by omega)]; exact e69
                have e75 : n_73 8 = nI k4 := by rw [en_73, pk_un (by omega)]; exact e70
                have e76 : n_73 2 = nI (k22 + 1) := by rw [en_73, pk_un (by omega)]; exact e71
                have e77 : n_73 (14 * k22 + 119) = nI 0 := by rw [en_73, pk_us]
                refine pm_iincX (v := nI 10) (loc' := [some (.ref (B + 54)), some (.int za), some (.int zb), some (.int zc), some (.int zd), some (.int (nI 1)), some (.int (nI k22)), some (.int (nI 10))]) hG dX12_person_137 rfl (nI_1 _) (by decide) (pm_c1b rfl) rfl ?_
                refine pm_goto (tgt := 121) hG dX12_person_140 rfl ?_
                refine pm_iloadi hG dX12_person_121 rfl ?_
                refine pm_bipush (v := nI 14) hG dX12_person_123 (by decide) ?_
                refine pm_icmpN_ge (tgt := 143) hG dX12_person_125 rfl (by omega) (by omega) (fun q => absurd q (by omega)) (fun _ => ?_)
                refine pm_aloadn hG dX12_person_128 rfl ?_
                refine pm_iloadi hG dX12_person_129 rfl ?_
                refine pm_iloadi hG dX12_person_131 rfl ?_
                refine pm_iconst (v := nI 0) hG dX12_person_133 (by decide) ?_
                refine pm_callV (As := [.int (nI k22), .int (nI 10), .int (nI 0)]) (rest := []) hG hR dX12_person_134 (lkX12_97 _ rfl) okV_X12_sets rfl rfl (m_sets (d := 2) (e := 14 * k22 + 120) (by omega) (by omega) (by omega)) rfl rfl hdd (Nat.le_refl _) (Nat.le_refl _) (by decide) (pm_kv (fun σ' cnt' hq => ?_))
                obtain ⟨rfl, rfl⟩ := hq
                obtain ⟨n_78, en_78⟩ : ∃ f : Nat → Int32, f = upd n_73 (14 * k22 + 120) (nI 0) := ⟨_, rfl⟩
                rw [← en_78]
                have hnn_78 := KI.w en_78 hnn_73 (okv_f (show kd (14 * k22 + 120) = (0, 0, false) from (kd_P (k := k22) (c := 10) (by omega) (by omega) (by decide))))
                have hrn_78 := NRx.w en_78 hrn_73 (by rw [(show kd (14 * k22 + 120) = (0, 0, false) from (kd_P (k := k22) (c := 10) (by omega) (by omega) (by decide)))])
                have e79 : n_78 0 = nI kc0 := by rw [en_78, pk_un (by omega)]; exact e74
                have e80 : n_78 8 = nI k4 := by rw [en_78, pk_un (by omega)]; exact e75
                have e81 : n_78 2 = nI (k22 + 1) := by rw [en_78, pk_un (by omega)]; exact e76
                have e82 : n_78 (14 * k22 + 120) = nI 0 := by rw [en_78, pk_us]
                refine pm_iincX (v := nI 11) (loc' := [some (.ref (B + 54)), some (.int za), some (.int zb), some (.int zc), some (.int zd), some (.int (nI 1)), some (.int (nI k22)), some (.int (nI 11))]) hG dX12_person_137 rfl (nI_1 _) (by decide) (pm_c1b rfl) rfl ?_
                refine pm_goto (tgt := 121) hG dX12_person_140 rfl ?_
                refine pm_iloadi hG dX12_person_121 rfl ?_
                refine pm_bipush (v := nI 14) hG dX12_person_123 (by decide) ?_
                refine pm_icmpN_ge (tgt := 143) hG dX12_person_125 rfl (by omega) (by omega) (fun q => absurd q (by omega)) (fun _ => ?_)
                refine pm_aloadn hG dX12_person_128 rfl ?_
                refine pm_iloadi hG dX12_person_129 rfl ?_
                refine pm_iloadi hG dX12_person_131 rfl ?_
                refine pm_iconst (v := nI 0) hG dX12_person_133 (by decide) ?_
                refine pm_callV (As := [.int (nI k22), .int (nI 11), .int (nI 0)]) (rest := []) hG hR dX12_person_134 (lkX12_97 _ rfl) okV_X12_sets rfl rfl (m_sets (d := 2) (e := 14 * k22 + 121) (by omega) (by omega) (by omega)) rfl rfl hdd (Nat.le_refl _) (Nat.le_refl _) (by decide) (pm_kv (fun σ' cnt' hq => ?_))
                obtain ⟨rfl, rfl⟩ := hq
                obtain ⟨n_83, en_83⟩ : ∃ f : Nat → Int32, f = upd n_78 (14 * k22 + 121) (nI 0) := ⟨_, rfl⟩
                rw [← en_83]
                have hnn_83 := KI.w en_83 hnn_78 (okv_n (show kd (14 * k22 + 121) = (1, 2, true) from (kd_P (k := k22) (c := 11) (by omega) (by omega) (by decide))) (by omega))
                have hrn_83 := NRx.unseat (p := k22) en_83 hrn_78 (by omega)
                have e84 : n_83 0 = nI kc0 := by rw [en_83, pk_un (by omega)]; exact e79
                have e85 : n_83 8 = nI k4 := by rw [en_83, pk_un (by omega)]; exact e80
                have e86 : n_83 2 = nI (k22 + 1) := by rw [en_83, pk_un (by omega)]; exact e81
                have e87 : n_83 (14 * k22 + 121) = nI 0 := by rw [en_83, pk_us]
                refine pm_iincX (v := nI 12) (loc' := [some (.ref (B + 54)), some (.int za), some (.int zb), some (.int zc), some (.int zd), some (.int (nI 1)), some (.int (nI k22)), some (.int (nI 12))]) hG dX12_person_137 rfl (nI_1 _) (by decide) (pm_c1b rfl) rfl ?_
                refine pm_goto (tgt := 121) hG dX12_person_140 rfl ?_
                refine pm_iloadi hG dX12_person_121 rfl ?_
                refine pm_bipush (v := nI 14) hG dX12_person_123 (by decide) ?_
                refine pm_icmpN_ge (tgt := 143) hG dX12_person_125 rfl (by omega) (by omega) (fun q => absurd q (by omega)) (fun _ => ?_)
                refine pm_aloadn hG dX12_person_128 rfl ?_
                refine pm_iloadi hG dX12_person_129 rfl ?_
                refine pm_iloadi hG dX12_person_131 rfl ?_
                refine pm_iconst (v := nI 0) hG dX12_person_133 (by decide) ?_
                refine pm_callV (As := [.int (nI k22), .int (nI 12), .int (nI 0)]) (rest := []) hG hR dX12_person_134 (lkX12_97 _ rfl) okV_X12_sets rfl rfl (m_sets (d := 2) (e := 14 * k22 + 122) (by omega) (by omega) (by omega)) rfl rfl hdd (Nat.le_refl _) (Nat.le_refl _) (by decide) (pm_kv (fun σ' cnt' hq => ?_))
                obtain ⟨rfl, rfl⟩ := hq
                obtain ⟨n_88, en_88⟩ : ∃ f : Nat → Int32, f = upd n_83 (14 * k22 + 122) (nI 0) := ⟨_, rfl⟩
                rw [← en_88]
                have hnn_88 := KI.w en_88 hnn_83 (okv_f (show kd (14 * k22 + 122) = (0, 0, false) from (kd_P (k := k22) (c := 12) (by omega) (by omega) (by decide))))
                have hrn_88 := NRx.w en_88 hrn_83 (by rw [(show kd (14 * k22 + 122) = (0, 0, false) from (kd_P (k := k22) (c := 12) (by omega) (by omega) (by decide)))])
                have e89 : n_88 0 = nI kc0 := by rw [en_88, pk_un (by omega)]; exact e84
                have e90 : n_88 8 = nI k4 := by rw [en_88, pk_un (by omega)]; exact e85
                have e91 : n_88 2 = nI (k22 + 1) := by rw [en_88, pk_un (by omega)]; exact e86
                have e92 : n_88 (14 * k22 + 122) = nI 0 := by rw [en_88, pk_us]
                refine pm_iincX (v := nI 13) (loc' := [some (.ref (B + 54)), some (.int za), some (.int zb), some (.int zc), some (.int zd), some (.int (nI 1)), some (.int (nI k22)), some (.int (nI 13))]) hG dX12_person_137 rfl (nI_1 _) (by decide) (pm_c1b rfl) rfl ?_
                refine pm_goto (tgt := 121) hG dX12_person_140 rfl ?_
                refine pm_iloadi hG dX12_person_121 rfl ?_
                refine pm_bipush (v := nI 14) hG dX12_person_123 (by decide) ?_
                refine pm_icmpN_ge (tgt := 143) hG dX12_person_125 rfl (by omega) (by omega) (fun q => absurd q (by omega)) (fun _ => ?_)
                refine pm_aloadn hG dX12_person_128 rfl ?_
                refine pm_iloadi hG dX12_person_129 rfl ?_
                refine pm_iloadi hG dX12_person_131 rfl ?_
                refine pm_iconst (v := nI 0) hG dX12_person_133 (by decide) ?_
                refine pm_callV (As := [.int (nI k22), .int (nI 13), .int (nI 0)]) (rest := []) hG hR dX12_person_134 (lkX12_97 _ rfl) okV_X12_sets rfl rfl (m_sets (d := 2) (e := 14 * k22 + 123) (by omega) (by omega) (by omega)) rfl rfl hdd (Nat.le_refl _) (Nat.le_refl _) (by decide) (pm_kv (fun σ' cnt' hq => ?_))
                obtain ⟨rfl, rfl⟩ := hq
                obtain ⟨n_93, en_93⟩ : ∃ f : Nat → Int32, f = upd n_88 (14 * k22 + 123) (nI 0) := ⟨_, rfl⟩
                rw [← en_93]
                have hnn_93 := KI.w en_93 hnn_88 (okv_f (show kd (14 * k22 + 123) = (0, 0, false) from (kd_P (k := k22) (c := 13) (by omega) (by omega) (by decide))))
                have hrn_93 := NRx.w en_93 hrn_88 (by rw [(show kd (14 * k22 + 123) = (0, 0, false) from (kd_P (k := k22) (c := 13) (by omega) (by omega) (by decide)))])
                have e94 : n_93 0 = nI kc0 := by rw [en_93, pk_un (by omega)]; exact e89
                have e95 : n_93 8 = nI k4 := by rw [en_93, pk_un (by omega)]; exact e90
                have e96 : n_93 2 = nI (k22 + 1) := by rw [en_93, pk_un (by omega)]; exact e91
                have e97 : n_93 (14 * k22 + 123) = nI 0 := by rw [en_93, pk_us]
                refine pm_iincX (v := nI 14) (loc' := [some (.ref (B + 54)), some (.int za), some (.int zb), some (.int zc), some (.int zd), some (.int (nI 1)), some (.int (nI k22)), some (.int (nI 14))]) hG dX12_person_137 rfl (nI_1 _) (by decide) (pm_c1b rfl) rfl ?_
                refine pm_goto (tgt := 121) hG dX12_person_140 rfl ?_
                refine pm_iloadi hG dX12_person_121 rfl ?_
                refine pm_bipush (v := nI 14) hG dX12_person_123 (by decide) ?_
                refine pm_icmpN_ge (tgt := 143) hG dX12_person_125 rfl (by omega) (by omega) (fun _ => ?_) (fun q => absurd q (by omega))
                refine pm_aloadn hG dX12_person_143 rfl ?_
                refine pm_iloadi hG dX12_person_144 rfl ?_
                refine pm_iconst (v := nI 0) hG dX12_person_146 (by decide) ?_
                refine pm_iloadn hG dX12_person_147 rfl ?_
                refine pm_top (v := nI k3) ek3 ?_
                refine pm_callV (As := [.int (nI k22), .int (nI 0), .int (nI k3)]) (rest := []) hG hR dX12_person_148 (lkX12_97 _ rfl) okV_X12_sets rfl rfl (m_sets (d := 2) (e := 14 * k22 + 110) (by omega) (by omega) (by omega)) rfl rfl hdd (Nat.le_refl _) (Nat.le_refl _) (by decide) (pm_kv (fun σ' cnt' hq => ?_))
                obtain ⟨rfl, rfl⟩ := hq
                obtain ⟨n_98, en_98⟩ : ∃ f : Nat → Int32, f = upd n_93 (14 * k22 + 110) (nI k3) := ⟨_, rfl⟩
                rw [← en_98]
                have hnn_98 := KI.w en_98 hnn_93 (okv_f (show kd (14 * k22 + 110) = (0, 0, false) from (kd_P (k := k22) (c := 0) (by omega) (by omega) (by decide))))
                have hrn_98 := NRx.w en_98 hrn_93 (by rw [(show kd (14 * k22 + 110) = (0, 0, false) from (kd_P (k := k22) (c := 0) (by omega) (by omega) (by decide)))])
                have e99 : n_98 0 = nI kc0 := by rw [en_98, pk_un (by omega)]; exact e94
                have e100 : n_98 8 = nI k4 := by rw [en_98, pk_un (by omega)]; exact e95
                have e101 : n_98 2 = nI (k22 + 1) := by rw [en_98, pk_un (by omega)]; exact e96
                have e102 : n_98 (14 * k22 + 110) = nI k3 := by rw [en_98, pk_us]
                refine pm_aloadn hG dX12_person_151 rfl ?_
                refine pm_iloadi hG dX12_person_152 rfl ?_
                refine pm_iconst (v := nI 1) hG dX12_person_154 (by decide) ?_
                refine pm_iloadn hG dX12_person_155 rfl ?_
                refine pm_callV (As := [.int (nI k22), .int (nI 1), .int zb]) (rest := []) hG hR dX12_person_156 (lkX12_97 _ rfl) okV_X12_sets rfl rfl (m_sets (d := 2) (e := 14 * k22 + 111) (by omega) (by omega) (by omega)) rfl rfl hdd (Nat.le_refl _) (Nat.le_refl _) (by decide) (pm_kv (fun σ' cnt' hq => ?_))
                obtain ⟨rfl, rfl⟩ := hq
                obtain ⟨n_103, en_103⟩ : ∃ f : Nat → Int32, f = upd n_98 (14 * k22 + 111) zb := ⟨_, rfl⟩
                rw [← en_103]
                have hnn_103 := KI.w en_103 hnn_98 (okv_f (show kd (14 * k22 + 111) = (0, 0, false) from (kd_P (k := k22) (c := 1) (by omega) (by omega) (by decide))))
                have hrn_103 := NRx.w en_103 hrn_98 (by rw [(show kd (14 * k22 + 111) = (0, 0, false) from (kd_P (k := k22) (c := 1) (by omega) (by omega) (by decide)))])
                have e104 : n_103 0 = nI kc0 := by rw [en_103, pk_un (by omega)]; exact e99
                have e105 : n_103 8 = nI k4 := by rw [en_103, pk_un (by omega)]; exact e100
                have e106 : n_103 2 = nI (k22 + 1) := by rw [en_103, pk_un (by omega)]; exact e101
                have e107 : n_103 (14 * k22 + 111) = zb := by rw [en_103, pk_us]
                refine pm_aloadn hG dX12_person_159 rfl ?_
                refine pm_iloadi hG dX12_person_160 rfl ?_
                refine pm_iconst (v := nI 2) hG dX12_person_162 (by decide) ?_
                refine pm_iloadn hG dX12_person_163 rfl ?_
                refine pm_top (v := nI k10) ek10 ?_
                refine pm_bipush (v := nI 100) hG dX12_person_164 (by decide) ?_
                refine pm_idivN hG dX12_person_166 (by omega) (by decide) (by decide) ?_
                refine pm_iconst (v := nI 1) hG dX12_person_167 (by decide) ?_
                refine pm_isub hG dX12_person_168 ?_
                refine pm_top (v := (-1)) ek12 ?_
                refine pm_callV (As := [.int (nI k22), .int (nI 2), .int (-1)]) (rest := []) hG hR dX12_person_169 (lkX12_97 _ rfl) okV_X12_sets rfl rfl (m_sets (d := 2) (e := 14 * k22 + 112) (by omega) (by omega) (by omega)) rfl rfl hdd (Nat.le_refl _) (Nat.le_refl _) (by decide) (pm_kv (fun σ' cnt' hq => ?_))
                obtain ⟨rfl, rfl⟩ := hq
                obtain ⟨n_108, en_108⟩ : ∃ f : Nat → Int32, f = upd n_103 (14 * k22 + 112) (-1) := ⟨_, rfl⟩
                rw [← en_108]
                have hnn_108 := KI.w en_108 hnn_103 (okv_m (show kd (14 * k22 + 112) = (2, 20, false) from (kd_P (k := k22) (c := 2) (by omega) (by omega) (by decide))))
                have hrn_108 := NRx.w en_108 hrn_103 (by rw [(show kd (14 * k22 + 112) = (2, 20, false) from (kd_P (k := k22) (c := 2) (by omega) (by omega) (by decide)))])
                have e109 : n_108 0 = nI kc0 := by rw [en_108, pk_un (by omega)]; exact e104
                have e110 : n_108 8 = nI k4 := by rw [en_108, pk_un (by omega)]; exact e105
                have e111 : n_108 2 = nI (k22 + 1) := by rw [en_108, pk_un (by omega)]; exact e106
                have e112 : n_108 (14 * k22 + 112) = (-1) := by rw [en_108, pk_us]
                refine pm_aloadn hG dX12_person_172 rfl ?_
                refine pm_iloadi hG dX12_person_173 rfl ?_
                refine pm_iconst (v := nI 3) hG dX12_person_175 (by decide) ?_
                refine pm_iloadn hG dX12_person_176 rfl ?_
                refine pm_top (v := nI k10) ek10 ?_
                refine pm_bipush (v := nI 100) hG dX12_person_177 (by decide) ?_
                refine pm_iremM hG dX12_person_179 (by omega) (by decide) (by decide) ?_
                refine pm_iconst (v := nI 1) hG dX12_person_180 (by decide) ?_
                refine pm_isub hG dX12_person_181 ?_
                refine pm_top (v := (-1)) ek16 ?_
                refine pm_callV (As := [.int (nI k22), .int (nI 3), .int (-1)]) (rest := []) hG hR dX12_person_182 (lkX12_97 _ rfl) okV_X12_sets rfl rfl (m_sets (d := 2) (e := 14 * k22 + 113) (by omega) (by omega) (by omega)) rfl rfl hdd (Nat.le_refl _) (Nat.le_refl _) (by decide) (pm_kv (fun σ' cnt' hq => ?_))
                obtain ⟨rfl, rfl⟩ := hq
                obtain ⟨n_113, en_113⟩ : ∃ f : Nat → Int32, f = upd n_108 (14 * k22 + 113) (-1) := ⟨_, rfl⟩
                rw [← en_113]
                have hnn_113 := KI.w en_113 hnn_108 (okv_m (show kd (14 * k22 + 113) = (2, 20, false) from (kd_P (k := k22) (c := 3) (by omega) (by omega) (by decide))))
                have hrn_113 := NRx.w en_113 hrn_108 (by rw [(show kd (14 * k22 + 113) = (2, 20, false) from (kd_P (k := k22) (c := 3) (by omega) (by omega) (by decide)))])
                have e114 : n_113 0 = nI kc0 := by rw [en_113, pk_un (by omega)]; exact e109
                have e115 : n_113 8 = nI k4 := by rw [en_113, pk_un (by omega)]; exact e110
                have e116 : n_113 2 = nI (k22 + 1) := by rw [en_113, pk_un (by omega)]; exact e111
                have e117 : n_113 (14 * k22 + 113) = (-1) := by rw [en_113, pk_us]
                refine pm_aloadn hG dX12_person_185 rfl ?_
                refine pm_iloadi hG dX12_person_186 rfl ?_
                refine pm_iconst (v := nI 4) hG dX12_person_188 (by decide) ?_
                refine pm_iloadi hG dX12_person_189 rfl ?_
                refine pm_top (v := nI k21) ek21 ?_
                refine pm_callV (As := [.int (nI k22), .int (nI 4), .int (nI k21)]) (rest := []) hG hR dX12_person_191 (lkX12_97 _ rfl) okV_X12_sets rfl rfl (m_sets (d := 2) (e := 14 * k22 + 114) (by omega) (by omega) (by omega)) rfl rfl hdd (Nat.le_refl _) (Nat.le_refl _) (by decide) (pm_kv (fun σ' cnt' hq => ?_))
                obtain ⟨rfl, rfl⟩ := hq
                obtain ⟨n_118, en_118⟩ : ∃ f : Nat → Int32, f = upd n_113 (14 * k22 + 114) (nI k21) := ⟨_, rfl⟩
                rw [← en_118]
                have hnn_118 := KI.w en_118 hnn_113 (okv_o (show kd (14 * k22 + 114) = (2, 10, false) from (kd_P (k := k22) (c := 4) (by omega) (by omega) (by decide))) (by omega))
                have hrn_118 := NRx.w en_118 hrn_113 (by rw [(show kd (14 * k22 + 114) = (2, 10, false) from (kd_P (k := k22) (c := 4) (by omega) (by omega) (by decide)))])
                have e119 : n_118 0 = nI kc0 := by rw [en_118, pk_un (by omega)]; exact e114
                have e120 : n_118 8 = nI k4 := by rw [en_118, pk_un (by omega)]; exact e115
                have e121 : n_118 2 = nI (k22 + 1) := by rw [en_118, pk_un (by omega)]; exact e116
                have e122 : n_118 (14 * k22 + 114) = nI k21 := by rw [en_118, pk_us]
                refine pm_aloadn hG dX12_person_194 rfl ?_
                refine pm_iloadi hG dX12_person_195 rfl ?_
                refine pm_bipush (v := nI 9) hG dX12_person_197 (by decide) ?_
                refine pm_iconst (v := (-1)) hG dX12_person_199 (by decide) ?_
                refine pm_callV (As := [.int (nI k22), .int (nI 9), .int (-1)]) (rest := []) hG hR dX12_person_200 (lkX12_97 _ rfl) okV_X12_sets rfl rfl (m_sets (d := 2) (e := 14 * k22 + 119) (by omega) (by omega) (by omega)) rfl rfl hdd (Nat.le_refl _) (Nat.le_refl _) (by decide) (pm_kv (fun σ' cnt' hq => ?_))
                obtain ⟨rfl, rfl⟩ := hq
                obtain ⟨n_123, en_123⟩ : ∃ f : Nat → Int32, f = upd n_118 (14 * k22 + 119) (-1) := ⟨_, rfl⟩
                rw [← en_123]
                have hnn_123 := KI.w en_123 hnn_118 (okv_m (show kd (14 * k22 + 119) = (2, 2001, false) from (kd_P (k := k22) (c := 9) (by omega) (by omega) (by decide))))
                have hrn_123 := NRx.w en_123 hrn_118 (by rw [(show kd (14 * k22 + 119) = (2, 2001, false) from (kd_P (k := k22) (c := 9) (by omega) (by omega) (by decide)))])
                have e124 : n_123 0 = nI kc0 := by rw [en_123, pk_un (by omega)]; exact e119
                have e125 : n_123 8 = nI k4 := by rw [en_123, pk_un (by omega)]; exact e120
                have e126 : n_123 2 = nI (k22 + 1) := by rw [en_123, pk_un (by omega)]; exact e121
                have e127 : n_123 (14 * k22 + 119) = (-1) := by rw [en_123, pk_us]
                refine pm_aloadn hG dX12_person_203 rfl ?_
                refine pm_iloadi hG dX12_person_204 rfl ?_
                refine pm_bipush (v := nI 10) hG dX12_person_206 (by decide) ?_
                refine pm_iconst (v := (-1)) hG dX12_person_208 (by decide) ?_
                refine pm_callV (As := [.int (nI k22), .int (nI 10), .int (-1)]) (rest := []) hG hR dX12_person_209 (lkX12_97 _ rfl) okV_X12_sets rfl rfl (m_sets (d := 2) (e := 14 * k22 + 120) (by omega) (by omega) (by omega)) rfl rfl hdd (Nat.le_refl _) (Nat.le_refl _) (by decide) (pm_kv (fun σ' cnt' hq => ?_))
                obtain ⟨rfl, rfl⟩ := hq
                obtain ⟨n_128, en_128⟩ : ∃ f : Nat → Int32, f = upd n_123 (14 * k22 + 120) (-1) := ⟨_, rfl⟩
                rw [← en_128]
                have hnn_128 := KI.w en_128 hnn_123 (okv_f (show kd (14 * k22 + 120) = (0, 0, false) from (kd_P (k := k22) (c := 10) (by omega) (by omega) (by decide))))
                have hrn_128 := NRx.w en_128 hrn_123 (by rw [(show kd (14 * k22 + 120) = (0, 0, false) from (kd_P (k := k22) (c := 10) (by omega) (by omega) (by decide)))])
                have e129 : n_128 0 = nI kc0 := by rw [en_128, pk_un (by omega)]; exact e124
                have e130 : n_128 8 = nI k4 := by rw [en_128, pk_un (by omega)]; exact e125
                have e131 : n_128 2 = nI (k22 + 1) := by rw [en_128, pk_un (by omega)]; exact e126
                have e132 : n_128 (14 * k22 + 120) = (-1) := by rw [en_128, pk_us]
                refine pm_aloadn hG dX12_person_212 rfl ?_
                refine pm_iloadi hG dX12_person_213 rfl ?_
                refine pm_bipush (v := nI 12) hG dX12_person_215 (by decide) ?_
                refine pm_iconst (v := nI 1) hG dX12_person_217 (by decide) ?_
                refine pm_callV (As := [.int (nI k22), .int (nI 12), .int (nI 1)]) (rest := []) hG hR dX12_person_218 (lkX12_97 _ rfl) okV_X12_sets rfl rfl (m_sets (d := 2) (e := 14 * k22 + 122) (by omega) (by omega) (by omega)) rfl rfl hdd (Nat.le_refl _) (Nat.le_refl _) (by decide) (pm_kv (fun σ' cnt' hq => ?_))
                obtain ⟨rfl, rfl⟩ := hq
                obtain ⟨n_133, en_133⟩ : ∃ f : Nat → Int32, f = upd n_128 (14 * k22 + 122) (nI 1) := ⟨_, rfl⟩
                rw [← en_133]
                have hnn_133 := KI.w en_133 hnn_128 (okv_f (show kd (14 * k22 + 122) = (0, 0, false) from (kd_P (k := k22) (c := 12) (by omega) (by omega) (by decide))))
                have hrn_133 := NRx.w en_133 hrn_128 (by rw [(show kd (14 * k22 + 122) = (0, 0, false) from (kd_P (k := k22) (c := 12) (by omega) (by omega) (by decide)))])
                have e134 : n_133 0 = nI kc0 := by rw [en_133, pk_un (by omega)]; exact e129
                have e135 : n_133 8 = nI k4 := by rw [en_133, pk_un (by omega)]; exact e130
                have e136 : n_133 2 = nI (k22 + 1) := by rw [en_133, pk_un (by omega)]; exact e131
                have e137 : n_133 (14 * k22 + 122) = nI 1 := by rw [en_133, pk_us]
                refine pm_iloadi hG dX12_person_221 rfl ?_
                exact pm_iret hG hF dX12_person_223 rfl (Nat.le_refl _) (Nat.le_refl _) ⟨_, rfl, ⟨_, _, _, rfl, hnn_133, hrn_133, e134.trans ekc0.symm⟩, rfl⟩
              · refine pm_aloadn hG dX12_person_102 rfl ?_
                refine pm_iconst (v := nI 4) hG dX12_person_103 (by decide) ?_
                refine pm_callV (As := [.int (nI 4)]) (rest := []) hG hR dX12_person_104 (lkX12_80 _ rfl) okV_X12_finds rfl rfl (m_finds (d := 2) (by decide) hn hz (by omega)) rfl rfl hdd (Nat.le_refl _) (Nat.le_refl _) (by decide) (pm_ki (fun v138 σ' cnt' hq => ?_))
                obtain ⟨⟨I139, A139, rfl⟩, rfl, fv138⟩ := hq
                exact pm_iret hG hF dX12_person_107 rfl (Nat.le_refl _) (Nat.le_refl _) ⟨_, rfl, ⟨_, _, _, rfl, hn, hr, ekc0.trans ekc0.symm⟩, rfl⟩
            · refine pm_ifN_eq (tgt := 73) hG dX12_person_66 rfl (by omega) (fun _ => ?_) (fun q => absurd q (by omega))
              refine pm_iconst (v := nI 0) hG dX12_person_73 (by decide) ?_
              refine pm_istoreXi (loc' := [some (.ref (B + 54)), some (.int za), some (.int zb), some (.int zc), some (.int zd), some (.int (nI 0)), none, none]) hG dX12_person_74 (by decide) (pm_c1b rfl) rfl ?_
              refine pm_iloadi hG dX12_person_76 rfl ?_
              refine pm_ifN_ne (tgt := 87) hG dX12_person_78 rfl (by omega) (fun q => absurd q (by omega)) (fun _ => ?_)
              refine pm_aloadn hG dX12_person_81 rfl ?_
              refine pm_iconst (v := nI 1) hG dX12_person_82 (by decide) ?_
              refine pm_callV (As := [.int (nI 1)]) (rest := []) hG hR dX12_person_83 (lkX12_80 _ rfl) okV_X12_finds rfl rfl (m_finds (d := 2) (by decide) hn hz (by omega)) rfl rfl hdd (Nat.le_refl _) (Nat.le_refl _) (by decide) (pm_ki (fun v140 σ' cnt' hq => ?_))
              obtain ⟨⟨I141, A141, rfl⟩, rfl, fv140⟩ := hq
              exact pm_iret hG hF dX12_person_86 rfl (Nat.le_refl _) (Nat.le_refl _) ⟨_, rfl, ⟨_, _, _, rfl, hn, hr, ekc0.trans ekc0.symm⟩, rfl⟩
          · refine pm_ifN_eq (tgt := 73) hG dX12_person_57 rfl (by omega) (fun q => absurd q (by omega)) (fun _ => ?_)
            refine pm_aloadn hG dX12_person_60 rfl ?_
            refine pm_iloadi hG dX12_person_61 rfl ?_
            refine pm_callV (As := [.int zd]) (rest := []) hG hR dX12_person_63 (lkX12_84 _ rfl) okV_X12_isTown rfl rfl (m_isTown (d := 2) (by decide) ekc0 (by omega)) rfl rfl hdd (Nat.le_refl _) (Nat.le_refl _) (by decide) (pm_ki (fun v142 σ' cnt' hq => ?_))
            obtain ⟨hq, rfl, rfl⟩ := hq
            rcases hq with ⟨rfl, k144, hk144, ek144⟩ | rfl
            · refine pm_ifN_eq (tgt := 73) hG dX12_person_66 rfl (by omega) (fun q => absurd q (by omega)) (fun _ => ?_)
              refine pm_iconst (v := nI 1) hG dX12_person_69 (by decide) ?_
              refine pm_goto (tgt := 74) hG dX12_person_70 rfl ?_
              refine pm_istoreXi (loc' := [some (.ref (B + 54)), some (.int za), some (.int zb), some (.int zc), some (.int zd), some (.int (nI 1)), none, none]) hG dX12_person_74 (by decide) (pm_c1b rfl) rfl ?_
              refine pm_iloadi hG dX12_person_76 rfl ?_
              refine pm_ifN_ne (tgt := 87) hG dX12_person_78 rfl (by omega) (fun _ => ?_) (fun q => absurd q (by omega))
              refine pm_aloadn hG dX12_person_87 rfl ?_
              refine pm_getf hG dX12_person_88 (flX12_7 _ rfl) rfl rfl ?_
              refine pm_iconst (v := nI 2) hG dX12_person_91 (by decide) ?_
              refine pm_ialdN hG dX12_person_92 rfl (by decide) (by omega) ?_
              obtain ⟨k145, hk145, ek145⟩ := KI.nat hn (show kd 2 = (1, 21, true) by decide)
              refine pm_top (v := nI k145) ek145 ?_
              refine pm_istoreXi (loc' := [some (.ref (B + 54)), some (.int za), some (.int zb), some (.int zc), some (.int zd), some (.int (nI 1)), some (.int (nI k145)), none]) hG dX12_person_93 (by decide) (pm_c1b rfl) rfl ?_
              refine pm_iloadi hG dX12_person_95 rfl ?_
              refine pm_bipush (v := nI 20) hG dX12_person_97 (by decide) ?_
              refine pm_icmpN_ne (tgt := 108) hG dX12_person_99 rfl (by omega) (by omega) (fun c146 => ?_) (fun c146 => ?_)
              · refine pm_aloadn hG dX12_person_108 rfl ?_
                refine pm_getf hG dX12_person_109 (flX12_7 _ rfl) rfl rfl ?_
                refine pm_iconst (v := nI 2) hG dX12_person_112 (by decide) ?_
                refine pm_dup2 hG dX12_person_113 rfl rfl ?_
                refine pm_ialdN hG dX12_person_114 rfl (by decide) (by omega) ?_
                refine pm_top (v := nI k145) ek145 ?_
                refine pm_iconst (v := nI 1) hG dX12_person_115 (by decide) ?_
                refine pm_iaddN (c := k145 + 1) hG dX12_person_116 (by omega) ?_
                refine pm_iastN hG dX12_person_117 rfl (by decide) (by omega) ?_
                refine mdn_now (fun n_147 en_147 => ?_)
                have hnn_147 := KI.w en_147 hn (okv_n (show kd 2 = (1, 21, true) by decide) (by omega))
                have hrn_147 := NRx.pers en_147 hr ekc0 (by omega) ek145 (by omega)
                have e148 : n_147 0 = nI kc0 := by rw [en_147, pk_un (by omega)]; exact ekc0
                have e149 : n_147 8 = nI k4 := by rw [en_147, pk_un (by omega)]; exact ek4
                have e150 : n_147 2 = nI (k145 + 1) := by rw [en_147, pk_us]
                refine pm_iconst (v := nI 0) hG dX12_person_118 (by decide) ?_
                refine pm_istoreXi (loc' := [some (.ref (B + 54)), some (.int za), some (.int zb), some (.int zc), some (.int zd), some (.int (nI 1)), some (.int (nI k145)), some (.int (nI 0))]) hG dX12_person_119 (by decide) (pm_c1b rfl) rfl ?_
                refine pm_iloadi hG dX12_person_121 rfl ?_
                refine pm_bipush (v := nI 14) hG dX12_person_123 (by decide) ?_
                refine pm_icmpN_ge (tgt := 143) hG dX12_person_125 rfl (by omega) (by omega) (fun q => absurd q (by omega)) (fun _ => ?_)
                refine pm_aloadn hG dX12_person_128 rfl ?_
                refine pm_iloadi hG dX12_person_129 rfl ?_
                refine pm_iloadi hG dX12_person_131 rfl ?_
                refine pm_iconst (v := nI 0) hG dX12_person_133 (by decide) ?_
                refine pm_callV (As := [.int (nI k145), .int (nI 0), .int (nI 0)]) (rest := []) hG hR dX12_person_134 (lkX12_97 _ rfl) okV_X12_sets rfl rfl (m_sets (d := 2) (e := 14 * k145 + 110) (by omega) (by omega) (by omega)) rfl rfl hdd (Nat.le_refl _) (Nat.le_refl _) (by decide) (pm_kv (fun σ' cnt' hq => ?_))
                obtain ⟨rfl, rfl⟩ := hq
                obtain ⟨n_151, en_151⟩ : ∃ f : Nat → Int32, f = upd n_147 (14 * k145 + 110) (nI 0) := ⟨_, rfl⟩
                rw [← en_151]
                have hnn_151 := KI.w en_151 hnn_147 (okv_f (show kd (14 * k145 + 110) = (0, 0, false) from (kd_P (k := k145) (c := 0) (by omega) (by omega) (by decide))))
                have hrn_151 := NRx.w en_151 hrn_147 (by rw [(show kd (14 * k145 + 110) = (0, 0, false) from (kd_P (k := k145) (c := 0) (by omega) (by omega) (by decide)))])
                have e152 : n_151 0 = nI kc0 := by rw [en_151, pk_un (by omega)]; exact e148
                have e153 : n_151 8 = nI k4 := by rw [en_151, pk_un (by omega)]; exact e149
                have e154 : n_151 2 = nI (k145 + 1) := by rw [en_151, pk_un (by omega)]; exact e150
                have e155 : n_151 (14 * k145 + 110) = nI 0 := by rw [en_151, pk_us]
                refine pm_iincX (v := nI 1) (loc' := [some (.ref (B + 54)), some (.int za), some (.int zb), some (.int zc), some (.int zd), some (.int (nI 1)), some (.int (nI k145)), some (.int (nI 1))]) hG dX12_person_137 rfl (nI_1 _) (by decide) (pm_c1b rfl) rfl ?_
                refine pm_goto (tgt := 121) hG dX12_person_140 rfl ?_
                refine pm_iloadi hG dX12_person_121 rfl ?_
                refine pm_bipush (v := nI 14) hG dX12_person_123 (by decide) ?_
                refine pm_icmpN_ge (tgt := 143) hG dX12_person_125 rfl (by omega) (by omega) (fun q => absurd q (by omega)) (fun _ => ?_)
                refine pm_aloadn hG dX12_person_128 rfl ?_
                refine pm_iloadi hG dX12_person_129 rfl ?_
                refine pm_iloadi hG dX12_person_131 rfl ?_
                refine pm_iconst (v := nI 0) hG dX12_person_133 (by decide) ?_
                refine pm_callV (As := [.int (nI k145), .int (nI 1), .int (nI 0)]) (rest := []) hG hR dX12_person_134 (lkX12_97 _ rfl) okV_X12_sets rfl rfl (m_sets (d := 2) (e := 14 * k145 + 111) (by omega) (by omega) (by omega)) rfl rfl hdd (Nat.le_refl _) (Nat.le_refl _) (by decide) (pm_kv (fun σ' cnt' hq => ?_))
                obtain ⟨rfl, rfl⟩ := hq
                obtain ⟨n_156, en_156⟩ : ∃ f : Nat → Int32, f = upd n_151 (14 * k145 + 111) (nI 0) := ⟨_, rfl⟩
                rw [← en_156]
                have hnn_156 := KI.w en_156 hnn_151 (okv_f (show kd (14 * k145 + 111) = (0, 0, false) from (kd_P (k := k145) (c := 1) (by omega) (by omega) (by decide))))
                have hrn_156 := NRx.w en_156 hrn_151 (by rw [(show kd (14 * k145 + 111) = (0, 0, false) from (kd_P (k := k145) (c := 1) (by omega) (by omega) (by decide)))])
                have e157 : n_156 0 = nI kc0 := by rw [en_156, pk_un (by omega)]; exact e152
                have e158 : n_156 8 = nI k4 := by rw [en_156, pk_un (by omega)]; exact e153
                have e159 : n_156 2 = nI (k145 + 1) := by rw [en_156, pk_un (by omega)]; exact e154
                have e160 : n_156 (14 * k145 + 111) = nI 0 := by rw [en_156, pk_us]
                refine pm_iincX (v := nI 2) (loc' := [some (.ref (B + 54)), some (.int za), some (.int zb), some (.int zc), some (.int zd), some (.int (nI 1)), some (.int (nI k145)), some (.int (nI 2))]) hG dX12_person_137 rfl (nI_1 _) (by decide) (pm_c1b rfl) rfl ?_
                refine pm_goto (tgt := 121) hG dX12_person_140 rfl ?_
                refine pm_iloadi hG dX12_person_121 rfl ?_
                refine pm_bipush (v := nI 14) hG dX12_person_123 (by decide) ?_
                refine pm_icmpN_ge (tgt := 143) hG dX12_person_125 rfl (by omega) (by omega) (fun q => absurd q (by omega)) (fun _ => ?_)
                refine pm_aloadn hG dX12_person_128 rfl ?_
                refine pm_iloadi hG dX12_person_129 rfl ?_
                refine pm_iloadi hG dX12_person_131 rfl ?_
                refine pm_iconst (v := nI 0) hG dX12_person_133 (by decide) ?_
                refine pm_callV (As := [.int (nI k145), .int (nI 2), .int (nI 0)]) (rest := []) hG hR dX12_person_134 (lkX12_97 _ rfl) okV_X12_sets rfl rfl (m_sets (d := 2) (e := 14 * k145 + 112) (by omega) (by omega) (by omega)) rfl rfl hdd (Nat.le_refl _) (Nat.le_refl _) (by decide) (pm_kv (fun σ' cnt' hq => ?_))
                obtain ⟨rfl, rfl⟩ := hq
                obtain ⟨n_161, en_161⟩ : ∃ f : Nat → Int32, f = upd n_156 (14 * k145 + 112) (nI 0) := ⟨_, rfl⟩
                rw [← en_161]
                have hnn_161 := KI.w en_161 hnn_156 (okv_o (show kd (14 * k145 + 112) = (2, 20, false) from (kd_P (k := k145) (c := 2) (by omega) (by omega) (by decide))) (by omega))
                have hrn_161 := NRx.w en_161 hrn_156 (by rw [(show kd (14 * k145 + 112) = (2, 20, false) from (kd_P (k := k145) (c := 2) (by omega) (by omega) (by decide)))])
                have e162 : n_161 0 = nI kc0 := by rw [en_161, pk_un (by omega)]; exact e157
                have e163 : n_161 8 = nI k4 := by rw [en_161, pk_un (by omega)]; exact e158
                have e164 : n_161 2 = nI (k145 + 1) := by rw [en_161, pk_un (by omega)]; exact e159
                have e165 : n_161 (14 * k145 + 112) = nI 0 := by rw [en_161, pk_us]
                refine pm_iincX (v := nI 3) (loc' := [some (.ref (B + 54)), some (.int za), some (.int zb), some (.int zc), some (.int zd), some (.int (nI 1)), some (.int (nI k145)), some (.int (nI 3))]) hG dX12_person_137 rfl (nI_1 _) (by decide) (pm_c1b rfl) rfl ?_
                refine pm_goto (tgt := 121) hG dX12_person_140 rfl ?_
                refine pm_iloadi hG dX12_person_121 rfl ?_
                refine pm_bipush (v := nI 14) hG dX12_person_123 (by decide) ?_
                refine pm_icmpN_ge (tgt := 143) hG dX12_person_125 rfl (by omega) (by omega) (fun q => absurd q (by omega)) (fun _ => ?_)
                refine pm_aloadn hG dX12_person_128 rfl ?_
                refine pm_iloadi hG dX12_person_129 rfl ?_
                refine pm_iloadi hG dX12_person_131 rfl ?_
                refine pm_iconst (v := nI 0) hG dX12_person_133 (by decide) ?_
                refine pm_callV (As := [.int (nI k145), .int (nI 3), .int (nI 0)]) (rest := []) hG hR dX12_person_134 (lkX12_97 _ rfl) okV_X12_sets rfl rfl (m_sets (d := 2) (e := 14 * k145 + 113) (by omega) (by omega) (by omega)) rfl rfl hdd (Nat.le_refl _) (Nat.le_refl _) (by decide) (pm_kv (fun σ' cnt' hq => ?_))
                obtain ⟨rfl, rfl⟩ := hq
                obtain ⟨n_166, en_166⟩ : ∃ f : Nat → Int32, f = upd n_161 (14 * k145 + 113) (nI 0) := ⟨_, rfl⟩
                rw [← en_166]
                have hnn_166 := KI.w en_166 hnn_161 (okv_o (show kd (14 * k145 + 113) = (2, 20, false) from (kd_P (k := k145) (c := 3) (by omega) (by omega) (by decide))) (by omega))
                have hrn_166 := NRx.w en_166 hrn_161 (by rw [(show kd (14 * k145 + 113) = (2, 20, false) from (kd_P (k := k145) (c := 3) (by omega) (by omega) (by decide)))])
                have e167 : n_166 0 = nI kc0 := by rw [en_166, pk_un (by omega)]; exact e162
                have e168 : n_166 8 = nI k4 := by rw [en_166, pk_un (by omega)]; exact e163
                have e169 : n_166 2 = nI (k145 + 1) := by rw [en_166, pk_un (by omega)]; exact e164
                have e170 : n_166 (14 * k145 + 113) = nI 0 := by rw [en_166, pk_us]
                refine pm_iincX (v := nI 4) (loc' := [some (.ref (B + 54)), some (.int za), some (.int zb), some (.int zc), some (.int zd), some (.int (nI 1)), some (.int (nI k145)), some (.int (nI 4))]) hG dX12_person_137 rfl (nI_1 _) (by decide) (pm_c1b rfl) rfl ?_
                refine pm_goto (tgt := 121) hG dX12_person_140 rfl ?_
                refine pm_iloadi hG dX12_person_121 rfl ?_
                refine pm_bipush (v := nI 14) hG dX12_person_123 (by decide) ?_
                refine pm_icmpN_ge (tgt := 143) hG dX12_person_125 rfl (by omega) (by omega) (fun q => absurd q (by omega)) (fun _ => ?_)
                refine pm_aloadn hG dX12_person_128 rfl ?_
                refine pm_iloadi hG dX12_person_129 rfl ?_
                refine pm_iloadi hG dX12_person_131 rfl ?_
                refine pm_iconst (v := nI 0) hG dX12_person_133 (by decide) ?_
                refine pm_callV (As := [.int (nI k145), .int (nI 4), .int (nI 0)]) (rest := []) hG hR dX12_person_134 (lkX12_97 _ rfl) okV_X12_sets rfl rfl (m_sets (d := 2) (e := 14 * k145 + 114) (by omega) (by omega) (by omega)) rfl rfl hdd (Nat.le_refl _) (Nat.le_refl _) (by decide) (pm_kv (fun σ' cnt' hq => ?_))
                obtain ⟨rfl, rfl⟩ := hq
                obtain ⟨n_171, en_171⟩ : ∃ f : Nat → Int32, f = upd n_166 (14 * k145 + 114) (nI 0) := ⟨_, rfl⟩
                rw [← en_171]
                have hnn_171 := KI.w en_171 hnn_166 (okv_o (show kd (14 * k145 + 114) = (2, 10, false) from (kd_P (k := k145) (c := 4) (by omega) (by omega) (by decide))) (by omega))
                have hrn_171 := NRx.w en_171 hrn_166 (by rw [(show kd (14 * k145 + 114) = (2, 10, false) from (kd_P (k := k145) (c := 4) (by omega) (by omega) (by decide)))])
                have e172 : n_171 0 = nI kc0 := by rw [en_171, pk_un (by omega)]; exact e167
                have e173 : n_171 8 = nI k4 := by rw [en_171, pk_un (by omega)]; exact e168
                have e174 : n_171 2 = nI (k145 + 1) := by rw [en_171, pk_un (by omega)]; exact e169
                have e175 : n_171 (14 * k145 + 114) = nI 0 := by rw [en_171, pk_us]
                refine pm_iincX (v := nI 5) (loc' := [some (.ref (B + 54)), some (.int za), some (.int zb), some (.int zc), some (.int zd), some (.int (nI 1)), some (.int (nI k145)), some (.int (nI 5))]) hG dX12_person_137 rfl (nI_1 _) (by decide) (pm_c1b rfl) rfl ?_
                refine pm_goto (tgt := 121) hG dX12_person_140 rfl ?_
                refine pm_iloadi hG dX12_person_121 rfl ?_
                refine pm_bipush (v := nI 14) hG dX12_person_123 (by decide) ?_
                refine pm_icmpN_ge (tgt := 143) hG dX12_person_125 rfl (by omega) (by omega) (fun q => absurd q (by omega)) (fun _ => ?_)
                refine pm_aloadn hG dX12_person_128 rfl ?_
                refine pm_iloadi hG dX12_person_129 rfl ?_
                refine pm_iloadi hG dX12_person_131 rfl ?_
                refine pm_iconst (v := nI 0) hG dX12_person_133 (by decide) ?_
                refine pm_callV (As := [.int (nI k145), .int (nI 5), .int (nI 0)]) (rest := []) hG hR dX12_person_134 (lkX12_97 _ rfl) okV_X12_sets rfl rfl (m_sets (d := 2) (e := 14 * k145 + 115) (by omega) (by omega) (by omega)) rfl rfl hdd (Nat.le_refl _) (Nat.le_refl _) (by decide) (pm_kv (fun σ' cnt' hq => ?_))
                obtain ⟨rfl, rfl⟩ := hq
                obtain ⟨n_176, en_176⟩ : ∃ f : Nat → Int32, f = upd n_171 (14 * k145 + 115) (nI 0) := ⟨_, rfl⟩
                rw [← en_176]
                have hnn_176 := KI.w en_176 hnn_171 (okv_n (show kd (14 * k145 + 115) = (1, 10, false) from (kd_P (k := k145) (c := 5) (by omega) (by omega) (by decide))) (by omega))
                have hrn_176 := NRx.w en_176 hrn_171 (by rw [(show kd (14 * k145 + 115) = (1, 10, false) from (kd_P (k := k145) (c := 5) (by omega) (by omega) (by decide)))])
                have e177 : n_176 0 = nI kc0 := by rw [en_176, pk_un (by omega)]; exact e172
                have e178 : n_176 8 = nI k4 := by rw [en_176, pk_un (by omega)]; exact e173
                have e179 : n_176 2 = nI (k145 + 1) := by rw [en_176, pk_un (by omega)]; exact e174
                have e180 : n_176 (14 * k145 + 115) = nI 0 := by rw [en_176, pk_us]
                refine pm_iincX (v := nI 6) (loc' := [some (.ref (B + 54)), some (.int za), some (.int zb), some (.int zc), some (.int zd), some (.int (nI 1)), some (.int (nI k145)), some (.int (nI 6))]) hG dX12_person_137 rfl (nI_1 _) (by decide) (pm_c1b rfl) rfl ?_
                refine pm_goto (tgt := 121) hG dX12_person_140 rfl ?_
                refine pm_iloadi hG dX12_person_121 rfl ?_
                refine pm_bipush (v := nI 14) hG dX12_person_123 (by decide) ?_
                refine pm_icmpN_ge (tgt := 143) hG dX12_person_125 rfl (by omega) (by omega) (fun q => absurd q (by omega)) (fun _ => ?_)
                refine pm_aloadn hG dX12_person_128 rfl ?_
                refine pm_iloadi hG dX12_person_129 rfl ?_
                refine pm_iloadi hG dX12_person_131 rfl ?_
                refine pm_iconst (v := nI 0) hG dX12_person_133 (by decide) ?_
                refine pm_callV (As := [.int (nI k145), .int (nI 6), .int (nI 0)]) (rest := []) hG hR dX12_person_134 (lkX12_97 _ rfl) okV_X12_sets rfl rfl (m_sets (d := 2) (e := 14 * k145 + 116) (by omega) (by omega) (by omega)) rfl rfl hdd (Nat.le_refl _) (Nat.le_refl _) (by decide) (pm_kv (fun σ' cnt' hq => ?_))
                obtain ⟨rfl, rfl⟩ := hq
                obtain ⟨n_181, en_181⟩ : ∃ f : Nat → Int32, f = upd n_176 (14 * k145 + 116) (nI 0) := ⟨_, rfl⟩
                rw [← en_181]
                have hnn_181 := KI.w en_181 hnn_176 (okv_f (show kd (14 * k145 + 116) = (0, 0, false) from (kd_P (k := k145) (c := 6) (by omega) (by omega) (by decide))))
                have hrn_181 := NRx.w en_181 hrn_176 (by rw [(show kd (14 * k145 + 116) = (0, 0, false) from (kd_P (k := k145) (c := 6) (by omega) (by omega) (by decide)))])
                have e182 : n_181 0 = nI kc0 := by rw [en_181, pk_un (by omega)]; exact e177
                have e183 : n_181 8 = nI k4 := by rw [en_181, pk_un (by omega)]; exact e178
                have e184 : n_181 2 = nI (k145 + 1) := by rw [en_181, pk_un (by omega)]; exact e179
                have e185 : n_181 (14 * k145 + 116) = nI 0 := by rw [en_181, pk_us]
                refine pm_iincX (v := nI 7) (loc' := [some (.ref (B + 54)), some (.int za), some (.int zb), some (.int zc), some (.int zd), some (.int (nI 1)), some (.int (nI k145)), some (.int (nI 7))]) hG dX12_person_137 rfl (nI_1 _) (by decide) (pm_c1b rfl) rfl ?_
                refine pm_goto (tgt := 121) hG dX12_person_140 rfl ?_
                refine pm_iloadi hG dX12_person_121 rfl ?_
                refine pm_bipush (v := nI 14) hG dX12_person_123 (by decide) ?_
                refine pm_icmpN_ge (tgt := 143) hG dX12_person_125 rfl (by omega) (by omega) (fun q => absurd q (by omega)) (fun _ => ?_)
                refine pm_aloadn hG dX12_person_128 rfl ?_
                refine pm_iloadi hG dX12_person_129 rfl ?_
                refine pm_iloadi hG dX12_person_131 rfl ?_
                refine pm_iconst (v := nI 0) hG dX12_person_133 (by decide) ?_
                refine pm_callV (As := [.int (nI k145), .int (nI 7), .int (nI 0)]) (rest := []) hG hR dX12_person_134 (lkX12_97 _ rfl) okV_X12_sets rfl rfl (m_sets (d := 2) (e := 14 * k145 + 117) (by omega) (by omega) (by omega)) rfl rfl hdd (Nat.le_refl _) (Nat.le_refl _) (by decide) (pm_kv (fun σ' cnt' hq => ?_))
                obtain ⟨rfl, rfl⟩ := hq
                obtain ⟨n_186, en_186⟩ : ∃ f : Nat → Int32, f = upd n_181 (14 * k145 + 117) (nI 0) := ⟨_, rfl⟩
                rw [← en_186]
                have hnn_186 := KI.w en_186 hnn_181 (okv_f (show kd (14 * k145 + 117) = (0, 0, false) from (kd_P (k := k145) (c := 7) (by omega) (by omega) (by decide))))
                have hrn_186 := NRx.w en_186 hrn_181 (by rw [(show kd (14 * k145 + 117) = (0, 0, false) from (kd_P (k := k145) (c := 7) (by omega) (by omega) (by decide)))])
                have e187 : n_186 0 = nI kc0 := by rw [en_186, pk_un (by omega)]; exact e182
                have e188 : n_186 8 = nI k4 := by rw [en_186, pk_un (by omega)]; exact e183
                have e189 : n_186 2 = nI (k145 + 1) := by rw [en_186, pk_un (by omega)]; exact e184
                have e190 : n_186 (14 * k145 + 117) = nI 0 := by rw [en_186, pk_us]
                refine pm_iincX (v := nI 8) (loc' := [some (.ref (B + 54)), some (.int za), some (.int zb), some (.int zc), some (.int zd), some (.int (nI 1)), some (.int (nI k145)), some (.int (nI 8))]) hG dX12_person_137 rfl (nI_1 _) (by decide) (pm_c1b rfl) rfl ?_
                refine pm_goto (tgt := 121) hG dX12_person_140 rfl ?_
                refine pm_iloadi hG dX12_person_121 rfl ?_
                refine pm_bipush (v := nI 14) hG dX12_person_123 (by decide) ?_
                refine pm_icmpN_ge (tgt := 143) hG dX12_person_125 rfl (by omega) (by omega) (fun q => absurd q (by omega)) (fun _ => ?_)
                refine pm_aloadn hG dX12_person_128 rfl ?_
                refine pm_iloadi hG dX12_person_129 rfl ?_
                refine pm_iloadi hG dX12_person_131 rfl ?_
                refine pm_iconst (v := nI 0) hG dX12_person_133 (by decide) ?_
                refine pm_callV (As := [.int (nI k145), .int (nI 8), .int (nI 0)]) (rest := []) hG hR dX12_person_134 (lkX12_97 _ rfl) okV_X12_sets rfl rfl (m_sets (d := 2) (e := 14 * k145 + 118) (by omega) (by omega) (by omega)) rfl rfl hdd (Nat.le_refl _) (Nat.le_refl _) (by decide) (pm_kv (fun σ' cnt' hq => ?_))
                obtain ⟨rfl, rfl⟩ := hq
                obtain ⟨n_191, en_191⟩ : ∃ f : Nat → Int32, f = upd n_186 (14 * k145 + 118) (nI 0) := ⟨_, rfl⟩
                rw [← en_191]
                have hnn_191 := KI.w en_191 hnn_186 (okv_f (show kd (14 * k145 + 118) = (0, 0, false) from (kd_P (k := k145) (c := 8) (by omega) (by omega) (by decide))))
                have hrn_191 := NRx.w en_191 hrn_186 (by rw [(show kd (14 * k145 + 118) = (0, 0, false) from (kd_P (k := k145) (c := 8) (by omega) (by omega) (by decide)))])
                have e192 : n_191 0 = nI kc0 := by rw [en_191, pk_un (by omega)]; exact e187
                have e193 : n_191 8 = nI k4 := by rw [en_191, pk_un (by omega)]; exact e188
                have e194 : n_191 2 = nI (k145 + 1) := by rw [en_191, pk_un (by omega)]; exact e189
                have e195 : n_191 (14 * k145 + 118) = nI 0 := by rw [en_191, pk_us]
                refine pm_iincX (v := nI 9) (loc' := [some (.ref (B + 54)), some (.int za), some (.int zb), some (.int zc), some (.int zd), some (.int (nI 1)), some (.int (nI k145)), some (.int (nI 9))]) hG dX12_person_137 rfl (nI_1 _) (by decide) (pm_c1b rfl) rfl ?_
                refine pm_goto (tgt := 121) hG dX12_person_140 rfl ?_
                refine pm_iloadi hG dX12_person_121 rfl ?_
                refine pm_bipush (v := nI 14) hG dX12_person_123 (by decide) ?_
                refine pm_icmpN_ge (tgt := 143) hG dX12_person_125 rfl (by omega) (by omega) (fun q => absurd q (by omega)) (fun _ => ?_)
                refine pm_aloadn hG dX12_person_128 rfl ?_
                refine pm_iloadi hG dX12_person_129 rfl ?_
                refine pm_iloadi hG dX12_person_131 rfl ?_
                refine pm_iconst (v := nI 0) hG dX12_person_133 (by decide) ?_
                refine pm_callV (As := [.int (nI k145), .int (nI 9), .int (nI 0)]) (rest := []) hG hR dX12_person_134 (lkX12_97 _ rfl) okV_X12_sets rfl rfl (m_sets (d := 2) (e := 14 * k145 + 119) (by omega) (by omega) (by omega)) rfl rfl hdd (Nat.le_refl _) (Nat.le_refl _) (by decide) (pm_kv (fun σ' cnt' hq => ?_))
                obtain ⟨rfl, rfl⟩ := hq
                obtain ⟨n_196, en_196⟩ : ∃ f : Nat → Int32, f = upd n_191 (14 * k145 + 119) (nI 0) := ⟨_, rfl⟩
                rw [← en_196]
                have hnn_196 := KI.w en_196 hnn_191 (okv_o (show kd (14 * k145 + 119) = (2, 2001, false) from (kd_P (k := k145) (c := 9) (by omega) (by omega) (by decide))) (by omega))
                have hrn_196 := NRx.w en_196 hrn_191 (by rw [(show kd (14 * k145 + 119) = (2, 2001, false) from (kd_P (k := k145) (c := 9) (by omega) (by omega) (by decide)))])
                have e197 : n_196 0 = nI kc0 := by rw [en_196, pk_un (by omega)]; exact e192
                have e198 : n_196 8 = nI k4 := by rw [en_196, pk_un (by omega)]; exact e193
                have e199 : n_196 2 = nI (k145 + 1) := by rw [en_196, pk_un (by omega)]; exact e194
                have e200 : n_196 (14 * k145 + 119) = nI 0 := by rw [en_196, pk_us]
                refine pm_iincX (v := nI 10) (loc' := [some (.ref (B + 54)), some (.int za), some (.int zb), some (.int zc), some (.int zd), some (.int (nI 1)), some (.int (nI k145)), some (.int (nI 10))]) hG dX12_person_137 rfl (nI_1 _) (by decide) (pm_c1b rfl) rfl ?_
                refine pm_goto (tgt := 121) hG dX12_person_140 rfl ?_
                refine pm_iloadi hG dX12_person_121 rfl ?_
                refine pm_bipush (v := nI 14) hG dX12_person_123 (by decide) ?_
                refine pm_icmpN_ge (tgt := 143) hG dX12_person_125 rfl (by omega) (by omega) (fun q => absurd q (by omega)) (fun _ => ?_)
                refine pm_aloadn hG dX12_person_128 rfl ?_
                refine pm_iloadi hG dX12_person_129 rfl ?_
                refine pm_iloadi hG dX12_person_131 rfl ?_
                refine pm_iconst (v := nI 0) hG dX12_person_133 (by decide) ?_
                refine pm_callV (As := [.int (nI k145), .int (nI 10), .int (nI 0)]) (rest := []) hG hR dX12_person_134 (lkX12_97 _ rfl) okV_X12_sets rfl rfl (m_sets (d := 2) (e := 14 * k145 + 120) (by omega) (by omega) (by omega)) rfl rfl hdd (Nat.le_refl _) (Nat.le_refl _) (by decide) (pm_kv (fun σ' cnt' hq => ?_))
                obtain ⟨rfl, rfl⟩ := hq
                obtain ⟨n_201, en_201⟩ : ∃ f : Nat → Int32, f = upd n_196 (14 * k145 + 120) (nI 0) := ⟨_, rfl⟩
                rw [← en_201]
                have hnn_201 := KI.w en_201 hnn_196 (okv_f (show kd (14 * k145 + 120) = (0, 0, false) from (kd_P (k := k145) (c := 10) (by omega) (by omega) (by decide))))
                have hrn_201 := NRx.w en_201 hrn_196 (by rw [(show kd (14 * k145 + 120) = (0, 0, false) from (kd_P (k := k145) (c := 10) (by omega) (by omega) (by decide)))])
                have e202 : n_201 0 = nI kc0 := by rw [en_201, pk_un (by omega)]; exact e197
                have e203 : n_201 8 = nI k4 := by rw [en_201, pk_un (by omega)]; exact e198
                have e204 : n_201 2 = nI (k145 + 1) := by rw [en_201, pk_un (by omega)]; exact e199
                have e205 : n_201 (14 * k145 + 120) = nI 0 := by rw [en_201, pk_us]
                refine pm_iincX (v := nI 11) (loc' := [some (.ref (B + 54)), some (.int za), some (.int zb), some (.int zc), some (.int zd), some (.int (nI 1)), some (.int (nI k145)), some (.int (nI 11))]) hG dX12_person_137 rfl (nI_1 _) (by decide) (pm_c1b rfl) rfl ?_
                refine pm_goto (tgt := 121) hG dX12_person_140 rfl ?_
                refine pm_iloadi hG dX12_person_121 rfl ?_
                refine pm_bipush (v := nI 14) hG dX12_person_123 (by decide) ?_
                refine pm_icmpN_ge (tgt := 143) hG dX12_person_125 rfl (by omega) (by omega) (fun q => absurd q (by omega)) (fun _ => ?_)
                refine pm_aloadn hG dX12_person_128 rfl ?_
                refine pm_iloadi hG dX12_person_129 rfl ?_
                refine pm_iloadi hG dX12_person_131 rfl ?_
                refine pm_iconst (v := nI 0) hG dX12_person_133 (by decide) ?_
                refine pm_callV (As := [.int (nI k145), .int (nI 11), .int (nI 0)]) (rest := []) hG hR dX12_person_134 (lkX12_97 _ rfl) okV_X12_sets rfl rfl (m_sets (d := 2) (e := 14 * k145 + 121) (by omega) (by omega) (by omega)) rfl rfl hdd (Nat.le_refl _) (Nat.le_refl _) (by decide) (pm_kv (fun σ' cnt' hq => ?_))
                obtain ⟨rfl, rfl⟩ := hq
                obtain ⟨n_206, en_206⟩ : ∃ f : Nat → Int32, f = upd n_201 (14 * k145 + 121) (nI 0) := ⟨_, rfl⟩
                rw [← en_206]
                have hnn_206 := KI.w en_206 hnn_201 (okv_n (show kd (14 * k145 + 121) = (1, 2, true) from (kd_P (k := k145) (c := 11) (by omega) (by omega) (by decide))) (by omega))
                have hrn_206 := NRx.unseat (p := k145) en_206 hrn_201 (by omega)
                have e207 : n_206 0 = nI kc0 := by rw [en_206, pk_un (by omega)]; exact e202
                have e208 : n_206 8 = nI k4 := by rw [en_206, pk_un (by omega)]; exact e203
                have e209 : n_206 2 = nI (k145 + 1) := by rw [en_206, pk_un (by omega)]; exact e204
                have e210 : n_206 (14 * k145 + 121) = nI 0 := by rw [en_206, pk_us]
                refine pm_iincX (v := nI 12) (loc' := [some (.ref (B + 54)), some (.int za), some (.int zb), some (.int zc), some (.int zd), some (.int (nI 1)), some (.int (nI k145)), some (.int (nI 12))]) hG dX12_person_137 rfl (nI_1 _) (by decide) (pm_c1b rfl) rfl ?_
                refine pm_goto (tgt := 121) hG dX12_person_140 rfl ?_
                refine pm_iloadi hG dX12_person_121 rfl ?_
                refine pm_bipush (v := nI 14) hG dX12_person_123 (by decide) ?_
                refine pm_icmpN_ge (tgt := 143) hG dX12_person_125 rfl (by omega) (by omega) (fun q => absurd q (by omega)) (fun _ => ?_)
                refine pm_aloadn hG dX12_person_128 rfl ?_
                refine pm_iloadi hG dX12_person_129 rfl ?_
                refine pm_iloadi hG dX12_person_131 rfl ?_
                refine pm_iconst (v := nI 0) hG dX12_person_133 (by decide) ?_
                refine pm_callV (As := [.int (nI k145), .int (nI 12), .int (nI 0)]) (rest := []) hG hR dX12_person_134 (lkX12_97 _ rfl) okV_X12_sets rfl rfl (m_sets (d := 2) (e := 14 * k145 + 122) (by omega) (by omega) (by omega)) rfl rfl hdd (Nat.le_refl _) (Nat.le_refl _) (by decide) (pm_kv (fun σ' cnt' hq => ?_))
                obtain ⟨rfl, rfl⟩ := hq
                obtain ⟨n_211, en_211⟩ : ∃ f : Nat → Int32, f = upd n_206 (14 * k145 + 122) (nI 0) := ⟨_, rfl⟩
                rw [← en_211]
                have hnn_211 := KI.w en_211 hnn_206 (okv_f (show kd (14 * k145 + 122) = (0, 0, false) from (kd_P (k := k145) (c := 12) (by omega) (by omega) (by decide))))
                have hrn_211 := NRx.w en_211 hrn_206 (by rw [(show kd (14 * k145 + 122) = (0, 0, false) from (kd_P (k := k145) (c := 12) (by omega) (by omega) (by decide)))])
                have e212 : n_211 0 = nI kc0 := by rw [en_211, pk_un (by omega)]; exact e207
                have e213 : n_211 8 = nI k4 := by rw [en_211, pk_un (by omega)]; exact e208
                have e214 : n_211 2 = nI (k145 + 1) := by rw [en_211, pk_un (by omega)]; exact e209
                have e215 : n_211 (14 * k145 + 122) = nI 0 := by rw [en_211, pk_us]
                refine pm_iincX (v := nI 13) (loc' := [some (.ref (B + 54)), some (.int za), some (.int zb), some (.int zc), some (.int zd), some (.int (nI 1)), some (.int (nI k145)), some (.int (nI 13))]) hG dX12_person_137 rfl (nI_1 _) (by decide) (pm_c1b rfl) rfl ?_
                refine pm_goto (tgt := 121) hG dX12_person_140 rfl ?_
                refine pm_iloadi hG dX12_person_121 rfl ?_
                refine pm_bipush (v := nI 14) hG dX12_person_123 (by decide) ?_
                refine pm_icmpN_ge (tgt := 143) hG dX12_person_125 rfl (by omega) (by omega) (fun q => absurd q (by omega)) (fun _ => ?_)
                refine pm_aloadn hG dX12_person_128 rfl ?_
                refine pm_iloadi hG dX12_person_129 rfl ?_
                refine pm_iloadi hG dX12_person_131 rfl ?_
                refine pm_iconst (v := nI 0) hG dX12_person_133 (by decide) ?_
                refine pm_callV (As := [.int (nI k145), .int (nI 13), .int (nI 0)]) (rest := []) hG hR dX12_person_134 (lkX12_97 _ rfl) okV_X12_sets rfl rfl (m_sets (d := 2) (e := 14 * k145 + 123) (by omega) (by omega) (by omega)) rfl rfl hdd (Nat.le_refl _) (Nat.le_refl _) (by decide) (pm_kv (fun σ' cnt' hq => ?_))
                obtain ⟨rfl, rfl⟩ := hq
                obtain ⟨n_216, en_216⟩ : ∃ f : Nat → Int32, f = upd n_211 (14 * k145 + 123) (nI 0) := ⟨_, rfl⟩
                rw [← en_216]
                have hnn_216 := KI.w en_216 hnn_211 (okv_f (show kd (14 * k145 + 123) = (0, 0, false) from (kd_P (k := k145) (c := 13) (by omega) (by omega) (by decide))))
                have hrn_216 := NRx.w en_216 hrn_211 (by rw [(show kd (14 * k145 + 123) = (0, 0, false) from (kd_P (k := k145) (c := 13) (by omega) (by omega) (by decide)))])
                have e217 : n_216 0 = nI kc0 := by rw [en_216, pk_un (by omega)]; exact e212
                have e218 : n_216 8 = nI k4 := by rw [en_216, pk_un (by omega)]; exact e213
                have e219 : n_216 2 = nI (k145 + 1) := by rw [en_216, pk_un (by omega)]; exact e214
                have e220 : n_216 (14 * k145 + 123) = nI 0 := by rw [en_216, pk_us]
                refine pm_iincX (v := nI 14) (loc' := [some (.ref (B + 54)), some (.int za), some (.int zb), some (.int zc), some (.int zd), some (.int (nI 1)), some (.int (nI k145)), some (.int (nI 14))]) hG dX12_person_137 rfl (nI_1 _) (by decide) (pm_c1b rfl) rfl ?_
                refine pm_goto (tgt := 121) hG dX12_person_140 rfl ?_
                refine pm_iloadi hG dX12_person_121 rfl ?_
                refine pm_bipush (v := nI 14) hG dX12_person_123 (by decide) ?_
                refine pm_icmpN_ge (tgt := 143) hG dX12_person_125 rfl (by omega) (by omega) (fun _ => ?_) (fun q => absurd q (by omega))
                refine pm_aloadn hG dX12_person_143 rfl ?_
                refine pm_iloadi hG dX12_person_144 rfl ?_
                refine pm_iconst (v := nI 0) hG dX12_person_146 (by decide) ?_
                refine pm_iloadn hG dX12_person_147 rfl ?_
                refine pm_top (v := nI k3) ek3 ?_
                refine pm_callV (As := [.int (nI k145), .int (nI 0), .int (nI k3)]) (rest := []) hG hR dX12_person_148 (lkX12_97 _ rfl) okV_X12_sets rfl rfl (m_sets (d := 2) (e := 14 * k145 + 110) (by omega) (by omega) (by omega)) rfl rfl hdd (Nat.le_refl _) (Nat.le_refl _) (by decide) (pm_kv (fun σ' cnt' hq => ?_))
                obtain ⟨rfl, rfl⟩ := hq
                obtain ⟨n_221, en_221⟩ : ∃ f : Nat → Int32, f = upd n_216 (14 * k145 + 110) (nI k3) := ⟨_, rfl⟩
                rw [← en_221]
                have hnn_221 := KI.w en_221 hnn_216 (okv_f (show kd (14 * k145 + 110) = (0, 0, false) from (kd_P (k := k145) (c := 0) (by omega) (by omega) (by decide))))
                have hrn_221 := NRx.w en_221 hrn_216 (by rw [(show kd (14 * k145 + 110) = (0, 0, false) from (kd_P (k := k145) (c := 0) (by omega) (by omega) (by decide)))])
                have e222 : n_221 0 = nI kc0 := by rw [en_221, pk_un (by omega)]; exact e217
                have e223 : n_221 8 = nI k4 := by rw [en_221, pk_un (by omega)]; exact e218
                have e224 : n_221 2 = nI (k145 + 1) := by rw [en_221, pk_un (by omega)]; exact e219
                have e225 : n_221 (14 * k145 + 110) = nI k3 := by rw [en_221, pk_us]
                refine pm_aloadn hG dX12_person_151 rfl ?_
                refine pm_iloadi hG dX12_person_152 rfl ?_
                refine pm_iconst (v := nI 1) hG dX12_person_154 (by decide) ?_
                refine pm_iloadn hG dX12_person_155 rfl ?_
                refine pm_callV (As := [.int (nI k145), .int (nI 1), .int zb]) (rest := []) hG hR dX12_person_156 (lkX12_97 _ rfl) okV_X12_sets rfl rfl (m_sets (d := 2) (e := 14 * k145 + 111) (by omega) (by omega) (by omega)) rfl rfl hdd (Nat.le_refl _) (Nat.le_refl _) (by decide) (pm_kv (fun σ' cnt' hq => ?_))
                obtain ⟨rfl, rfl⟩ := hq
                obtain ⟨n_226, en_226⟩ : ∃ f : Nat → Int32, f = upd n_221 (14 * k145 + 111) zb := ⟨_, rfl⟩
                rw [← en_226]
                have hnn_226 := KI.w en_226 hnn_221 (okv_f (show kd (14 * k145 + 111) = (0, 0, false) from (kd_P (k := k145) (c := 1) (by omega) (by omega) (by decide))))
                have hrn_226 := NRx.w en_226 hrn_221 (by rw [(show kd (14 * k145 + 111) = (0, 0, false) from (kd_P (k := k145) (c := 1) (by omega) (by omega) (by decide)))])
                have e227 : n_226 0 = nI kc0 := by rw [en_226, pk_un (by omega)]; exact e222
                have e228 : n_226 8 = nI k4 := by rw [en_226, pk_un (by omega)]; exact e223
                have e229 : n_226 2 = nI (k145 + 1) := by rw [en_226, pk_un (by omega)]; exact e224
                have e230 : n_226 (14 * k145 + 111) = zb := by rw [en_226, pk_us]
                refine pm_aloadn hG dX12_person_159 rfl ?_
                refine pm_iloadi hG dX12_person_160 rfl ?_
                refine pm_iconst (v := nI 2) hG dX12_person_162 (by decide) ?_
                refine pm_iloadn hG dX12_person_163 rfl ?_
                refine pm_top (v := nI k10) ek10 ?_
                refine pm_bipush (v := nI 100) hG dX12_person_164 (by decide) ?_
                refine pm_idivN hG dX12_person_166 (by omega) (by decide) (by decide) ?_
                refine pm_iconst (v := nI 1) hG dX12_person_167 (by decide) ?_
                refine pm_isub hG dX12_person_168 ?_
                refine pm_top (v := (-1)) ek12 ?_
                refine pm_callV (As := [.int (nI k145), .int (nI 2), .int (-1)]) (rest := []) hG hR dX12_person_169 (lkX12_97 _ rfl) okV_X12_sets rfl rfl (m_sets (d := 2) (e := 14 * k145 + 112) (by omega) (by omega) (by omega)) rfl rfl hdd (Nat.le_refl _) (Nat.le_refl _) (by decide) (pm_kv (fun σ' cnt' hq => ?_))
                obtain ⟨rfl, rfl⟩ := hq
                obtain ⟨n_231, en_231⟩ : ∃ f : Nat → Int32, f = upd n_226 (14 * k145 + 112) (-1) := ⟨_, rfl⟩
                rw [← en_231]
                have hnn_231 := KI.w en_231 hnn_226 (okv_m (show kd (14 * k145 + 112) = (2, 20, false) from (kd_P (k := k145) (c := 2) (by omega) (by omega) (by decide))))
                have hrn_231 := NRx.w en_231 hrn_226 (by rw [(show kd (14 * k145 + 112) = (2, 20, false) from (kd_P (k := k145) (c := 2) (by omega) (by omega) (by decide)))])
                have e232 : n_231 0 = nI kc0 := by rw [en_231, pk_un (by omega)]; exact e227
                have e233 : n_231 8 = nI k4 := by rw [en_231, pk_un (by omega)]; exact e228
                have e234 : n_231 2 = nI (k145 + 1) := by rw [en_231, pk_un (by omega)]; exact e229
                have e235 : n_231 (14 * k145 + 112) = (-1) := by rw [en_231, pk_us]
                refine pm_aloadn hG dX12_person_172 rfl ?_
                refine pm_iloadi hG dX12_person_173 rfl ?_
                refine pm_iconst (v := nI 3) hG dX12_person_175 (by decide) ?_
                refine pm_iloadn hG dX12_person_176 rfl ?_
                refine pm_top (v := nI k10) ek10 ?_
                refine pm_bipush (v := nI 100) hG dX12_person_177 (by decide) ?_
                refine pm_iremM hG dX12_person_179 (by omega) (by decide) (by decide) ?_
                refine pm_iconst (v := nI 1) hG dX12_person_180 (by decide) ?_
                refine pm_isub hG dX12_person_181 ?_
                refine pm_top (v := nI k16) ek16 ?_
                refine pm_callV (As := [.int (nI k145), .int (nI 3), .int (nI k16)]) (rest := []) hG hR dX12_person_182 (lkX12_97 _ rfl) okV_X12_sets rfl rfl (m_sets (d := 2) (e := 14 * k145 + 113) (by omega) (by omega) (by omega)) rfl rfl hdd (Nat.le_refl _) (Nat.le_refl _) (by decide) (pm_kv (fun σ' cnt' hq => ?_))
                obtain ⟨rfl, rfl⟩ := hq
                obtain ⟨n_236, en_236⟩ : ∃ f : Nat → Int32, f = upd n_231 (14 * k145 + 113) (nI k16) := ⟨_, rfl⟩
                rw [← en_236]
                have hnn_236 := KI.w en_236 hnn_231 (okv_o (show kd (14 * k145 + 113) = (2, 20, false) from (kd_P (k := k145) (c := 3) (by omega) (by omega) (by decide))) (by omega))
                have hrn_236 := NRx.w en_236 hrn_231 (by rw [(show kd (14 * k145 + 113) = (2, 20, false) from (kd_P (k := k145) (c := 3) (by omega) (by omega) (by decide)))])
                have e237 : n_236 0 = nI kc0 := by rw [en_236, pk_un (by omega)]; exact e232
                have e238 : n_236 8 = nI k4 := by rw [en_236, pk_un (by omega)]; exact e233
                have e239 : n_236 2 = nI (k145 + 1) := by rw [en_236, pk_un (by omega)]; exact e234
                have e240 : n_236 (14 * k145 + 113) = nI k16 := by rw [en_236, pk_us]
                refine pm_aloadn hG dX12_person_185 rfl ?_
                refine pm_iloadi hG dX12_person_186 rfl ?_
                refine pm_iconst (v := nI 4) hG dX12_person_188 (by decide) ?_
                refine pm_iloadi hG dX12_person_189 rfl ?_
                refine pm_top (v := nI k144) ek144 ?_
                refine pm_callV (As := [.int (nI k145), .int (nI 4), .int (nI k144)]) (rest := []) hG hR dX12_person_191 (lkX12_97 _ rfl) okV_X12_sets rfl rfl (m_sets (d := 2) (e := 14 * k145 + 114) (by omega) (by omega) (by omega)) rfl rfl hdd (Nat.le_refl _) (Nat.le_refl _) (by decide) (pm_kv (fun σ' cnt' hq => ?_))
                obtain ⟨rfl, rfl⟩ := hq
                obtain ⟨n_241, en_241⟩ : ∃ f : Nat → Int32, f = upd n_236 (14 * k145 + 114) (nI k144) := ⟨_, rfl⟩
                rw [← en_241]
                have hnn_241 := KI.w en_241 hnn_236 (okv_o (show kd (14 * k145 + 114) = (2, 10, false) from (kd_P (k := k145) (c := 4) (by omega) (by omega) (by decide))) (by omega))
                have hrn_241 := NRx.w en_241 hrn_236 (by rw [(show kd (14 * k145 + 114) = (2, 10, false) from (kd_P (k := k145) (c := 4) (by omega) (by omega) (by decide)))])
                have e242 : n_241 0 = nI kc0 := by rw [en_241, pk_un (by omega)]; exact e237
                have e243 : n_241 8 = nI k4 := by rw [en_241, pk_un (by omega)]; exact e238
                have e244 : n_241 2 = nI (k145 + 1) := by rw [en_241, pk_un (by omega)]; exact e239
                have e245 : n_241 (14 * k145 + 114) = nI k144 := by rw [en_241, pk_us]
                refine pm_aloadn hG dX12_person_194 rfl ?_
                refine pm_iloadi hG dX12_person_195 rfl ?_
                refine pm_bipush (v := nI 9) hG dX12_person_197 (by decide) ?_
                refine pm_iconst (v := (-1)) hG dX12_person_199 (by decide) ?_
                refine pm_callV (As := [.int (nI k145), .int (nI 9), .int (-1)]) (rest := []) hG hR dX12_person_200 (lkX12_97 _ rfl) okV_X12_sets rfl rfl (m_sets (d := 2) (e := 14 * k145 + 119) (by omega) (by omega) (by omega)) rfl rfl hdd (Nat.le_refl _) (Nat.le_refl _) (by decide) (pm_kv (fun σ' cnt' hq => ?_))
                obtain ⟨rfl, rfl⟩ := hq
                obtain ⟨n_246, en_246⟩ : ∃ f : Nat → Int32, f = upd n_241 (14 * k145 + 119) (-1) := ⟨_, rfl⟩
                rw [← en_246]
                have hnn_246 := KI.w en_246 hnn_241 (okv_m (show kd (14 * k145 + 119) = (2, 2001, false) from (kd_P (k := k145) (c := 9) (by omega) (by omega) (by decide))))
                have hrn_246 := NRx.w en_246 hrn_241 (by rw [(show kd (14 * k145 + 119) = (2, 2001, false) from (kd_P (k := k145) (c := 9) (by omega) (by omega) (by decide)))])
                have e247 : n_246 0 = nI kc0 := by rw [en_246, pk_un (by omega)]; exact e242
                have e248 : n_246 8 = nI k4 := by rw [en_246, pk_un (by omega)]; exact e243
                have e249 : n_246 2 = nI (k145 + 1) := by rw [en_246, pk_un (by omega)]; exact e244
                have e250 : n_246 (14 * k145 + 119) = (-1) := by rw [en_246, pk_us]
                refine pm_aloadn hG dX12_person_203 rfl ?_
                refine pm_iloadi hG dX12_person_204 rfl ?_
                refine pm_bipush (v := nI 10) hG dX12_person_206 (by decide) ?_
                refine pm_iconst (v := (-1)) hG dX12_person_208 (by decide) ?_
                refine pm_callV (As := [.int (nI k145), .int (nI 10), .int (-1)]) (rest := []) hG hR dX12_person_209 (lkX12_97 _ rfl) okV_X12_sets rfl rfl (m_sets (d := 2) (e := 14 * k145 + 120) (by omega) (by omega) (by omega)) rfl rfl hdd (Nat.le_refl _) (Nat.le_refl _) (by decide) (pm_kv (fun σ' cnt' hq => ?_))
                obtain ⟨rfl, rfl⟩ := hq
                obtain ⟨n_251, en_251⟩ : ∃ f : Nat → Int32, f = upd n_246 (14 * k145 + 120) (-1) := ⟨_, rfl⟩
                rw [← en_251]
                have hnn_251 := KI.w en_251 hnn_246 (okv_f (show kd (14 * k145 + 120) = (0, 0, false) from (kd_P (k := k145) (c := 10) (by omega) (by omega) (by decide))))
                have hrn_251 := NRx.w en_251 hrn_246 (by rw [(show kd (14 * k145 + 120) = (0, 0, false) from (kd_P (k := k145) (c := 10) (by omega) (by omega) (by decide)))])
                have e252 : n_251 0 = nI kc0 := by rw [en_251, pk_un (by omega)]; exact e247
                have e253 : n_251 8 = nI k4 := by rw [en_251, pk_un (by omega)]; exact e248
                have e254 : n_251 2 = nI (k145 + 1) := by rw [en_251, pk_un (by omega)]; exact e249
                have e255 : n_251 (14 * k145 + 120) = (-1) := by rw [en_251, pk_us]
                refine pm_aloadn hG dX12_person_212 rfl ?_
                refine pm_iloadi hG dX12_person_213 rfl ?_
                refine pm_bipush (v := nI 12) hG dX12_person_215 (by decide) ?_
                refine pm_iconst (v := nI 1) hG dX12_person_217 (by decide) ?_
                refine pm_callV (As := [.int (nI k145), .int (nI 12), .int (nI 1)]) (rest := []) hG hR dX12_person_218 (lkX12_97 _ rfl) okV_X12_sets rfl rfl (m_sets (d := 2) (e := 14 * k145 + 122) (by omega) (by omega) (by omega)) rfl rfl hdd (Nat.le_refl _) (Nat.le_refl _) (by decide) (pm_kv (fun σ' cnt' hq => ?_))
                obtain ⟨rfl, rfl⟩ := hq
                obtain ⟨n_256, en_256⟩ : ∃ f : Nat → Int32, f = upd n_251 (14 * k145 + 122) (nI 1) := ⟨_, rfl⟩
                rw [← en_256]
                have hnn_256 := KI.w en_256 hnn_251 (okv_f (show kd (14 * k145 + 122) = (0, 0, false) from (kd_P (k := k145) (c := 12) (by omega) (by omega) (by decide))))
                have hrn_256 := NRx.w en_256 hrn_251 (by rw [(show kd (14 * k145 + 122) = (0, 0, false) from (kd_P (k := k145) (c := 12) (by omega) (by omega) (by decide)))])
                have e257 : n_256 0 = nI kc0 := by rw [en_256, pk_un (by omega)]; exact e252
                have e258 : n_256 8 = nI k4 := by rw [en_256, pk_un (by omega)]; exact e253
                have e259 : n_256 2 = nI (k145 + 1) := by rw [en_256, pk_un (by omega)]; exact e254
                have e260 : n_256 (14 * k145 + 122) = nI 1 := by rw [en_256, pk_us]
                refine pm_iloadi hG dX12_person_221 rfl ?_
                exact pm_iret hG hF dX12_person_223 rfl (Nat.le_refl _) (Nat.le_refl _) ⟨_, rfl, ⟨_, _, _, rfl, hnn_256, hrn_256, e257.trans ekc0.symm⟩, rfl⟩
              · refine pm_aloadn hG dX12_person_102 rfl ?_
                refine pm_iconst (v := nI 4) hG dX12_person_103 (by decide) ?_
                refine pm_callV (As := [.int (nI 4)]) (rest := []) hG hR dX12_person_104 (lkX12_80 _ rfl) okV_X12_finds rfl rfl (m_finds (d := 2) (by decide) hn hz (by omega)) rfl rfl hdd (Nat.le_refl _) (Nat.le_refl _) (by decide) (pm_ki (fun v261 σ' cnt' hq => ?_))
                obtain ⟨⟨I262, A262, rfl⟩, rfl, fv261⟩ := hq
                exact pm_iret hG hF dX12_person_107 rfl (Nat.le_refl _) (Nat.le_refl _) ⟨_, rfl, ⟨_, _, _, rfl, hn, hr, ekc0.trans ekc0.symm⟩, rfl⟩
            · refine pm_ifN_eq (tgt := 73) hG dX12_person_66 rfl (by omega) (fun _ => ?_) (fun q => absurd q (by omega))
              refine pm_iconst (v := nI 0) hG dX12_person_73 (by decide) ?_
              refine pm_istoreXi (loc' := [some (.ref (B + 54)), some (.int za), some (.int zb), some (.int zc), some (.int zd), some (.int (nI 0)), none, none]) hG dX12_person_74 (by decide) (pm_c1b rfl) rfl ?_
              refine pm_iloadi hG dX12_person_76 rfl ?_
              refine pm_ifN_ne (tgt := 87) hG dX12_person_78 rfl (by omega) (fun q => absurd q (by omega)) (fun _ => ?_)
              refine pm_aloadn hG dX12_person_81 rfl ?_
              refine pm_iconst (v := nI 1) hG dX12_person_82 (by decide) ?_
              refine pm_callV (As := [.int (nI 1)]) (rest := []) hG hR dX12_person_83 (lkX12_80 _ rfl) okV_X12_finds rfl rfl (m_finds (d := 2) (by decide) hn hz (by omega)) rfl rfl hdd (Nat.le_refl _) (Nat.le_refl _) (by decide) (pm_ki (fun v263 σ' cnt' hq => ?_))
              obtain ⟨⟨I264, A264, rfl⟩, rfl, fv263⟩ := hq
              exact pm_iret hG hF dX12_person_86 rfl (Nat.le_refl _) (Nat.le_refl _) ⟨_, rfl, ⟨_, _, _, rfl, hn, hr, ekc0.trans ekc0.symm⟩, rfl⟩
        · refine pm_ifN_eq (tgt := 73) hG dX12_person_42 rfl (by omega) (fun q => absurd q (by omega)) (fun _ => ?_)
          refine pm_aloadn hG dX12_person_45 rfl ?_
          refine pm_iloadn hG dX12_person_46 rfl ?_
          refine pm_top (v := nI k10) ek10 ?_
          refine pm_bipush (v := nI 100) hG dX12_person_47 (by decide) ?_
          refine pm_iremM hG dX12_person_49 (by omega) (by decide) (by decide) ?_
          refine pm_iconst (v := nI 1) hG dX12_person_50 (by decide) ?_
          refine pm_isub hG dX12_person_51 ?_
          refine pm_iconst (v := nI 0) hG dX12_person_52 (by decide) ?_
          refine pm_iloadn hG dX12_person_53 rfl ?_
          refine pm_callV (As := [.int ((nI ((k10 % 100))) - (nI 1)), .int (nI 0), .int zb]) (rest := []) hG hR dX12_person_54 (lkX12_94 _ rfl) okV_X12_isParent rfl rfl (m_isParent (d := 2) (by decide) hn hz) rfl rfl hdd (Nat.le_refl _) (Nat.le_refl _) (by decide) (pm_ki (fun v265 σ' cnt' hq => ?_))
          obtain ⟨rfl, rfl, hq⟩ := hq
          rcases hq with rfl | ⟨rfl, ek266 | ⟨k266, hk266, ek266⟩⟩
          · refine pm_ifN_eq (tgt := 73) hG dX12_person_57 rfl (by omega) (fun _ => ?_) (fun q => absurd q (by omega))
            refine pm_iconst (v := nI 0) hG dX12_person_73 (by decide) ?_
            refine pm_istoreXi (loc' := [some (.ref (B + 54)), some (.int za), some (.int zb), some (.int zc), some (.int zd), some (.int (nI 0)), none, none]) hG dX12_person_74 (by decide) (pm_c1b rfl) rfl ?_
            refine pm_iloadi hG dX12_person_76 rfl ?_
            refine pm_ifN_ne (tgt := 87) hG dX12_person_78 rfl (by omega) (fun q => absurd q (by omega)) (fun _ => ?_)
            refine pm_aloadn hG dX12_person_81 rfl ?_
            refine pm_iconst (v := nI 1) hG dX12_person_82 (by decide) ?_
            refine pm_callV (As := [.int (nI 1)]) (rest := []) hG hR dX12_person_83 (lkX12_80 _ rfl) okV_X12_finds rfl rfl (m_finds (d := 2) (by decide) hn hz (by omega)) rfl rfl hdd (Nat.le_refl _) (Nat.le_refl _) (by decide) (pm_ki (fun v267 σ' cnt' hq => ?_))
            obtain ⟨⟨I268, A268, rfl⟩, rfl, fv267⟩ := hq
            exact pm_iret hG hF dX12_person_86 rfl (Nat.le_refl _) (Nat.le_refl _) ⟨_, rfl, ⟨_, _, _, rfl, hn, hr, ekc0.trans ekc0.symm⟩, rfl⟩
          · refine pm_ifN_eq (tgt := 73) hG dX12_person_57 rfl (by omega) (fun q => absurd q (by omega)) (fun _ => ?_)
            refine pm_aloadn hG dX12_person_60 rfl ?_
            refine pm_iloadi hG dX12_person_61 rfl ?_
            refine pm_callV (As := [.int zd]) (rest := []) hG hR dX12_person_63 (lkX12_84 _ rfl) okV_X12_isTown rfl rfl (m_isTown (d := 2) (by decide) ekc0 (by omega)) rfl rfl hdd (Nat.le_refl _) (Nat.le_refl _) (by decide) (pm_ki (fun v269 σ' cnt' hq => ?_))
            obtain ⟨hq, rfl, rfl⟩ := hq
            rcases hq with ⟨rfl, k271, hk271, ek271⟩ | rfl
            · refine pm_ifN_eq (tgt := 73) hG dX12_person_66 rfl (by omega) (fun q => absurd q (by omega)) (fun _ => ?_)
              refine pm_iconst (v := nI 1) hG dX12_person_69 (by decide) ?_
              refine pm_goto (tgt := 74) hG dX12_person_70 rfl ?_
              refine pm_istoreXi (loc' := [some (.ref (B + 54)), some (.int za), some (.int zb), some (.int zc), some (.int zd), some (.int (nI 1)), none, none]) hG dX12_person_74 (by decide) (pm_c1b rfl) rfl ?_
              refine pm_iloadi hG dX12_person_76 rfl ?_
              refine pm_ifN_ne (tgt := 87) hG dX12_person_78 rfl (by omega) (fun _ => ?_) (fun q => absurd q (by omega))
              refine pm_aloadn hG dX12_person_87 rfl ?_
              refine pm_getf hG dX12_person_88 (flX12_7 _ rfl) rfl rfl ?_
              refine pm_iconst (v := nI 2) hG dX12_person_91 (by decide) ?_
              refine pm_ialdN hG dX12_person_92 rfl (by decide) (by omega) ?_
              obtain ⟨k272, hk272, ek272⟩ := KI.nat hn (show kd 2 = (1, 21, true) by decide)
              refine pm_top (v := nI k272) ek272 ?_
              refine pm_istoreXi (loc' := [some (.ref (B + 54)), some (.int za), some (.int zb), some (.int zc), some (.int zd), some (.int (nI 1)), some (.int (nI k272)), none]) hG dX12_person_93 (by decide) (pm_c1b rfl) rfl ?_
              refine pm_iloadi hG dX12_person_95 rfl ?_
              refine pm_bipush (v := nI 20) hG dX12_person_97 (by decide) ?_
              refine pm_icmpN_ne (tgt := 108) hG dX12_person_99 rfl (by omega) (by omega) (fun c273 => ?_) (fun c273 => ?_)
              · refine pm_aloadn hG dX12_person_108 rfl ?_
                refine pm_getf hG dX12_person_109 (flX12_7 _ rfl) rfl rfl ?_
                refine pm_iconst (v := nI 2) hG dX12_person_112 (by decide) ?_
                refine pm_dup2 hG dX12_person_113 rfl rfl ?_
                refine pm_ialdN hG dX12_person_114 rfl (by decide) (by omega) ?_
                refine pm_top (v := nI k272) ek272 ?_
                refine pm_iconst (v := nI 1) hG dX12_person_115 (by decide) ?_
                refine pm_iaddN (c := k272 + 1) hG dX12_person_116 (by omega) ?_
                refine pm_iastN hG dX12_person_117 rfl (by decide) (by omega) ?_
                refine mdn_now (fun n_274 en_274 => ?_)
                have hnn_274 := KI.w en_274 hn (okv_n (show kd 2 = (1, 21, true) by decide) (by omega))
                have hrn_274 := NRx.pers en_274 hr ekc0 (by omega) ek272 (by omega)
                have e275 : n_274 0 = nI kc0 := by rw [en_274, pk_un (by omega)]; exact ekc0
                have e276 : n_274 8 = nI k4 := by rw [en_274, pk_un (by omega)]; exact ek4
                have e277 : n_274 2 = nI (k272 + 1) := by rw [en_274, pk_us]
                refine pm_iconst (v := nI 0) hG dX12_person_118 (by decide) ?_
                refine pm_istoreXi (loc' := [some (.ref (B + 54)), some (.int za), some (.int zb), some (.int zc), some (.int zd), some (.int (nI 1)), some (.int (nI k272)), some (.int (nI 0))]) hG dX12_person_119 (by decide) (pm_c1b rfl) rfl ?_
                refine pm_iloadi hG dX12_person_121 rfl ?_
                refine pm_bipush (v := nI 14) hG dX12_person_123 (by decide) ?_
                refine pm_icmpN_ge (tgt := 143) hG dX12_person_125 rfl (by omega) (by omega) (fun q => absurd q (by omega)) (fun _ => ?_)
                refine pm_aloadn hG dX12_person_128 rfl ?_
                refine pm_iloadi hG dX12_person_129 rfl ?_
                refine pm_iloadi hG dX12_person_131 rfl ?_
                refine pm_iconst (v := nI 0) hG dX12_person_133 (by decide) ?_
                refine pm_callV (As := [.int (nI k272), .int (nI 0), .int (nI 0)]) (rest := []) hG hR dX12_person_134 (lkX12_97 _ rfl) okV_X12_sets rfl rfl (m_sets (d := 2) (e := 14 * k272 + 110) (by omega) (by omega) (by omega)) rfl rfl hdd (Nat.le_refl _) (Nat.le_refl _) (by decide) (pm_kv (fun σ' cnt' hq => ?_))
                obtain ⟨rfl, rfl⟩ := hq
                obtain ⟨n_278, en_278⟩ : ∃ f : Nat → Int32, f = upd n_274 (14 * k272 + 110) (nI 0) := ⟨_, rfl⟩
                rw [← en_278]
                have hnn_278 := KI.w en_278 hnn_274 (okv_f (show kd (14 * k272 + 110) = (0, 0, false) from (kd_P (k := k272) (c := 0) (by omega) (by omega) (by decide))))
                have hrn_278 := NRx.w en_278 hrn_274 (by rw [(show kd (14 * k272 + 110) = (0, 0, false) from (kd_P (k := k272) (c := 0) (by omega) (by omega) (by decide)))])
                have e279 : n_278 0 = nI kc0 := by rw [en_278, pk_un (by omega)]; exact e275
                have e280 : n_278 8 = nI k4 := by rw [en_278, pk_un (by omega)]; exact e276
                have e281 : n_278 2 = nI (k272 + 1) := by rw [en_278, pk_un (by omega)]; exact e277
                have e282 : n_278 (14 * k272 + 110) = nI 0 := by rw [en_278, pk_us]
                refine pm_iincX (v := nI 1) (loc' := [some (.ref (B + 54)), some (.int za), some (.int zb), some (.int zc), some (.int zd), some (.int (nI 1)), some (.int (nI k272)), some (.int (nI 1))]) hG dX12_person_137 rfl (nI_1 _) (by decide) (pm_c1b rfl) rfl ?_
                refine pm_goto (tgt := 121) hG dX12_person_140 rfl ?_
                refine pm_iloadi hG dX12_person_121 rfl ?_
                refine pm_bipush (v := nI 14) hG dX12_person_123 (by decide) ?_
                refine pm_icmpN_ge (tgt := 143) hG dX12_person_125 rfl (by omega) (by omega) (fun q => absurd q (by omega)) (fun _ => ?_)
                refine pm_aloadn hG dX12_person_128 rfl ?_
                refine pm_iloadi hG dX12_person_129 rfl ?_
                refine pm_iloadi hG dX12_person_131 rfl ?_
                refine pm_iconst (v := nI 0) hG dX12_person_133 (by decide) ?_
                refine pm_callV (As := [.int (nI k272), .int (nI 1), .int (nI 0)]) (rest := []) hG hR dX12_person_134 (lkX12_97 _ rfl) okV_X12_sets rfl rfl (m_sets (d := 2) (e := 14 * k272 + 111) (by omega) (by omega) (by omega)) rfl rfl hdd (Nat.le_refl _) (Nat.le_refl _) (by decide) (pm_kv (fun σ' cnt' hq => ?_))
                obtain ⟨rfl, rfl⟩ := hq
                obtain ⟨n_283, en_283⟩ : ∃ f : Nat → Int32, f = upd n_278 (14 * k272 + 111) (nI 0) := ⟨_, rfl⟩
                rw [← en_283]
                have hnn_283 := KI.w en_283 hnn_278 (okv_f (show kd (14 * k272 + 111) = (0, 0, false) from (kd_P (k := k272) (c := 1) (by omega) (by omega) (by decide))))
                have hrn_283 := NRx.w en_283 hrn_278 (by rw [(show kd (14 * k272 + 111) = (0, 0, false) from (kd_P (k := k272) (c := 1) (by omega) (by omega) (by decide)))])
                have e284 : n_283 0 = nI kc0 := by rw [en_283, pk_un (by omega)]; exact e279
                have e285 : n_283 8 = nI k4 := by rw [en_283, pk_un (by omega)]; exact e280
                have e286 : n_283 2 = nI (k272 + 1) := by rw [en_283, pk_un (by omega)]; exact e281
                have e287 : n_283 (14 * k272 + 111) = nI 0 := by rw [en_283, pk_us]
                refine pm_iincX (v := nI 2) (loc' := [some (.ref (B + 54)), some (.int za), some (.int zb), some (.int zc), some (.int zd), some (.int (nI 1)), some (.int (nI k272)), some (.int (nI 2))]) hG dX12_person_137 rfl (nI_1 _) (by decide) (pm_c1b rfl) rfl ?_
                refine pm_goto (tgt := 121) hG dX12_person_140 rfl ?_
                refine pm_iloadi hG dX12_person_121 rfl ?_
                refine pm_bipush (v := nI 14) hG dX12_person_123 (by decide) ?_
                refine pm_icmpN_ge (tgt := 143) hG dX12_person_125 rfl (by omega) (by omega) (fun q => absurd q (by omega)) (fun _ => ?_)
                refine pm_aloadn hG dX12_person_128 rfl ?_
                refine pm_iloadi hG dX12_person_129 rfl ?_
                refine pm_iloadi hG dX12_person_131 rfl ?_
                refine pm_iconst (v := nI 0) hG dX12_person_133 (by decide) ?_
                refine pm_callV (As := [.int (nI k272), .int (nI 2), .int (nI 0)]) (rest := []) hG hR dX12_person_134 (lkX12_97 _ rfl) okV_X12_sets rfl rfl (m_sets (d := 2) (e := 14 * k272 + 112) (by omega) (by omega) (by omega)) rfl rfl hdd (Nat.le_refl _) (Nat.le_refl _) (by decide) (pm_kv (fun σ' cnt' hq => ?_))
                obtain ⟨rfl, rfl⟩ := hq
                obtain ⟨n_288, en_288⟩ : ∃ f : Nat → Int32, f = upd n_283 (14 * k272 + 112) (nI 0) := ⟨_, rfl⟩
                rw [← en_288]
                have hnn_288 := KI.w en_288 hnn_283 (okv_o (show kd (14 * k272 + 112) = (2, 20, false) from (kd_P (k := k272) (c := 2) (by omega) (by omega) (by decide))) (by omega))
                have hrn_288 := NRx.w en_288 hrn_283 (by rw [(show kd (14 * k272 + 112) = (2, 20, false) from (kd_P (k := k272) (c := 2) (by omega) (by omega) (by decide)))])
                have e289 : n_288 0 = nI kc0 := by rw [en_288, pk_un (by omega)]; exact e284
                have e290 : n_288 8 = nI k4 := by rw [en_288, pk_un (by omega)]; exact e285
                have e291 : n_288 2 = nI (k272 + 1) := by rw [en_288, pk_un (by omega)]; exact e286
                have e292 : n_288 (14 * k272 + 112) = nI 0 := by rw [en_288, pk_us]
                refine pm_iincX (v := nI 3) (loc' := [some (.ref (B + 54)), some (.int za), some (.int zb), some (.int zc), some (.int zd), some (.int (nI 1)), some (.int (nI k272)), some (.int (nI 3))]) hG dX12_person_137 rfl (nI_1 _) (by decide) (pm_c1b rfl) rfl ?_
                refine pm_goto (tgt := 121) hG dX12_person_140 rfl ?_
                refine pm_iloadi hG dX12_person_121 rfl ?_
                refine pm_bipush (v := nI 14) hG dX12_person_123 (by decide) ?_
                refine pm_icmpN_ge (tgt := 143) hG dX12_person_125 rfl (by omega) (by omega) (fun q => absurd q (by omega)) (fun _ => ?_)
                refine pm_aloadn hG dX12_person_128 rfl ?_
                refine pm_iloadi hG dX12_person_129 rfl ?_
                refine pm_iloadi hG dX12_person_131 rfl ?_
                refine pm_iconst (v := nI 0) hG dX12_person_133 (by decide) ?_
                refine pm_callV (As := [.int (nI k272), .int (nI 3), .int (nI 0)]) (rest := []) hG hR dX12_person_134 (lkX12_97 _ rfl) okV_X12_sets rfl rfl (m_sets (d := 2) (e := 14 * k272 + 113) (by omega) (by omega) (by omega)) rfl rfl hdd (Nat.le_refl _) (Nat.le_refl _) (by decide) (pm_kv (fun σ' cnt' hq => ?_))
                obtain ⟨rfl, rfl⟩ := hq
                obtain ⟨n_293, en_293⟩ : ∃ f : Nat → Int32, f = upd n_288 (14 * k272 + 113) (nI 0) := ⟨_, rfl⟩
                rw [← en_293]
                have hnn_293 := KI.w en_293 hnn_288 (okv_o (show kd (14 * k272 + 113) = (2, 20, false) from (kd_P (k := k272) (c := 3) (by omega) (by omega) (by decide))) (by omega))
                have hrn_293 := NRx.w en_293 hrn_288 (by rw [(show kd (14 * k272 + 113) = (2, 20, false) from (kd_P (k := k272) (c := 3) (by omega) (by omega) (by decide)))])
                have e294 : n_293 0 = nI kc0 := by rw [en_293, pk_un (by omega)]; exact e289
                have e295 : n_293 8 = nI k4 := by rw [en_293, pk_un (by omega)]; exact e290
                have e296 : n_293 2 = nI (k272 + 1) := by rw [en_293, pk_un (by omega)]; exact e291
                have e297 : n_293 (14 * k272 + 113) = nI 0 := by rw [en_293, pk_us]
                refine pm_iincX (v := nI 4) (loc' := [some (.ref (B + 54)), some (.int za), some (.int zb), some (.int zc), some (.int zd), some (.int (nI 1)), some (.int (nI k272)), some (.int (nI 4))]) hG dX12_person_137 rfl (nI_1 _) (by decide) (pm_c1b rfl) rfl ?_
                refine pm_goto (tgt := 121) hG dX12_person_140 rfl ?_
                refine pm_iloadi hG dX12_person_121 rfl ?_
                refine pm_bipush (v := nI 14) hG dX12_person_123 (by decide) ?_
                refine pm_icmpN_ge (tgt := 143) hG dX12_person_125 rfl (by omega) (by omega) (fun q => absurd q (by omega)) (fun _ => ?_)
                refine pm_aloadn hG dX12_person_128 rfl ?_
                refine pm_iloadi hG dX12_person_129 rfl ?_
                refine pm_iloadi hG dX12_person_131 rfl ?_
                refine pm_iconst (v := nI 0) hG dX12_person_133 (by decide) ?_
                refine pm_callV (As := [.int (nI k272), .int (nI 4), .int (nI 0)]) (rest := []) hG hR dX12_person_134 (lkX12_97 _ rfl) okV_X12_sets rfl rfl (m_sets (d := 2) (e := 14 * k272 + 114) (by omega) (by omega) (by omega)) rfl rfl hdd (Nat.le_refl _) (Nat.le_refl _) (by decide) (pm_kv (fun σ' cnt' hq => ?_))
                obtain ⟨rfl, rfl⟩ := hq
                obtain ⟨n_298, en_298⟩ : ∃ f : Nat → Int32, f = upd n_293 (14 * k272 + 114) (nI 0) := ⟨_, rfl⟩
                rw [← en_298]
                have hnn_298 := KI.w en_298 hnn_293 (okv_o (show kd (14 * k272 + 114) = (2, 10, false) from (kd_P (k := k272) (c := 4) (by omega) (by omega) (by decide))) (by omega))
                have hrn_298 := NRx.w en_298 hrn_293 (by rw [(show kd (14 * k272 + 114) = (2, 10, false) from (kd_P (k := k272) (c := 4) (by omega) (by omega) (by decide)))])
                have e299 : n_298 0 = nI kc0 := by rw [en_298, pk_un (by omega)]; exact e294
                have e300 : n_298 8 = nI k4 := by rw [en_298, pk_un (by omega)]; exact e295
                have e301 : n_298 2 = nI (k272 + 1) := by rw [en_298, pk_un (by omega)]; exact e296
                have e302 : n_298 (14 * k272 + 114) = nI 0 := by rw [en_298, pk_us]
                refine pm_iincX (v := nI 5) (loc' := [some (.ref (B + 54)), some (.int za), some (.int zb), some (.int zc), some (.int zd), some (.int (nI 1)), some (.int (nI k272)), some (.int (nI 5))]) hG dX12_person_137 rfl (nI_1 _) (by decide) (pm_c1b rfl) rfl ?_
                refine pm_goto (tgt := 121) hG dX12_person_140 rfl ?_
                refine pm_iloadi hG dX12_person_121 rfl ?_
                refine pm_bipush (v := nI 14) hG dX12_person_123 (by decide) ?_
                refine pm_icmpN_ge (tgt := 143) hG dX12_person_125 rfl (by omega) (by omega) (fun q => absurd q (by omega)) (fun _ => ?_)
                refine pm_aloadn hG dX12_person_128 rfl ?_
                refine pm_iloadi hG dX12_person_129 rfl ?_
                refine pm_iloadi hG dX12_person_131 rfl ?_
                refine pm_iconst (v := nI 0) hG dX12_person_133 (by decide) ?_
                refine pm_callV (As := [.int (nI k272), .int (nI 5), .int (nI 0)]) (rest := []) hG hR dX12_person_134 (lkX12_97 _ rfl) okV_X12_sets rfl rfl (m_sets (d := 2) (e := 14 * k272 + 115) (by omega) (by omega) (by omega)) rfl rfl hdd (Nat.le_refl _) (Nat.le_refl _) (by decide) (pm_kv (fun σ' cnt' hq => ?_))
                obtain ⟨rfl, rfl⟩ := hq
                obtain ⟨n_303, en_303⟩ : ∃ f : Nat → Int32, f = upd n_298 (14 * k272 + 115) (nI 0) := ⟨_, rfl⟩
                rw [← en_303]
                have hnn_303 := KI.w en_303 hnn_298 (okv_n (show kd (14 * k272 + 115) = (1, 10, false) from (kd_P (k := k272) (c := 5) (by omega) (by omega) (by decide))) (by omega))
                have hrn_303 := NRx.w en_303 hrn_298 (by rw [(show kd (14 * k272 + 115) = (1, 10, false) from (kd_P (k := k272) (c := 5) (by omega) (by omega) (by decide)))])
                have e304 : n_303 0 = nI kc0 := by rw [en_303, pk_un (by omega)]; exact e299
                have e305 : n_303 8 = nI k4 := by rw [en_303, pk_un (by omega)]; exact e300
                have e306 : n_303 2 = nI (k272 + 1) := by rw [en_303, pk_un (by omega)]; exact e301
                have e307 : n_303 (14 * k272 + 115) = nI 0 := by rw [en_303, pk_us]
                refine pm_iincX (v := nI 6) (loc' := [some (.ref (B + 54)), some (.int za), some (.int zb), some (.int zc), some (.int zd), some (.int (nI 1)), some (.int (nI k272)), some (.int (nI 6))]) hG dX12_person_137 rfl (nI_1 _) (by decide) (pm_c1b rfl) rfl ?_
                refine pm_goto (tgt := 121) hG dX12_person_140 rfl ?_
                refine pm_iloadi hG dX12_person_121 rfl ?_
                refine pm_bipush (v := nI 14) hG dX12_person_123 (by decide) ?_
                refine pm_icmpN_ge (tgt := 143) hG dX12_person_125 rfl (by omega) (by omega) (fun q => absurd q (by omega)) (fun _ => ?_)
                refine pm_aloadn hG dX12_person_128 rfl ?_
                refine pm_iloadi hG dX12_person_129 rfl ?_
                refine pm_iloadi hG dX12_person_131 rfl ?_
                refine pm_iconst (v := nI 0) hG dX12_person_133 (by decide) ?_
                refine pm_callV (As := [.int (nI k272), .int (nI 6), .int (nI 0)]) (rest := []) hG hR dX12_person_134 (lkX12_97 _ rfl) okV_X12_sets rfl rfl (m_sets (d := 2) (e := 14 * k272 + 116) (by omega) (by omega) (by omega)) rfl rfl hdd (Nat.le_refl _) (Nat.le_refl _) (by decide) (pm_kv (fun σ' cnt' hq => ?_))
                obtain ⟨rfl, rfl⟩ := hq
                obtain ⟨n_308, en_308⟩ : ∃ f : Nat → Int32, f = upd n_303 (14 * k272 + 116) (nI 0) := ⟨_, rfl⟩
                rw [← en_308]
                have hnn_308 := KI.w en_308 hnn_303 (okv_f (show kd (14 * k272 + 116) = (0, 0, false) from (kd_P (k := k272) (c := 6) (by omega) (by omega) (by decide))))
                have hrn_308 := NRx.w en_308 hrn_303 (by rw [(show kd (14 * k272 + 116) = (0, 0, false) from (kd_P (k := k272) (c := 6) (by omega) (by omega) (by decide)))])
                have e309 : n_308 0 = nI kc0 := by rw [en_308, pk_un (by omega)]; exact e304
                have e310 : n_308 8 = nI k4 := by rw [en_308, pk_un (by omega)]; exact e305
                have e311 : n_308 2 = nI (k272 + 1) := by rw [en_308, pk_un (by omega)]; exact e306
                have e312 : n_308 (14 * k272 + 116) = nI 0 := by rw [en_308, pk_us]
                refine pm_iincX (v := nI 7) (loc' := [some (.ref (B + 54)), some (.int za), some (.int zb), some (.int zc), some (.int zd), some (.int (nI 1)), some (.int (nI k272)), some (.int (nI 7))]) hG dX12_person_137 rfl (nI_1 _) (by decide) (pm_c1b rfl) rfl ?_
                refine pm_goto (tgt := 121) hG dX12_person_140 rfl ?_
                refine pm_iloadi hG dX12_person_121 rfl ?_
                refine pm_bipush (v := nI 14) hG dX12_person_123 (by decide) ?_
                refine pm_icmpN_ge (tgt := 143) hG dX12_person_125 rfl (by omega) (by omega) (fun q => absurd q (by omega)) (fun _ => ?_)
                refine pm_aloadn hG dX12_person_128 rfl ?_
                refine pm_iloadi hG dX12_person_129 rfl ?_
                refine pm_iloadi hG dX12_person_131 rfl ?_
                refine pm_iconst (v := nI 0) hG dX12_person_133 (by decide) ?_
                refine pm_callV (As := [.int (nI k272), .int (nI 7), .int (nI 0)]) (rest := []) hG hR dX12_person_134 (lkX12_97 _ rfl) okV_X12_sets rfl rfl (m_sets (d := 2) (e := 14 * k272 + 117) (by omega) (by omega) (by omega)) rfl rfl hdd (Nat.le_refl _) (Nat.le_refl _) (by decide) (pm_kv (fun σ' cnt' hq => ?_))
                obtain ⟨rfl, rfl⟩ := hq
                obtain ⟨n_313, en_313⟩ : ∃ f : Nat → Int32, f = upd n_308 (14 * k272 + 117) (nI 0) := ⟨_, rfl⟩
                rw [← en_313]
                have hnn_313 := KI.w en_313 hnn_308 (okv_f (show kd (14 * k272 + 117) = (0, 0, false) from (kd_P (k := k272) (c := 7) (by omega) (by omega) (by decide))))
                have hrn_313 := NRx.w en_313 hrn_308 (by rw [(show kd (14 * k272 + 117) = (0, 0, false) from (kd_P (k := k272) (c := 7) (by omega) (by omega) (by decide)))])
                have e314 : n_313 0 = nI kc0 := by rw [en_313, pk_un (by omega)]; exact e309
                have e315 : n_313 8 = nI k4 := by rw [en_313, pk_un (by omega)]; exact e310
                have e316 : n_313 2 = nI (k272 + 1) := by rw [en_313, pk_un (by omega)]; exact e311
                have e317 : n_313 (14 * k272 + 117) = nI 0 := by rw [en_313, pk_us]
                refine pm_iincX (v := nI 8) (loc' := [some (.ref (B + 54)), some (.int za), some (.int zb), some (.int zc), some (.int zd), some (.int (nI 1)), some (.int (nI k272)), some (.int (nI 8))]) hG dX12_person_137 rfl (nI_1 _) (by decide) (pm_c1b rfl) rfl ?_
                refine pm_goto (tgt := 121) hG dX12_person_140 rfl ?_
                refine pm_iloadi hG dX12_person_121 rfl ?_
                refine pm_bipush (v := nI 14) hG dX12_person_123 (by decide) ?_
                refine pm_icmpN_ge (tgt := 143) hG dX12_person_125 rfl (by omega) (by omega) (fun q => absurd q (by omega)) (fun _ => ?_)
                refine pm_aloadn hG dX12_person_128 rfl ?_
                refine pm_iloadi hG dX12_person_129 rfl ?_
                refine pm_iloadi hG dX12_person_131 rfl ?_
                refine pm_iconst (v := nI 0) hG dX12_person_133 (by decide) ?_
                refine pm_callV (As := [.int (nI k272), .int (nI 8), .int (nI 0)]) (rest := []) hG hR dX12_person_134 (lkX12_97 _ rfl) okV_X12_sets rfl rfl (m_sets (d := 2) (e := 14 * k272 + 118) (by omega) (by omega) (by omega)) rfl rfl hdd (Nat.le_refl _) (Nat.le_refl _) (by decide) (pm_kv (fun σ' cnt' hq => ?_))
                obtain ⟨rfl, rfl⟩ := hq
                obtain ⟨n_318, en_318⟩ : ∃ f : Nat → Int32, f = upd n_313 (14 * k272 + 118) (nI 0) := ⟨_, rfl⟩
                rw [← en_318]
                have hnn_318 := KI.w en_318 hnn_313 (okv_f (show kd (14 * k272 + 118) = (0, 0, false) from (kd_P (k := k272) (c := 8) (by omega) (by omega) (by decide))))
                have hrn_318 := NRx.w en_318 hrn_313 (by rw [(show kd (14 * k272 + 118) = (0, 0, false) from (kd_P (k := k272) (c := 8) (by omega) (by omega) (by decide)))])
                have e319 : n_318 0 = nI kc0 := by rw [en_318, pk_un (by omega)]; exact e314
                have e320 : n_318 8 = nI k4 := by rw [en_318, pk_un (by omega)]; exact e315
                have e321 : n_318 2 = nI (k272 + 1) := by rw [en_318, pk_un (by omega)]; exact e316
                have e322 : n_318 (14 * k272 + 118) = nI 0 := by rw [en_318, pk_us]
                refine pm_iincX (v := nI 9) (loc' := [some (.ref (B + 54)), some (.int za), some (.int zb), some (.int zc), some (.int zd), some (.int (nI 1)), some (.int (nI k272)), some (.int (nI 9))]) hG dX12_person_137 rfl (nI_1 _) (by decide) (pm_c1b rfl) rfl ?_
                refine pm_goto (tgt := 121) hG dX12_person_140 rfl ?_
                refine pm_iloadi hG dX12_person_121 rfl ?_
                refine pm_bipush (v := nI 14) hG dX12_person_123 (by decide) ?_
                refine pm_icmpN_ge (tgt := 143) hG dX12_person_125 rfl (by omega) (by omega) (fun q => absurd q (by omega)) (fun _ => ?_)
                refine pm_aloadn hG dX12_person_128 rfl ?_
                refine pm_iloadi hG dX12_person_129 rfl ?_
                refine pm_iloadi hG dX12_person_131 rfl ?_
                refine pm_iconst (v := nI 0) hG dX12_person_133 (by decide) ?_
                refine pm_callV (As := [.int (nI k272), .int (nI 9), .int (nI 0)]) (rest := []) hG hR dX12_person_134 (lkX12_97 _ rfl) okV_X12_sets rfl rfl (m_sets (d := 2) (e := 14 * k272 + 119) (by omega) (by omega) (by omega)) rfl rfl hdd (Nat.le_refl _) (Nat.le_refl _) (by decide) (pm_kv (fun σ' cnt' hq => ?_))
                obtain ⟨rfl, rfl⟩ := hq
                obtain ⟨n_323, en_323⟩ : ∃ f : Nat → Int32, f = upd n_318 (14 * k272 + 119) (nI 0) := ⟨_, rfl⟩
                rw [← en_323]
                have hnn_323 := KI.w en_323 hnn_318 (okv_o (show kd (14 * k272 + 119) = (2, 2001, false) from (kd_P (k := k272) (c := 9) (by omega) (by omega) (by decide))) (by omega))
                have hrn_323 := NRx.w en_323 hrn_318 (by rw [(show kd (14 * k272 + 119) = (2, 2001, false) from (kd_P (k := k272) (c := 9) (by omega) (by omega) (by decide)))])
                have e324 : n_323 0 = nI kc0 := by rw [en_323, pk_un (by omega)]; exact e319
                have e325 : n_323 8 = nI k4 := by rw [en_323, pk_un (by omega)]; exact e320
                have e326 : n_323 2 = nI (k272 + 1) := by rw [en_323, pk_un (by omega)]; exact e321
                have e327 : n_323 (14 * k272 + 119) = nI 0 := by rw [en_323, pk_us]
                refine pm_iincX (v := nI 10) (loc' := [some (.ref (B + 54)), some (.int za), some (.int zb), some (.int zc), some (.int zd), some (.int (nI 1)), some (.int (nI k272)), some (.int (nI 10))]) hG dX12_person_137 rfl (nI_1 _) (by decide) (pm_c1b rfl) rfl ?_
                refine pm_goto (tgt := 121) hG dX12_person_140 rfl ?_
                refine pm_iloadi hG dX12_person_121 rfl ?_
                refine pm_bipush (v := nI 14) hG dX12_person_123 (by decide) ?_
                refine pm_icmpN_ge (tgt := 143) hG dX12_person_125 rfl (by omega) (by omega) (fun q => absurd q (by omega)) (fun _ => ?_)
                refine pm_aloadn hG dX12_person_128 rfl ?_
                refine pm_iloadi hG dX12_person_129 rfl ?_
                refine pm_iloadi hG dX12_person_131 rfl ?_
                refine pm_iconst (v := nI 0) hG dX12_person_133 (by decide) ?_
                refine pm_callV (As := [.int (nI k272), .int (nI 10), .int (nI 0)]) (rest := []) hG hR dX12_person_134 (lkX12_97 _ rfl) okV_X12_sets rfl rfl (m_sets (d := 2) (e := 14 * k272 + 120) (by omega) (by omega) (by omega)) rfl rfl hdd (Nat.le_refl _) (Nat.le_refl _) (by decide) (pm_kv (fun σ' cnt' hq => ?_))
                obtain ⟨rfl, rfl⟩ := hq
                obtain ⟨n_328, en_328⟩ : ∃ f : Nat → Int32, f = upd n_323 (14 * k272 + 120) (nI 0) := ⟨_, rfl⟩
                rw [← en_328]
                have hnn_328 := KI.w en_328 hnn_323 (okv_f (show kd (14 * k272 + 120) = (0, 0, false) from (kd_P (k := k272) (c := 10) (by omega) (by omega) (by decide))))
                have hrn_328 := NRx.w en_328 hrn_323 (by rw [(show kd (14 * k272 + 120) = (0, 0, false) from (kd_P (k := k272) (c := 10) (by omega) (by omega) (by decide)))])
                have e329 : n_328 0 = nI kc0 := by rw [en_328, pk_un (by omega)]; exact e324
                have e330 : n_328 8 = nI k4 := by rw [en_328, pk_un (by omega)]; exact e325
                have e331 : n_328 2 = nI (k272 + 1) := by rw [en_328, pk_un (by omega)]; exact e326
                have e332 : n_328 (14 * k272 + 120) = nI 0 := by rw [en_328, pk_us]
                refine pm_iincX (v := nI 11) (loc' := [some (.ref (B + 54)), some (.int za), some (.int zb), some (.int zc), some (.int zd), some (.int (nI 1)), some (.int (nI k272)), some (.int (nI 11))]) hG dX12_person_137 rfl (nI_1 _) (by decide) (pm_c1b rfl) rfl ?_
                refine pm_goto (tgt := 121) hG dX12_person_140 rfl ?_
                refine pm_iloadi hG dX12_person_121 rfl ?_
                refine pm_bipush (v := nI 14) hG dX12_person_123 (by decide) ?_
                refine pm_icmpN_ge (tgt := 143) hG dX12_person_125 rfl (by omega) (by omega) (fun q => absurd q (by omega)) (fun _ => ?_)
                refine pm_aloadn hG dX12_person_128 rfl ?_
                refine pm_iloadi hG dX12_person_129 rfl ?_
                refine pm_iloadi hG dX12_person_131 rfl ?_
                refine pm_iconst (v := nI 0) hG dX12_person_133 (by decide) ?_
                refine pm_callV (As := [.int (nI k272), .int (nI 11), .int (nI 0)]) (rest := []) hG hR dX12_person_134 (lkX12_97 _ rfl) okV_X12_sets rfl rfl (m_sets (d := 2) (e := 14 * k272 + 121) (by omega) (by omega) (by omega)) rfl rfl hdd (Nat.le_refl _) (Nat.le_refl _) (by decide) (pm_kv (fun σ' cnt' hq => ?_))
                obtain ⟨rfl, rfl⟩ := hq
                obtain ⟨n_333, en_333⟩ : ∃ f : Nat → Int32, f = upd n_328 (14 * k272 + 121) (nI 0) := ⟨_, rfl⟩
                rw [← en_333]
                have hnn_333 := KI.w en_333 hnn_328 (okv_n (show kd (14 * k272 + 121) = (1, 2, true) from (kd_P (k := k272) (c := 11) (by omega) (by omega) (by decide))) (by omega))
                have hrn_333 := NRx.unseat (p := k272) en_333 hrn_328 (by omega)
                have e334 : n_333 0 = nI kc0 := by rw [en_333, pk_un (by omega)]; exact e329
                have e335 : n_333 8 = nI k4 := by rw [en_333, pk_un (by omega)]; exact e330
                have e336 : n_333 2 = nI (k272 + 1) := by rw [en_333, pk_un (by omega)]; exact e331
                have e337 : n_333 (14 * k272 + 121) = nI 0 := by rw [en_333, pk_us]
                refine pm_iincX (v := nI 12) (loc' := [some (.ref (B + 54)), some (.int za), some (.int zb), some (.int zc), some (.int zd), some (.int (nI 1)), some (.int (nI k272)), some (.int (nI 12))]) hG dX12_person_137 rfl (nI_1 _) (by decide) (pm_c1b rfl) rfl ?_
                refine pm_goto (tgt := 121) hG dX12_person_140 rfl ?_
                refine pm_iloadi hG dX12_person_121 rfl ?_
                refine pm_bipush (v := nI 14) hG dX12_person_123 (by decide) ?_
                refine pm_icmpN_ge (tgt := 143) hG dX12_person_125 rfl (by omega) (by omega) (fun q => absurd q (by omega)) (fun _ => ?_)
                refine pm_aloadn hG dX12_person_128 rfl ?_
                refine pm_iloadi hG dX12_person_129 rfl ?_
                refine pm_iloadi hG dX12_person_131 rfl ?_
                refine pm_iconst (v := nI 0) hG dX12_person_133 (by decide) ?_
                refine pm_callV (As := [.int (nI k272), .int (nI 12), .int (nI 0)]) (rest := []) hG hR dX12_person_134 (lkX12_97 _ rfl) okV_X12_sets rfl rfl (m_sets (d := 2) (e := 14 * k272 + 122) (by omega) (by omega) (by omega)) rfl rfl hdd (Nat.le_refl _) (Nat.le_refl _) (by decide) (pm_kv (fun σ' cnt' hq => ?_))
                obtain ⟨rfl, rfl⟩ := hq
                obtain ⟨n_338, en_338⟩ : ∃ f : Nat → Int32, f = upd n_333 (14 * k272 + 122) (nI 0) := ⟨_, rfl⟩
                rw [← en_338]
                have hnn_338 := KI.w en_338 hnn_333 (okv_f (show kd (14 * k272 + 122) = (0, 0, false) from (kd_P (k := k272) (c := 12) (by omega) (by omega) (by decide))))
                have hrn_338 := NRx.w en_338 hrn_333 (by rw [(show kd (14 * k272 + 122) = (0, 0, false) from (kd_P (k := k272) (c := 12) (by omega) (by omega) (by decide)))])
                have e339 : n_338 0 = nI kc0 := by rw [en_338, pk_un (by omega)]; exact e334
                have e340 : n_338 8 = nI k4 := by rw [en_338, pk_un (by omega)]; exact e335
                have e341 : n_338 2 = nI (k272 + 1) := by rw [en_338, pk_un (by omega)]; exact e336
                have e342 : n_338 (14 * k272 + 122) = nI 0 := by rw [en_338, pk_us]
                refine pm_iincX (v := nI 13) (loc' := [some (.ref (B + 54)), some (.int za), some (.int zb), some (.int zc), some (.int zd), some (.int (nI 1)), some (.int (nI k272)), some (.int (nI 13))]) hG dX12_person_137 rfl (nI_1 _) (by decide) (pm_c1b rfl) rfl ?_
                refine pm_goto (tgt := 121) hG dX12_person_140 rfl ?_
                refine pm_iloadi hG dX12_person_121 rfl ?_
                refine pm_bipush (v := nI 14) hG dX12_person_123 (by decide) ?_
                refine pm_icmpN_ge (tgt := 143) hG dX12_person_125 rfl (by omega) (by omega) (fun q => absurd q (by omega)) (fun _ => ?_)
                refine pm_aloadn hG dX12_person_128 rfl ?_
                refine pm_iloadi hG dX12_person_129 rfl ?_
                refine pm_iloadi hG dX12_person_131 rfl ?_
                refine pm_iconst (v := nI 0) hG dX12_person_133 (by decide) ?_
                refine pm_callV (As := [.int (nI k272), .int (nI 13), .int (nI 0)]) (rest := []) hG hR dX12_person_134 (lkX12_97 _ rfl) okV_X12_sets rfl rfl (m_sets (d := 2) (e := 14 * k272 + 123) (by omega) (by omega) (by omega)) rfl rfl hdd (Nat.le_refl _) (Nat.le_refl _) (by decide) (pm_kv (fun σ' cnt' hq => ?_))
                obtain ⟨rfl, rfl⟩ := hq
                obtain ⟨n_343, en_343⟩ : ∃ f : Nat → Int32, f = upd n_338 (14 * k272 + 123) (nI 0) := ⟨_, rfl⟩
                rw [← en_343]
                have hnn_343 := KI.w en_343 hnn_338 (okv_f (show kd (14 * k272 + 123) = (0, 0, false) from (kd_P (k := k272) (c := 13) (by omega) (by omega) (by decide))))
                have hrn_343 := NRx.w en_343 hrn_338 (by rw [(show kd (14 * k272 + 123) = (0, 0, false) from (kd_P (k := k272) (c := 13) (by omega) (by omega) (by decide)))])
                have e344 : n_343 0 = nI kc0 := by rw [en_343, pk_un (by omega)]; exact e339
                have e345 : n_343 8 = nI k4 := by rw [en_343, pk_un (by omega)]; exact e340
                have e346 : n_343 2 = nI (k272 + 1) := by rw [en_343, pk_un (by omega)]; exact e341
                have e347 : n_343 (14 * k272 + 123) = nI 0 := by rw [en_343, pk_us]
                refine pm_iincX (v := nI 14) (loc' := [some (.ref (B + 54)), some (.int za), some (.int zb), some (.int zc), some (.int zd), some (.int (nI 1)), some (.int (nI k272)), some (.int (nI 14))]) hG dX12_person_137 rfl (nI_1 _) (by decide) (pm_c1b rfl) rfl ?_
                refine pm_goto (tgt := 121) hG dX12_person_140 rfl ?_
                refine pm_iloadi hG dX12_person_121 rfl ?_
                refine pm_bipush (v := nI 14) hG dX12_person_123 (by decide) ?_
                refine pm_icmpN_ge (tgt := 143) hG dX12_person_125 rfl (by omega) (by omega) (fun _ => ?_) (fun q => absurd q (by omega))
                refine pm_aloadn hG dX12_person_143 rfl ?_
                refine pm_iloadi hG dX12_person_144 rfl ?_
                refine pm_iconst (v := nI 0) hG dX12_person_146 (by decide) ?_
                refine pm_iloadn hG dX12_person_147 rfl ?_
                refine pm_top (v := nI k3) ek3 ?_
                refine pm_callV (As := [.int (nI k272), .int (nI 0), .int (nI k3)]) (rest := []) hG hR dX12_person_148 (lkX12_97 _ rfl) okV_X12_sets rfl rfl (m_sets (d := 2) (e := 14 * k272 + 110) (by omega) (by omega) (by omega)) rfl rfl hdd (Nat.le_refl _) (Nat.le_refl _) (by decide) (pm_kv (fun σ' cnt' hq => ?_))
                obtain ⟨rfl, rfl⟩ := hq
                obtain ⟨n_348, en_348⟩ : ∃ f : Nat → Int32, f = upd n_343 (14 * k272 + 110) (nI k3) := ⟨_, rfl⟩
                rw [← en_348]
                have hnn_348 := KI.w en_348 hnn_343 (okv_f (show kd (14 * k272 + 110) = (0, 0, false) from (kd_P (k := k272) (c := 0) (by omega) (by omega) (by decide))))
                have hrn_348 := NRx.w en_348 hrn_343 (by rw [(show kd (14 * k272 + 110) = (0, 0, false) from (kd_P (k := k272) (c := 0) (by omega) (by omega) (by decide)))])
                have e349 : n_348 0 = nI kc0 := by rw [en_348, pk_un (by omega)]; exact e344
                have e350 : n_348 8 = nI k4 := by rw [en_348, pk_un (by omega)]; exact e345
                have e351 : n_348 2 = nI (k272 + 1) := by rw [en_348, pk_un (by omega)]; exact e346
                have e352 : n_348 (14 * k272 + 110) = nI k3 := by rw [en_348, pk_us]
                refine pm_aloadn hG dX12_person_151 rfl ?_
                refine pm_iloadi hG dX12_person_152 rfl ?_
                refine pm_iconst (v := nI 1) hG dX12_person_154 (by decide) ?_
                refine pm_iloadn hG dX12_person_155 rfl ?_
                refine pm_callV (As := [.int (nI k272), .int (nI 1), .int zb]) (rest := []) hG hR dX12_person_156 (lkX12_97 _ rfl) okV_X12_sets rfl rfl (m_sets (d := 2) (e := 14 * k272 + 111) (by omega) (by omega) (by omega)) rfl rfl hdd (Nat.le_refl _) (Nat.le_refl _) (by decide) (pm_kv (fun σ' cnt' hq => ?_))
                obtain ⟨rfl, rfl⟩ := hq
                obtain ⟨n_353, en_353⟩ : ∃ f : Nat → Int32, f = upd n_348 (14 * k272 + 111) zb := ⟨_, rfl⟩
                rw [← en_353]
                have hnn_353 := KI.w en_353 hnn_348 (okv_f (show kd (14 * k272 + 111) = (0, 0, false) from (kd_P (k := k272) (c := 1) (by omega) (by omega) (by decide))))
                have hrn_353 := NRx.w en_353 hrn_348 (by rw [(show kd (14 * k272 + 111) = (0, 0, false) from (kd_P (k := k272) (c := 1) (by omega) (by omega) (by decide)))])
                have e354 : n_353 0 = nI kc0 := by rw [en_353, pk_un (by omega)]; exact e349
                have e355 : n_353 8 = nI k4 := by rw [en_353, pk_un (by omega)]; exact e350
                have e356 : n_353 2 = nI (k272 + 1) := by rw [en_353, pk_un (by omega)]; exact e351
                have e357 : n_353 (14 * k272 + 111) = zb := by rw [en_353, pk_us]
                refine pm_aloadn hG dX12_person_159 rfl ?_
                refine pm_iloadi hG dX12_person_160 rfl ?_
                refine pm_iconst (v := nI 2) hG dX12_person_162 (by decide) ?_
                refine pm_iloadn hG dX12_person_163 rfl ?_
                refine pm_top (v := nI k10) ek10 ?_
                refine pm_bipush (v := nI 100) hG dX12_person_164 (by decide) ?_
                refine pm_idivN hG dX12_person_166 (by omega) (by decide) (by decide) ?_
                refine pm_iconst (v := nI 1) hG dX12_person_167 (by decide) ?_
                refine pm_isub hG dX12_person_168 ?_
                refine pm_top (v := nI k12) ek12 ?_
                refine pm_callV (As := [.int (nI k272), .int (nI 2), .int (nI k12)]) (rest := []) hG hR dX12_person_169 (lkX12_97 _ rfl) okV_X12_sets rfl rfl (m_sets (d := 2) (e := 14 * k272 + 112) (by omega) (by omega) (by omega)) rfl rfl hdd (Nat.le_refl _) (Nat.le_refl _) (by decide) (pm_kv (fun σ' cnt' hq => ?_))
                obtain ⟨rfl, rfl⟩ := hq
                obtain ⟨n_358, en_358⟩ : ∃ f : Nat → Int32, f = upd n_353 (14 * k272 + 112) (nI k12) := ⟨_, rfl⟩
                rw [← en_358]
                have hnn_358 := KI.w en_358 hnn_353 (okv_o (show kd (14 * k272 + 112) = (2, 20, false) from (kd_P (k := k272) (c := 2) (by omega) (by omega) (by decide))) (by omega))
                have hrn_358 := NRx.w en_358 hrn_353 (by rw [(show kd (14 * k272 + 112) = (2, 20, false) from (kd_P (k := k272) (c := 2) (by omega) (by omega) (by decide)))])
                have e359 : n_358 0 = nI kc0 := by rw [en_358, pk_un (by omega)]; exact e354
                have e360 : n_358 8 = nI k4 := by rw [en_358, pk_un (by omega)]; exact e355
                have e361 : n_358 2 = nI (k272 + 1) := by rw [en_358, pk_un (by omega)]; exact e356
                have e362 : n_358 (14 * k272 + 112) = nI k12 := by rw [en_358, pk_us]
                refine pm_aloadn hG dX12_person_172 rfl ?_
                refine pm_iloadi hG dX12_person_173 rfl ?_
                refine pm_iconst (v := nI 3) hG dX12_person_175 (by decide) ?_
                refine pm_iloadn hG dX12_person_176 rfl ?_
                refine pm_top (v := nI k10) ek10 ?_
                refine pm_bipush (v := nI 100) hG dX12_person_177 (by decide) ?_
                refine pm_iremM hG dX12_person_179 (by omega) (by decide) (by decide) ?_
                refine pm_iconst (v := nI 1) hG dX12_person_180 (by decide) ?_
                refine pm_isub hG dX12_person_181 ?_
                refine pm_top (v := (-1)) ek266 ?_
                refine pm_callV (As := [.int (nI k272), .int (nI 3), .int (-1)]) (rest := []) hG hR dX12_person_182 (lkX12_97 _ rfl) okV_X12_sets rfl rfl (m_sets (d := 2) (e := 14 * k272 + 113) (by omega) (by omega) (by omega)) rfl rfl hdd (Nat.le_refl _) (Nat.le_refl _) (by decide) (pm_kv (fun σ' cnt' hq => ?_))
                obtain ⟨rfl, rfl⟩ := hq
                obtain ⟨n_363, en_363⟩ : ∃ f : Nat → Int32, f = upd n_358 (14 * k272 + 113) (-1) := ⟨_, rfl⟩
                rw [← en_363]
                have hnn_363 := KI.w en_363 hnn_358 (okv_m (show kd (14 * k272 + 113) = (2, 20, false) from (kd_P (k := k272) (c := 3) (by omega) (by omega) (by decide))))
                have hrn_363 := NRx.w en_363 hrn_358 (by rw [(show kd (14 * k272 + 113) = (2, 20, false) from (kd_P (k := k272) (c := 3) (by omega) (by omega) (by decide)))])
                have e364 : n_363 0 = nI kc0 := by rw [en_363, pk_un (by omega)]; exact e359
                have e365 : n_363 8 = nI k4 := by rw [en_363, pk_un (by omega)]; exact e360
                have e366 : n_363 2 = nI (k272 + 1) := by rw [en_363, pk_un (by omega)]; exact e361
                have e367 : n_363 (14 * k272 + 113) = (-1) := by rw [en_363, pk_us]
                refine pm_aloadn hG dX12_person_185 rfl ?_
                refine pm_iloadi hG dX12_person_186 rfl ?_
                refine pm_iconst (v := nI 4) hG dX12_person_188 (by decide) ?_
                refine pm_iloadi hG dX12_person_189 rfl ?_
                refine pm_top (v := nI k271) ek271 ?_
                refine pm_callV (As := [.int (nI k272), .int (nI 4), .int (nI k271)]) (rest := []) hG hR dX12_person_191 (lkX12_97 _ rfl) okV_X12_sets rfl rfl (m_sets (d := 2) (e := 14 * k272 + 114) (by omega) (by omega) (by omega)) rfl rfl hdd (Nat.le_refl _) (Nat.le_refl _) (by decide) (pm_kv (fun σ' cnt' hq => ?_))
                obtain ⟨rfl, rfl⟩ := hq
                obtain ⟨n_368, en_368⟩ : ∃ f : Nat → Int32, f = upd n_363 (14 * k272 + 114) (nI k271) := ⟨_, rfl⟩
                rw [← en_368]
                have hnn_368 := KI.w en_368 hnn_363 (okv_o (show kd (14 * k272 + 114) = (2, 10, false) from (kd_P (k := k272) (c := 4) (by omega) (by omega) (by decide))) (by omega))
                have hrn_368 := NRx.w en_368 hrn_363 (by rw [(show kd (14 * k272 + 114) = (2, 10, false) from (kd_P (k := k272) (c := 4) (by omega) (by omega) (by decide)))])
                have e369 : n_368 0 = nI kc0 := by rw [en_368, pk_un (by omega)]; exact e364
                have e370 : n_368 8 = nI k4 := by rw [en_368, pk_un (by omega)]; exact e365
                have e371 : n_368 2 = nI (k272 + 1) := by rw [en_368, pk_un (by omega)]; exact e366
                have e372 : n_368 (14 * k272 + 114) = nI k271 := by rw [en_368, pk_us]
                refine pm_aloadn hG dX12_person_194 rfl ?_
                refine pm_iloadi hG dX12_person_195 rfl ?_
                refine pm_bipush (v := nI 9) hG dX12_person_197 (by decide) ?_
                refine pm_iconst (v := (-1)) hG dX12_person_199 (by decide) ?_
                refine pm_callV (As := [.int (nI k272), .int (nI 9), .int (-1)]) (rest := []) hG hR dX12_person_200 (lkX12_97 _ rfl) okV_X12_sets rfl rfl (m_sets (d := 2) (e := 14 * k272 + 119) (by omega) (by omega) (by omega)) rfl rfl hdd (Nat.le_refl _) (Nat.le_refl _) (by decide) (pm_kv (fun σ' cnt' hq => ?_))
                obtain ⟨rfl, rfl⟩ := hq
                obtain ⟨n_373, en_373⟩ : ∃ f : Nat → Int32, f = upd n_368 (14 * k272 + 119) (-1) := ⟨_, rfl⟩
                rw [← en_373]
                have hnn_373 := KI.w en_373 hnn_368 (okv_m (show kd (14 * k272 + 119) = (2, 2001, false) from (kd_P (k := k272) (c := 9) (by omega) (by omega) (by decide))))
                have hrn_373 := NRx.w en_373 hrn_368 (by rw [(show kd (14 * k272 + 119) = (2, 2001, false) from (kd_P (k := k272) (c := 9) (by omega) (by omega) (by decide)))])
                have e374 : n_373 0 = nI kc0 := by rw [en_373, pk_un (by omega)]; exact e369
                have e375 : n_373 8 = nI k4 := by rw [en_373, pk_un (by omega)]; exact e370
                have e376 : n_373 2 = nI (k272 + 1) := by rw [en_373, pk_un (by omega)]; exact e371
                have e377 : n_373 (14 * k272 + 119) = (-1) := by rw [en_373, pk_us]
                refine pm_aloadn hG dX12_person_203 rfl ?_
                refine pm_iloadi hG dX12_person_204 rfl ?_
                refine pm_bipush (v := nI 10) hG dX12_person_206 (by decide) ?_
                refine pm_iconst (v := (-1)) hG dX12_person_208 (by decide) ?_
                refine pm_callV (As := [.int (nI k272), .int (nI 10), .int (-1)]) (rest := []) hG hR dX12_person_209 (lkX12_97 _ rfl) okV_X12_sets rfl rfl (m_sets (d := 2) (e := 14 * k272 + 120) (by omega) (by omega) (by omega)) rfl rfl hdd (Nat.le_refl _) (Nat.le_refl _) (by decide) (pm_kv (fun σ' cnt' hq => ?_))
                obtain ⟨rfl, rfl⟩ := hq
                obtain ⟨n_378, en_378⟩ : ∃ f : Nat → Int32, f = upd n_373 (14 * k272 + 120) (-1) := ⟨_, rfl⟩
                rw [← en_378]
                have hnn_378 := KI.w en_378 hnn_373 (okv_f (show kd (14 * k272 + 120) = (0, 0, false) from (kd_P (k := k272) (c := 10) (by omega) (by omega) (by decide))))
                have hrn_378 := NRx.w en_378 hrn_373 (by rw [(show kd (14 * k272 + 120) = (0, 0, false) from (kd_P (k := k272) (c := 10) (by omega) (by omega) (by decide)))])
                have e379 : n_378 0 = nI kc0 := by rw [en_378, pk_un (by omega)]; exact e374
                have e380 : n_378 8 = nI k4 := by rw [en_378, pk_un (by omega)]; exact e375
                have e381 : n_378 2 = nI (k272 + 1) := by rw [en_378, pk_un (by omega)]; exact e376
                have e382 : n_378 (14 * k272 + 120) = (-1) := by rw [en_378, pk_us]
                refine pm_aloadn hG dX12_person_212 rfl ?_
                refine pm_iloadi hG dX12_person_213 rfl ?_
                refine pm_bipush (v := nI 12) hG dX12_person_215 (by decide) ?_
                refine pm_iconst (v := nI 1) hG dX12_person_217 (by decide) ?_
                refine pm_callV (As := [.int (nI k272), .int (nI 12), .int (nI 1)]) (rest := []) hG hR dX12_person_218 (lkX12_97 _ rfl) okV_X12_sets rfl rfl (m_sets (d := 2) (e := 14 * k272 + 122) (by omega) (by omega) (by omega)) rfl rfl hdd (Nat.le_refl _) (Nat.le_refl _) (by decide) (pm_kv (fun σ' cnt' hq => ?_))
                obtain ⟨rfl, rfl⟩ := hq
                obtain ⟨n_383, en_383⟩ : ∃ f : Nat → Int32, f = upd n_378 (14 * k272 + 122) (nI 1) := ⟨_, rfl⟩
                rw [← en_383]
                have hnn_383 := KI.w en_383 hnn_378 (okv_f (show kd (14 * k272 + 122) = (0, 0, false) from (kd_P (k := k272) (c := 12) (by omega) (by omega) (by decide))))
                have hrn_383 := NRx.w en_383 hrn_378 (by rw [(show kd (14 * k272 + 122) = (0, 0, false) from (kd_P (k := k272) (c := 12) (by omega) (by omega) (by decide)))])
                have e384 : n_383 0 = nI kc0 := by rw [en_383, pk_un (by omega)]; exact e379
                have e385 : n_383 8 = nI k4 := by rw [en_383, pk_un (by omega)]; exact e380
                have e386 : n_383 2 = nI (k272 + 1) := by rw [en_383, pk_un (by omega)]; exact e381
                have e387 : n_383 (14 * k272 + 122) = nI 1 := by rw [en_383, pk_us]
                refine pm_iloadi hG dX12_person_221 rfl ?_
                exact pm_iret hG hF dX12_person_223 rfl (Nat.le_refl _) (Nat.le_refl _) ⟨_, rfl, ⟨_, _, _, rfl, hnn_383, hrn_383, e384.trans ekc0.symm⟩, rfl⟩
              · refine pm_aloadn hG dX12_person_102 rfl ?_
                refine pm_iconst (v := nI 4) hG dX12_person_103 (by decide) ?_
                refine pm_callV (As := [.int (nI 4)]) (rest := []) hG hR dX12_person_104 (lkX12_80 _ rfl) okV_X12_finds rfl rfl (m_finds (d := 2) (by decide) hn hz (by omega)) rfl rfl hdd (Nat.le_refl _) (Nat.le_refl _) (by decide) (pm_ki (fun v388 σ' cnt' hq => ?_))
                obtain ⟨⟨I389, A389, rfl⟩, rfl, fv388⟩ := hq
                exact pm_iret hG hF dX12_person_107 rfl (Nat.le_refl _) (Nat.le_refl _) ⟨_, rfl, ⟨_, _, _, rfl, hn, hr, ekc0.trans ekc0.symm⟩, rfl⟩
            · refine pm_ifN_eq (tgt := 73) hG dX12_person_66 rfl (by omega) (fun _ => ?_) (fun q => absurd q (by omega))
              refine pm_iconst (v := nI 0) hG dX12_person_73 (by decide) ?_
              refine pm_istoreXi (loc' := [some (.ref (B + 54)), some (.int za), some (.int zb), some (.int zc), some (.int zd), some (.int (nI 0)), none, none]) hG dX12_person_74 (by decide) (pm_c1b rfl) rfl ?_
              refine pm_iloadi hG dX12_person_76 rfl ?_
              refine pm_ifN_ne (tgt := 87) hG dX12_person_78 rfl (by omega) (fun q => absurd q (by omega)) (fun _ => ?_)
              refine pm_aloadn hG dX12_person_81 rfl ?_
              refine pm_iconst (v := nI 1) hG dX12_person_82 (by decide) ?_
              refine pm_callV (As := [.int (nI 1)]) (rest := []) hG hR dX12_person_83 (lkX12_80 _ rfl) okV_X12_finds rfl rfl (m_finds (d := 2) (by decide) hn hz (by omega)) rfl rfl hdd (Nat.le_refl _) (Nat.le_refl _) (by decide) (pm_ki (fun v390 σ' cnt' hq => ?_))
              obtain ⟨⟨I391, A391, rfl⟩, rfl, fv390⟩ := hq
              exact pm_iret hG hF dX12_person_86 rfl (Nat.le_refl _) (Nat.le_refl _) ⟨_, rfl, ⟨_, _, _, rfl, hn, hr, ekc0.trans ekc0.symm⟩, rfl⟩
          · refine pm_ifN_eq (tgt := 73) hG dX12_person_57 rfl (by omega) (fun q => absurd q (by omega)) (fun _ => ?_)
            refine pm_aloadn hG dX12_person_60 rfl ?_
            refine pm_iloadi hG dX12_person_61 rfl ?_
            refine pm_callV (As := [.int zd]) (rest := []) hG hR dX12_person_63 (lkX12_84 _ rfl) okV_X12_isTown rfl rfl (m_isTown (d := 2) (by decide) ekc0 (by omega)) rfl rfl hdd (Nat.le_refl _) (Nat.le_refl _) (by decide) (pm_ki (fun v392 σ' cnt' hq => ?_))
            obtain ⟨hq, rfl, rfl⟩ := hq
            rcases hq with ⟨rfl, k394, hk394, ek394⟩ | rfl
            · refine pm_ifN_eq (tgt := 73) hG dX12_person_66 rfl (by omega) (fun q => absurd q (by omega)) (fun _ => ?_)
              refine pm_iconst (v := nI 1) hG dX12_person_69 (by decide) ?_
              refine pm_goto (tgt := 74) hG dX12_person_70 rfl ?_
              refine pm_istoreXi (loc' := [some (.ref (B + 54)), some (.int za), some (.int zb), some (.int zc), some (.int zd), some (.int (nI 1)), none, none]) hG dX12_person_74 (by decide) (pm_c1b rfl) rfl ?_
              refine pm_iloadi hG dX12_person_76 rfl ?_
              refine pm_ifN_ne (tgt := 87) hG dX12_person_78 rfl (by omega) (fun _ => ?_) (fun q => absurd q (by omega))
              refine pm_aloadn hG dX12_person_87 rfl ?_
              refine pm_getf hG dX12_person_88 (flX12_7 _ rfl) rfl rfl ?_
              refine pm_iconst (v := nI 2) hG dX12_person_91 (by decide) ?_
              refine pm_ialdN hG dX12_person_92 rfl (by decide) (by omega) ?_
              obtain ⟨k395, hk395, ek395⟩ := KI.nat hn (show kd 2 = (1, 21, true) by decide)
              refine pm_top (v := nI k395) ek395 ?_
              refine pm_istoreXi (loc' := [some (.ref (B + 54)), some (.int za), some (.int zb), some (.int zc), some (.int zd), some (.int (nI 1)), some (.int (nI k395)), none]) hG dX12_person_93 (by decide) (pm_c1b rfl) rfl ?_
              refine pm_iloadi hG dX12_person_95 rfl ?_
              refine pm_bipush (v := nI 20) hG dX12_person_97 (by decide) ?_
              refine pm_icmpN_ne (tgt := 108) hG dX12_person_99 rfl (by omega) (by omega) (fun c396 => ?_) (fun c396 => ?_)
              · refine pm_aloadn hG dX12_person_108 rfl ?_
                refine pm_getf hG dX12_person_109 (flX12_7 _ rfl) rfl rfl ?_
                refine pm_iconst (v := nI 2) hG dX12_person_112 (by decide) ?_
                refine pm_dup2 hG dX12_person_113 rfl rfl ?_
                refine pm_ialdN hG dX12_person_114 rfl (by decide) (by omega) ?_
                refine pm_top (v := nI k395) ek395 ?_
                refine pm_iconst (v := nI 1) hG dX12_person_115 (by decide) ?_
                refine pm_iaddN (c := k395 + 1) hG dX12_person_116 (by omega) ?_
                refine pm_iastN hG dX12_person_117 rfl (by decide) (by omega) ?_
                refine mdn_now (fun n_397 en_397 => ?_)
                have hnn_397 := KI.w en_397 hn (okv_n (show kd 2 = (1, 21, true) by decide) (by omega))
                have hrn_397 := NRx.pers en_397 hr ekc0 (by omega) ek395 (by omega)
                have e398 : n_397 0 = nI kc0 := by rw [en_397, pk_un (by omega)]; exact ekc0
                have e399 : n_397 8 = nI k4 := by rw [en_397, pk_un (by omega)]; exact ek4
                have e400 : n_397 2 = nI (k395 + 1) := by rw [en_397, pk_us]
                refine pm_iconst (v := nI 0) hG dX12_person_118 (by decide) ?_
                refine pm_istoreXi (loc' := [some (.ref (B + 54)), some (.int za), some (.int zb), some (.int zc), some (.int zd), some (.int (nI 1)), some (.int (nI k395)), some (.int (nI 0))]) hG dX12_person_119 (by decide) (pm_c1b rfl) rfl ?_
                refine pm_iloadi hG dX12_person_121 rfl ?_
                refine pm_bipush (v := nI 14) hG dX12_person_123 (by decide) ?_
                refine pm_icmpN_ge (tgt := 143) hG dX12_person_125 rfl (by omega) (by omega) (fun q => absurd q (by omega)) (fun _ => ?_)
                refine pm_aloadn hG dX12_person_128 rfl ?_
                refine pm_iloadi hG dX12_person_129 rfl ?_
                refine pm_iloadi hG dX12_person_131 rfl ?_
                refine pm_iconst (v := nI 0) hG dX12_person_133 (by decide) ?_
                refine pm_callV (As := [.int (nI k395), .int (nI 0), .int (nI 0)]) (rest := []) hG hR dX12_person_134 (lkX12_97 _ rfl) okV_X12_sets rfl rfl (m_sets (d := 2) (e := 14 * k395 + 110) (by omega) (by omega) (by omega)) rfl rfl hdd (Nat.le_refl _) (Nat.le_refl _) (by decide) (pm_kv (fun σ' cnt' hq => ?_))
                obtain ⟨rfl, rfl⟩ := hq
                obtain ⟨n_401, en_401⟩ : ∃ f : Nat → Int32, f = upd n_397 (14 * k395 + 110) (nI 0) := ⟨_, rfl⟩
                rw [← en_401]
                have hnn_401 := KI.w en_401 hnn_397 (okv_f (show kd (14 * k395 + 110) = (0, 0, false) from (kd_P (k := k395) (c := 0) (by omega) (by omega) (by decide))))
                have hrn_401 := NRx.w en_401 hrn_397 (by rw [(show kd (14 * k395 + 110) = (0, 0, false) from (kd_P (k := k395) (c := 0) (by omega) (by omega) (by decide)))])
                have e402 : n_401 0 = nI kc0 := by rw [en_401, pk_un (by omega)]; exact e398
                have e403 : n_401 8 = nI k4 := by rw [en_401, pk_un (by omega)]; exact e399
                have e404 : n_401 2 = nI (k395 + 1) := by rw [en_401, pk_un (by omega)]; exact e400
                have e405 : n_401 (14 * k395 + 110) = nI 0 := by rw [en_401, pk_us]
                refine pm_iincX (v := nI 1) (loc' := [some (.ref (B + 54)), some (.int za), some (.int zb), some (.int zc), some (.int zd), some (.int (nI 1)), some (.int (nI k395)), some (.int (nI 1))]) hG dX12_person_137 rfl (nI_1 _) (by decide) (pm_c1b rfl) rfl ?_
                refine pm_goto (tgt := 121) hG dX12_person_140 rfl ?_
                refine pm_iloadi hG dX12_person_121 rfl ?_
                refine pm_bipush (v := nI 14) hG dX12_person_123 (by decide) ?_
                refine pm_icmpN_ge (tgt := 143) hG dX12_person_125 rfl (by omega) (by omega) (fun q => absurd q (by omega)) (fun _ => ?_)
                refine pm_aloadn hG dX12_person_128 rfl ?_
                refine pm_iloadi hG dX12_person_129 rfl ?_
                refine pm_iloadi hG dX12_person_131 rfl ?_
                refine pm_iconst (v := nI 0) hG dX12_person_133 (by decide) ?_
                refine pm_callV (As := [.int (nI k395), .int (nI 1), .int (nI 0)]) (rest := []) hG hR dX12_person_134 (lkX12_97 _ rfl) okV_X12_sets rfl rfl (m_sets (d := 2) (e := 14 * k395 + 111) (by omega) (by omega) (by omega)) rfl rfl hdd (Nat.le_refl _) (Nat.le_refl _) (by decide) (pm_kv (fun σ' cnt' hq => ?_))
                obtain ⟨rfl, rfl⟩ := hq
                obtain ⟨n_406, en_406⟩ : ∃ f : Nat → Int32, f = upd n_401 (14 * k395 + 111) (nI 0) := ⟨_, rfl⟩
                rw [← en_406]
                have hnn_406 := KI.w en_406 hnn_401 (okv_f (show kd (14 * k395 + 111) = (0, 0, false) from (kd_P (k := k395) (c := 1) (by omega) (by omega) (by decide))))
                have hrn_406 := NRx.w en_406 hrn_401 (by rw [(show kd (14 * k395 + 111) = (0, 0, false) from (kd_P (k := k395) (c := 1) (by omega) (by omega) (by decide)))])
                have e407 : n_406 0 = nI kc0 := by rw [en_406, pk_un (by omega)]; exact e402
                have e408 : n_406 8 = nI k4 := by rw [en_406, pk_un (by omega)]; exact e403
                have e409 : n_406 2 = nI (k395 + 1) := by rw [en_406, pk_un (by omega)]; exact e404
                have e410 : n_406 (14 * k395 + 111) = nI 0 := by rw [en_406, pk_us]
                refine pm_iincX (v := nI 2) (loc' := [some (.ref (B + 54)), some (.int za), some (.int zb), some (.int zc), some (.int zd), some (.int (nI 1)), some (.int (nI k395)), some (.int (nI 2))]) hG dX12_person_137 rfl (nI_1 _) (by decide) (pm_c1b rfl) rfl ?_
                refine pm_goto (tgt := 121) hG dX12_person_140 rfl ?_
                refine pm_iloadi hG dX12_person_121 rfl ?_
                refine pm_bipush (v := nI 14) hG dX12_person_123 (by decide) ?_
                refine pm_icmpN_ge (tgt := 143) hG dX12_person_125 rfl (by omega) (by omega) (fun q => absurd q (by omega)) (fun _ => ?_)
                refine pm_aloadn hG dX12_person_128 rfl ?_
                refine pm_iloadi hG dX12_person_129 rfl ?_
                refine pm_iloadi hG dX12_person_131 rfl ?_
                refine pm_iconst (v := nI 0) hG dX12_person_133 (by decide) ?_
                refine pm_callV (As := [.int (nI k395), .int (nI 2), .int (nI 0)]) (rest := []) hG hR dX12_person_134 (lkX12_97 _ rfl) okV_X12_sets rfl rfl (m_sets (d := 2) (e := 14 * k395 + 112) (by omega) (by omega) (by omega)) rfl rfl hdd (Nat.le_refl _) (Nat.le_refl _) (by decide) (pm_kv (fun σ' cnt' hq => ?_))
                obtain ⟨rfl, rfl⟩ := hq
                obtain ⟨n_411, en_411⟩ : ∃ f : Nat → Int32, f = upd n_406 (14 * k395 + 112) (nI 0) := ⟨_, rfl⟩
                rw [← en_411]
                have hnn_411 := KI.w en_411 hnn_406 (okv_o (show kd (14 * k395 + 112) = (2, 20, false) from (kd_P (k := k395) (c := 2) (by omega) (by omega) (by decide))) (by omega))
                have hrn_411 := NRx.w en_411 hrn_406 (by rw [(show kd (14 * k395 + 112) = (2, 20, false) from (kd_P (k := k395) (c := 2) (by omega) (by omega) (by decide)))])
                have e412 : n_411 0 = nI kc0 := by rw [en_411, pk_un (by omega)]; exact e407
                have e413 : n_411 8 = nI k4 := by rw [en_411, pk_un (by omega)]; exact e408
                have e414 : n_411 2 = nI (k395 + 1) := by rw [en_411, pk_un (by omega)]; exact e409
                have e415 : n_411 (14 * k395 + 112) = nI 0 := by rw [en_411, pk_us]
                refine pm_iincX (v := nI 3) (loc' := [some (.ref (B + 54)), some (.int za), some (.int zb), some (.int zc), some (.int zd), some (.int (nI 1)), some (.int (nI k395)), some (.int (nI 3))]) hG dX12_person_137 rfl (nI_1 _) (by decide) (pm_c1b rfl) rfl ?_
                refine pm_goto (tgt := 121) hG dX12_person_140 rfl ?_
                refine pm_iloadi hG dX12_person_121 rfl ?_
                refine pm_bipush (v := nI 14) hG dX12_person_123 (by decide) ?_
                refine pm_icmpN_ge (tgt := 143) hG dX12_person_125 rfl (by omega) (by omega) (fun q => absurd q (by omega)) (fun _ => ?_)
                refine pm_aloadn hG dX12_person_128 rfl ?_
                refine pm_iloadi hG dX12_person_129 rfl ?_
                refine pm_iloadi hG dX12_person_131 rfl ?_
                refine pm_iconst (v := nI 0) hG dX12_person_133 (by decide) ?_
                refine pm_callV (As := [.int (nI k395), .int (nI 3), .int (nI 0)]) (rest := []) hG hR dX12_person_134 (lkX12_97 _ rfl) okV_X12_sets rfl rfl (m_sets (d := 2) (e := 14 * k395 + 113) (by omega) (by omega) (by omega)) rfl rfl hdd (Nat.le_refl _) (Nat.le_refl _) (by decide) (pm_kv (fun σ' cnt' hq => ?_))
                obtain ⟨rfl, rfl⟩ := hq
                obtain ⟨n_416, en_416⟩ : ∃ f : Nat → Int32, f = upd n_411 (14 * k395 + 113) (nI 0) := ⟨_, rfl⟩
                rw [← en_416]
                have hnn_416 := KI.w en_416 hnn_411 (okv_o (show kd (14 * k395 + 113) = (2, 20, false) from (kd_P (k := k395) (c := 3) (by omega) (by omega) (by decide))) (by omega))
                have hrn_416 := NRx.w en_416 hrn_411 (by rw [(show kd (14 * k395 + 113) = (2, 20, false) from (kd_P (k := k395) (c := 3) (by omega) (by omega) (by decide)))])
                have e417 : n_416 0 = nI kc0 := by rw [en_416, pk_un (by omega)]; exact e412
                have e418 : n_416 8 = nI k4 := by rw [en_416, pk_un (by omega)]; exact e413
                have e419 : n_416 2 = nI (k395 + 1) := by rw [en_416, pk_un (by omega)]; exact e414
                have e420 : n_416 (14 * k395 + 113) = nI 0 := by rw [en_416, pk_us]
                refine pm_iincX (v := nI 4) (loc' := [some (.ref (B + 54)), some (.int za), some (.int zb), some (.int zc), some (.int zd), some (.int (nI 1)), some (.int (nI k395)), some (.int (nI 4))]) hG dX12_person_137 rfl (nI_1 _) (by decide) (pm_c1b rfl) rfl ?_
                refine pm_goto (tgt := 121) hG dX12_person_140 rfl ?_
                refine pm_iloadi hG dX12_person_121 rfl ?_
                refine pm_bipush (v := nI 14) hG dX12_person_123 (by decide) ?_
                refine pm_icmpN_ge (tgt := 143) hG dX12_person_125 rfl (by omega) (by omega) (fun q => absurd q (by omega)) (fun _ => ?_)
                refine pm_aloadn hG dX12_person_128 rfl ?_
                refine pm_iloadi hG dX12_person_129 rfl ?_
                refine pm_iloadi hG dX12_person_131 rfl ?_
                refine pm_iconst (v := nI 0) hG dX12_person_133 (by decide) ?_
                refine pm_callV (As := [.int (nI k395), .int (nI 4), .int (nI 0)]) (rest := []) hG hR dX12_person_134 (lkX12_97 _ rfl) okV_X12_sets rfl rfl (m_sets (d := 2) (e := 14 * k395 + 114) (by omega) (by omega) (by omega)) rfl rfl hdd (Nat.le_refl _) (Nat.le_refl _) (by decide) (pm_kv (fun σ' cnt' hq => ?_))
                obtain ⟨rfl, rfl⟩ := hq
                obtain ⟨n_421, en_421⟩ : ∃ f : Nat → Int32, f = upd n_416 (14 * k395 + 114) (nI 0) := ⟨_, rfl⟩
                rw [← en_421]
                have hnn_421 := KI.w en_421 hnn_416 (okv_o (show kd (14 * k395 + 114) = (2, 10, false) from (kd_P (k := k395) (c := 4) (by omega) (by omega) (by decide))) (by omega))
                have hrn_421 := NRx.w en_421 hrn_416 (by rw [(show kd (14 * k395 + 114) = (2, 10, false) from (kd_P (k := k395) (c := 4) (by omega) (by omega) (by decide)))])
                have e422 : n_421 0 = nI kc0 := by rw [en_421, pk_un (by omega)]; exact e417
                have e423 : n_421 8 = nI k4 := by rw [en_421, pk_un (by omega)]; exact e418
                have e424 : n_421 2 = nI (k395 + 1) := by rw [en_421, pk_un (by omega)]; exact e419
                have e425 : n_421 (14 * k395 + 114) = nI 0 := by rw [en_421, pk_us]
                refine pm_iincX (v := nI 5) (loc' := [some (.ref (B + 54)), some (.int za), some (.int zb), some (.int zc), some (.int zd), some (.int (nI 1)), some (.int (nI k395)), some (.int (nI 5))]) hG dX12_person_137 rfl (nI_1 _) (by decide) (pm_c1b rfl) rfl ?_
                refine pm_goto (tgt := 121) hG dX12_person_140 rfl ?_
                refine pm_iloadi hG dX12_person_121 rfl ?_
                refine pm_bipush (v := nI 14) hG dX12_person_123 (by decide) ?_
                refine pm_icmpN_ge (tgt := 143) hG dX12_person_125 rfl (by omega) (by omega) (fun q => absurd q (by omega)) (fun _ => ?_)
                refine pm_aloadn hG dX12_person_128 rfl ?_
                refine pm_iloadi hG dX12_person_129 rfl ?_
                refine pm_iloadi hG dX12_person_131 rfl ?_
                refine pm_iconst (v := nI 0) hG dX12_person_133 (by decide) ?_
                refine pm_callV (As := [.int (nI k395), .int (nI 5), .int (nI 0)]) (rest := []) hG hR dX12_person_134 (lkX12_97 _ rfl) okV_X12_sets rfl rfl (m_sets (d := 2) (e := 14 * k395 + 115) (by omega) (by omega) (by omega)) rfl rfl hdd (Nat.le_refl _) (Nat.le_refl _) (by decide) (pm_kv (fun σ' cnt' hq => ?_))
                obtain ⟨rfl, rfl⟩ := hq
                obtain ⟨n_426, en_426⟩ : ∃ f : Nat → Int32, f = upd n_421 (14 * k395 + 115) (nI 0) := ⟨_, rfl⟩
                rw [← en_426]
                have hnn_426 := KI.w en_426 hnn_421 (okv_n (show kd (14 * k395 + 115) = (1, 10, false) from (kd_P (k := k395) (c := 5) (by omega) (by omega) (by decide))) (by omega))
                have hrn_426 := NRx.w en_426 hrn_421 (by rw [(show kd (14 * k395 + 115) = (1, 10, false) from (kd_P (k := k395) (c := 5) (by omega) (by omega) (by decide)))])
                have e427 : n_426 0 = nI kc0 := by rw [en_426, pk_un (by omega)]; exact e422
                have e428 : n_426 8 = nI k4 := by rw [en_426, pk_un (by omega)]; exact e423
                have e429 : n_426 2 = nI (k395 + 1) := by rw [en_426, pk_un (by omega)]; exact e424
                have e430 : n_426 (14 * k395 + 115) = nI 0 := by rw [en_426, pk_us]
                refine pm_iincX (v := nI 6) (loc' := [some (.ref (B + 54)), some (.int za), some (.int zb), some (.int zc), some (.int zd), some (.int (nI 1)), some (.int (nI k395)), some (.int (nI 6))]) hG dX12_person_137 rfl (nI_1 _) (by decide) (pm_c1b rfl) rfl ?_
                refine pm_goto (tgt := 121) hG dX12_person_140 rfl ?_
                refine pm_iloadi hG dX12_person_121 rfl ?_
                refine pm_bipush (v := nI 14) hG dX12_person_123 (by decide) ?_
                refine pm_icmpN_ge (tgt := 143) hG dX12_person_125 rfl (by omega) (by omega) (fun q => absurd q (by omega)) (fun _ => ?_)
                refine pm_aloadn hG dX12_person_128 rfl ?_
                refine pm_iloadi hG dX12_person_129 rfl ?_
                refine pm_iloadi hG dX12_person_131 rfl ?_
                refine pm_iconst (v := nI 0) hG dX12_person_133 (by decide) ?_
                refine pm_callV (As := [.int (nI k395), .int (nI 6), .int (nI 0)]) (rest := []) hG hR dX12_person_134 (lkX12_97 _ rfl) okV_X12_sets rfl rfl (m_sets (d := 2) (e := 14 * k395 + 116) (by omega) (by omega) (by omega)) rfl rfl hdd (Nat.le_refl _) (Nat.le_refl _) (by decide) (pm_kv (fun σ' cnt' hq => ?_))
                obtain ⟨rfl, rfl⟩ := hq
                obtain ⟨n_431, en_431⟩ : ∃ f : Nat → Int32, f = upd n_426 (14 * k395 + 116) (nI 0) := ⟨_, rfl⟩
                rw [← en_431]
                have hnn_431 := KI.w en_431 hnn_426 (okv_f (show kd (14 * k395 + 116) = (0, 0, false) from (kd_P (k := k395) (c := 6) (by omega) (by omega) (by decide))))
                have hrn_431 := NRx.w en_431 hrn_426 (by rw [(show kd (14 * k395 + 116) = (0, 0, false) from (kd_P (k := k395) (c := 6) (by omega) (by omega) (by decide)))])
                have e432 : n_431 0 = nI kc0 := by rw [en_431, pk_un (by omega)]; exact e427
                have e433 : n_431 8 = nI k4 := by rw [en_431, pk_un (by omega)]; exact e428
                have e434 : n_431 2 = nI (k395 + 1) := by rw [en_431, pk_un (by omega)]; exact e429
                have e435 : n_431 (14 * k395 + 116) = nI 0 := by rw [en_431, pk_us]
                refine pm_iincX (v := nI 7) (loc' := [some (.ref (B + 54)), some (.int za), some (.int zb), some (.int zc), some (.int zd), some (.int (nI 1)), some (.int (nI k395)), some (.int (nI 7))]) hG dX12_person_137 rfl (nI_1 _) (by decide) (pm_c1b rfl) rfl ?_
                refine pm_goto (tgt := 121) hG dX12_person_140 rfl ?_
                refine pm_iloadi hG dX12_person_121 rfl ?_
                refine pm_bipush (v := nI 14) hG dX12_person_123 (by decide) ?_
                refine pm_icmpN_ge (tgt := 143) hG dX12_person_125 rfl (by omega) (by omega) (fun q => absurd q (by omega)) (fun _ => ?_)
                refine pm_aloadn hG dX12_person_128 rfl ?_
                refine pm_iloadi hG dX12_person_129 rfl ?_
                refine pm_iloadi hG dX12_person_131 rfl ?_
                refine pm_iconst (v := nI 0) hG dX12_person_133 (by decide) ?_
                refine pm_callV (As := [.int (nI k395), .int (nI 7), .int (nI 0)]) (rest := []) hG hR dX12_person_134 (lkX12_97 _ rfl) okV_X12_sets rfl rfl (m_sets (d := 2) (e := 14 * k395 + 117) (by omega) (by omega) (by omega)) rfl rfl hdd (Nat.le_refl _) (Nat.le_refl _) (by decide) (pm_kv (fun σ' cnt' hq => ?_))
                obtain ⟨rfl, rfl⟩ := hq
                obtain ⟨n_436, en_436⟩ : ∃ f : Nat → Int32, f = upd n_431 (14 * k395 + 117) (nI 0) := ⟨_, rfl⟩
                rw [← en_436]
                have hnn_436 := KI.w en_436 hnn_431 (okv_f (show kd (14 * k395 + 117) = (0, 0, false) from (kd_P (k := k395) (c := 7) (by omega) (by omega) (by decide))))
                have hrn_436 := NRx.w en_436 hrn_431 (by rw [(show kd (14 * k395 + 117) = (0, 0, false) from (kd_P (k := k395) (c := 7) (by omega) (by omega) (by decide)))])
                have e437 : n_436 0 = nI kc0 := by rw [en_436, pk_un (by omega)]; exact e432
                have e438 : n_436 8 = nI k4 := by rw [en_436, pk_un (by omega)]; exact e433
                have e439 : n_436 2 = nI (k395 + 1) := by rw [en_436, pk_un (by omega)]; exact e434
                have e440 : n_436 (14 * k395 + 117) = nI 0 := by rw [en_436, pk_us]
                refine pm_iincX (v := nI 8) (loc' := [some (.ref (B + 54)), some (.int za), some (.int zb), some (.int zc), some (.int zd), some (.int (nI 1)), some (.int (nI k395)), some (.int (nI 8))]) hG dX12_person_137 rfl (nI_1 _) (by decide) (pm_c1b rfl) rfl ?_
                refine pm_goto (tgt := 121) hG dX12_person_140 rfl ?_
                refine pm_iloadi hG dX12_person_121 rfl ?_
                refine pm_bipush (v := nI 14) hG dX12_person_123 (by decide) ?_
                refine pm_icmpN_ge (tgt := 143) hG dX12_person_125 rfl (by omega) (by omega) (fun q => absurd q (by omega)) (fun _ => ?_)
                refine pm_aloadn hG dX12_person_128 rfl ?_
                refine pm_iloadi hG dX12_person_129 rfl ?_
                refine pm_iloadi hG dX12_person_131 rfl ?_
                refine pm_iconst (v := nI 0) hG dX12_person_133 (by decide) ?_
                refine pm_callV (As := [.int (nI k395), .int (nI 8), .int (nI 0)]) (rest := []) hG hR dX12_person_134 (lkX12_97 _ rfl) okV_X12_sets rfl rfl (m_sets (d := 2) (e := 14 * k395 + 118) (by omega) (by omega) (by omega)) rfl rfl hdd (Nat.le_refl _) (Nat.le_refl _) (by decide) (pm_kv (fun σ' cnt' hq => ?_))
                obtain ⟨rfl, rfl⟩ := hq
                obtain ⟨n_441, en_441⟩ : ∃ f : Nat → Int32, f = upd n_436 (14 * k395 + 118) (nI 0) := ⟨_, rfl⟩
                rw [← en_441]
                have hnn_441 := KI.w en_441 hnn_436 (okv_f (show kd (14 * k395 + 118) = (0, 0, false) from (kd_P (k := k395) (c := 8) (by omega) (by omega) (by decide))))
                have hrn_441 := NRx.w en_441 hrn_436 (by rw [(show kd (14 * k395 + 118) = (0, 0, false) from (kd_P (k := k395) (c := 8) (by omega) (by omega) (by decide)))])
                have e442 : n_441 0 = nI kc0 := by rw [en_441, pk_un (by omega)]; exact e437
                have e443 : n_441 8 = nI k4 := by rw [en_441, pk_un (by omega)]; exact e438
                have e444 : n_441 2 = nI (k395 + 1) := by rw [en_441, pk_un (by omega)]; exact e439
                have e445 : n_441 (14 * k395 + 118) = nI 0 := by rw [en_441, pk_us]
                refine pm_iincX (v := nI 9) (loc' := [some (.ref (B + 54)), some (.int za), some (.int zb), some (.int zc), some (.int zd), some (.int (nI 1)), some (.int (nI k395)), some (.int (nI 9))]) hG dX12_person_137 rfl (nI_1 _) (by decide) (pm_c1b rfl) rfl ?_
                refine pm_goto (tgt := 121) hG dX12_person_140 rfl ?_
                refine pm_iloadi hG dX12_person_121 rfl ?_
                refine pm_bipush (v := nI 14) hG dX12_person_123 (by decide) ?_
                refine pm_icmpN_ge (tgt := 143) hG dX12_person_125 rfl (by omega) (by omega) (fun q => absurd q (by omega)) (fun _ => ?_)
                refine pm_aloadn hG dX12_person_128 rfl ?_
                refine pm_iloadi hG dX12_person_129 rfl ?_
                refine pm_iloadi hG dX12_person_131 rfl ?_
                refine pm_iconst (v := nI 0) hG dX12_person_133 (by decide) ?_
                refine pm_callV (As := [.int (nI k395), .int (nI 9), .int (nI 0)]) (rest := []) hG hR dX12_person_134 (lkX12_97 _ rfl) okV_X12_sets rfl rfl (m_sets (d := 2) (e := 14 * k395 + 119) (by omega) (by omega) (by omega)) rfl rfl hdd (Nat.le_refl _) (Nat.le_refl _) (by decide) (pm_kv (fun σ' cnt' hq => ?_))
                obtain ⟨rfl, rfl⟩ := hq
                obtain ⟨n_446, en_446⟩ : ∃ f : Nat → Int32, f = upd n_441 (14 * k395 + 119) (nI 0) := ⟨_, rfl⟩
                rw [← en_446]
                have hnn_446 := KI.w en_446 hnn_441 (okv_o (show kd (14 * k395 + 119) = (2, 2001, false) from (kd_P (k := k395) (c := 9) (by omega) (by omega) (by decide))) (by omega))
                have hrn_446 := NRx.w en_446 hrn_441 (by rw [(show kd (14 * k395 + 119) = (2, 2001, false) from (kd_P (k := k395) (c := 9) (by omega) (by omega) (by decide)))])
                have e447 : n_446 0 = nI kc0 := by rw [en_446, pk_un (by omega)]; exact e442
                have e448 : n_446 8 = nI k4 := by rw [en_446, pk_un (by omega)]; exact e443
                have e449 : n_446 2 = nI (k395 + 1) := by rw [en_446, pk_un (by omega)]; exact e444
                have e450 : n_446 (14 * k395 + 119) = nI 0 := by rw [en_446, pk_us]
                refine pm_iincX (v := nI 10) (loc' := [some (.ref (B + 54)), some (.int za), some (.int zb), some (.int zc), some (.int zd), some (.int (nI 1)), some (.int (nI k395)), some (.int (nI 10))]) hG dX12_person_137 rfl (nI_1 _) (by decide) (pm_c1b rfl) rfl ?_
                refine pm_goto (tgt := 121) hG dX12_person_140 rfl ?_
                refine pm_iloadi hG dX12_person_121 rfl ?_
                refine pm_bipush (v := nI 14) hG dX12_person_123 (by decide) ?_
                refine pm_icmpN_ge (tgt := 143) hG dX12_person_125 rfl (by omega) (by omega) (fun q => absurd q (by omega)) (fun _ => ?_)
                refine pm_aloadn hG dX12_person_128 rfl ?_
                refine pm_iloadi hG dX12_person_129 rfl ?_
                refine pm_iloadi hG dX12_person_131 rfl ?_
                refine pm_iconst (v := nI 0) hG dX12_person_133 (by decide) ?_
                refine pm_callV (As := [.int (nI k395), .int (nI 10), .int (nI 0)]) (rest := []) hG hR dX12_person_134 (lkX12_97 _ rfl) okV_X12_sets rfl rfl (m_sets (d := 2) (e := 14 * k395 + 120) (by omega) (by omega) (by omega)) rfl rfl hdd (Nat.le_refl _) (Nat.le_refl _) (by decide) (pm_kv (fun σ' cnt' hq => ?_))
                obtain ⟨rfl, rfl⟩ := hq
                obtain ⟨n_451, en_451⟩ : ∃ f : Nat → Int32, f = upd n_446 (14 * k395 + 120) (nI 0) := ⟨_, rfl⟩
                rw [← en_451]
                have hnn_451 := KI.w en_451 hnn_446 (okv_f (show kd (14 * k395 + 120) = (0, 0, false) from (kd_P (k := k395) (c := 10) (by omega) (by omega) (by decide))))
                have hrn_451 := NRx.w en_451 hrn_446 (by rw [(show kd (14 * k395 + 120) = (0, 0, false) from (kd_P (k := k395) (c := 10) (by omega) (by omega) (by decide)))])
                have e452 : n_451 0 = nI kc0 := by rw [en_451, pk_un (by omega)]; exact e447
                have e453 : n_451 8 = nI k4 := by rw [en_451, pk_un (by omega)]; exact e448
                have e454 : n_451 2 = nI (k395 + 1) := by rw [en_451, pk_un (by omega)]; exact e449
                have e455 : n_451 (14 * k395 + 120) = nI 0 := by rw [en_451, pk_us]
                refine pm_iincX (v := nI 11) (loc' := [some (.ref (B + 54)), some (.int za), some (.int zb), some (.int zc), some (.int zd), some (.int (nI 1)), some (.int (nI k395)), some (.int (nI 11))]) hG dX12_person_137 rfl (nI_1 _) (by decide) (pm_c1b rfl) rfl ?_
                refine pm_goto (tgt := 121) hG dX12_person_140 rfl ?_
                refine pm_iloadi hG dX12_person_121 rfl ?_
                refine pm_bipush (v := nI 14) hG dX12_person_123 (by decide) ?_
                refine pm_icmpN_ge (tgt := 143) hG dX12_person_125 rfl (by omega) (by omega) (fun q => absurd q (by omega)) (fun _ => ?_)
                refine pm_aloadn hG dX12_person_128 rfl ?_
                refine pm_iloadi hG dX12_person_129 rfl ?_
                refine pm_iloadi hG dX12_person_131 rfl ?_
                refine pm_iconst (v := nI 0) hG dX12_person_133 (by decide) ?_
                refine pm_callV (As := [.int (nI k395), .int (nI 11), .int (nI 0)]) (rest := []) hG hR dX12_person_134 (lkX12_97 _ rfl) okV_X12_sets rfl rfl (m_sets (d := 2) (e := 14 * k395 + 121) (by omega) (by omega) (by omega)) rfl rfl hdd (Nat.le_refl _) (Nat.le_refl _) (by decide) (pm_kv (fun σ' cnt' hq => ?_))
                obtain ⟨rfl, rfl⟩ := hq
                obtain ⟨n_456, en_456⟩ : ∃ f : Nat → Int32, f = upd n_451 (14 * k395 + 121) (nI 0) := ⟨_, rfl⟩
                rw [← en_456]
                have hnn_456 := KI.w en_456 hnn_451 (okv_n (show kd (14 * k395 + 121) = (1, 2, true) from (kd_P (k := k395) (c := 11) (by omega) (by omega) (by decide))) (by omega))
                have hrn_456 := NRx.unseat (p := k395) en_456 hrn_451 (by omega)
                have e457 : n_456 0 = nI kc0 := by rw [en_456, pk_un (by omega)]; exact e452
                have e458 : n_456 8 = nI k4 := by rw [en_456, pk_un (by omega)]; exact e453
                have e459 : n_456 2 = nI (k395 + 1) := by rw [en_456, pk_un (by omega)]; exact e454
                have e460 : n_456 (14 * k395 + 121) = nI 0 := by rw [en_456, pk_us]
                refine pm_iincX (v := nI 12) (loc' := [some (.ref (B + 54)), some (.int za), some (.int zb), some (.int zc), some (.int zd), some (.int (nI 1)), some (.int (nI k395)), some (.int (nI 12))]) hG dX12_person_137 rfl (nI_1 _) (by decide) (pm_c1b rfl) rfl ?_
                refine pm_goto (tgt := 121) hG dX12_person_140 rfl ?_
                refine pm_iloadi hG dX12_person_121 rfl ?_
                refine pm_bipush (v := nI 14) hG dX12_person_123 (by decide) ?_
                refine pm_icmpN_ge (tgt := 143) hG dX12_person_125 rfl (by omega) (by omega) (fun q => absurd q (by omega)) (fun _ => ?_)
                refine pm_aloadn hG dX12_person_128 rfl ?_
                refine pm_iloadi hG dX12_person_129 rfl ?_
                refine pm_iloadi hG dX12_person_131 rfl ?_
                refine pm_iconst (v := nI 0) hG dX12_person_133 (by decide) ?_
                refine pm_callV (As := [.int (nI k395), .int (nI 12), .int (nI 0)]) (rest := []) hG hR dX12_person_134 (lkX12_97 _ rfl) okV_X12_sets rfl rfl (m_sets (d := 2) (e := 14 * k395 + 122) (by omega) (by omega) (by omega)) rfl rfl hdd (Nat.le_refl _) (Nat.le_refl _) (by decide) (pm_kv (fun σ' cnt' hq => ?_))
                obtain ⟨rfl, rfl⟩ := hq
                obtain ⟨n_461, en_461⟩ : ∃ f : Nat → Int32, f = upd n_456 (14 * k395 + 122) (nI 0) := ⟨_, rfl⟩
                rw [← en_461]
                have hnn_461 := KI.w en_461 hnn_456 (okv_f (show kd (14 * k395 + 122) = (0, 0, false) from (kd_P (k := k395) (c := 12) (by omega) (by omega) (by decide))))
                have hrn_461 := NRx.w en_461 hrn_456 (by rw [(show kd (14 * k395 + 122) = (0, 0, false) from (kd_P (k := k395) (c := 12) (by omega) (by omega) (by decide)))])
                have e462 : n_461 0 = nI kc0 := by rw [en_461, pk_un (by omega)]; exact e457
                have e463 : n_461 8 = nI k4 := by rw [en_461, pk_un (by omega)]; exact e458
                have e464 : n_461 2 = nI (k395 + 1) := by rw [en_461, pk_un (by omega)]; exact e459
                have e465 : n_461 (14 * k395 + 122) = nI 0 := by rw [en_461, pk_us]
                refine pm_iincX (v := nI 13) (loc' := [some (.ref (B + 54)), some (.int za), some (.int zb), some (.int zc), some (.int zd), some (.int (nI 1)), some (.int (nI k395)), some (.int (nI 13))]) hG dX12_person_137 rfl (nI_1 _) (by decide) (pm_c1b rfl) rfl ?_
                refine pm_goto (tgt := 121) hG dX12_person_140 rfl ?_
                refine pm_iloadi hG dX12_person_121 rfl ?_
                refine pm_bipush (v := nI 14) hG dX12_person_123 (by decide) ?_
                refine pm_icmpN_ge (tgt := 143) hG dX12_person_125 rfl (by omega) (by omega) (fun q => absurd q (by omega)) (fun _ => ?_)
                refine pm_aloadn hG dX12_person_128 rfl ?_
                refine pm_iloadi hG dX12_person_129 rfl ?_
                refine pm_iloadi hG dX12_person_131 rfl ?_
                refine pm_iconst (v := nI 0) hG dX12_person_133 (by decide) ?_
                refine pm_callV (As := [.int (nI k395), .int (nI 13), .int (nI 0)]) (rest := []) hG hR dX12_person_134 (lkX12_97 _ rfl) okV_X12_sets rfl rfl (m_sets (d := 2) (e := 14 * k395 + 123) (by omega) (by omega) (by omega)) rfl rfl hdd (Nat.le_refl _) (Nat.le_refl _) (by decide) (pm_kv (fun σ' cnt' hq => ?_))
                obtain ⟨rfl, rfl⟩ := hq
                obtain ⟨n_466, en_466⟩ : ∃ f : Nat → Int32, f = upd n_461 (14 * k395 + 123) (nI 0) := ⟨_, rfl⟩
                rw [← en_466]
                have hnn_466 := KI.w en_466 hnn_461 (okv_f (show kd (14 * k395 + 123) = (0, 0, false) from (kd_P (k := k395) (c := 13) (by omega) (by omega) (by decide))))
                have hrn_466 := NRx.w en_466 hrn_461 (by rw [(show kd (14 * k395 + 123) = (0, 0, false) from (kd_P (k := k395) (c := 13) (by omega) (by omega) (by decide)))])
                have e467 : n_466 0 = nI kc0 := by rw [en_466, pk_un (by omega)]; exact e462
                have e468 : n_466 8 = nI k4 := by rw [en_466, pk_un (by omega)]; exact e463
                have e469 : n_466 2 = nI (k395 + 1) := by rw [en_466, pk_un (by omega)]; exact e464
                have e470 : n_466 (14 * k395 + 123) = nI 0 := by rw [en_466, pk_us]
                refine pm_iincX (v := nI 14) (loc' := [some (.ref (B + 54)), some (.int za), some (.int zb), some (.int zc), some (.int zd), some (.int (nI 1)), some (.int (nI k395)), some (.int (nI 14))]) hG dX12_person_137 rfl (nI_1 _) (by decide) (pm_c1b rfl) rfl ?_
                refine pm_goto (tgt := 121) hG dX12_person_140 rfl ?_
                refine pm_iloadi hG dX12_person_121 rfl ?_
                refine pm_bipush (v := nI 14) hG dX12_person_123 (by decide) ?_
                refine pm_icmpN_ge (tgt := 143) hG dX12_person_125 rfl (by omega) (by omega) (fun _ => ?_) (fun q => absurd q (by omega))
                refine pm_aloadn hG dX12_person_143 rfl ?_
                refine pm_iloadi hG dX12_person_144 rfl ?_
                refine pm_iconst (v := nI 0) hG dX12_person_146 (by decide) ?_
                refine pm_iloadn hG dX12_person_147 rfl ?_
                refine pm_top (v := nI k3) ek3 ?_
                refine pm_callV (As := [.int (nI k395), .int (nI 0), .int (nI k3)]) (rest := []) hG hR dX12_person_148 (lkX12_97 _ rfl) okV_X12_sets rfl rfl (m_sets (d := 2) (e := 14 * k395 + 110) (by omega) (by omega) (by omega)) rfl rfl hdd (Nat.le_refl _) (Nat.le_refl _) (by decide) (pm_kv (fun σ' cnt' hq => ?_))
                obtain ⟨rfl, rfl⟩ := hq
                obtain ⟨n_471, en_471⟩ : ∃ f : Nat → Int32, f = upd n_466 (14 * k395 + 110) (nI k3) := ⟨_, rfl⟩
                rw [← en_471]
                have hnn_471 := KI.w en_471 hnn_466 (okv_f (show kd (14 * k395 + 110) = (0, 0, false) from (kd_P (k := k395) (c := 0) (by omega) (by omega) (by decide))))
                have hrn_471 := NRx.w en_471 hrn_466 (by rw [(show kd (14 * k395 + 110) = (0, 0, false) from (kd_P (k := k395) (c := 0) (by omega) (by omega) (by decide)))])
                have e472 : n_471 0 = nI kc0 := by rw [en_471, pk_un (by omega)]; exact e467
                have e473 : n_471 8 = nI k4 := by rw [en_471, pk_un (by omega)]; exact e468
                have e474 : n_471 2 = nI (k395 + 1) := by rw [en_471, pk_un (by omega)]; exact e469
                have e475 : n_471 (14 * k395 + 110) = nI k3 := by rw [en_471, pk_us]
                refine pm_aloadn hG dX12_person_151 rfl ?_
                refine pm_iloadi hG dX12_person_152 rfl ?_
                refine pm_iconst (v := nI 1) hG dX12_person_154 (by decide) ?_
                refine pm_iloadn hG dX12_person_155 rfl ?_
                refine pm_callV (As := [.int (nI k395), .int (nI 1), .int zb]) (rest := []) hG hR dX12_person_156 (lkX12_97 _ rfl) okV_X12_sets rfl rfl (m_sets (d := 2) (e := 14 * k395 + 111) (by omega) (by omega) (by omega)) rfl rfl hdd (Nat.le_refl _) (Nat.le_refl _) (by decide) (pm_kv (fun σ' cnt' hq => ?_))
                obtain ⟨rfl, rfl⟩ := hq
                obtain ⟨n_476, en_476⟩ : ∃ f : Nat → Int32, f = upd n_471 (14 * k395 + 111) zb := ⟨_, rfl⟩
                rw [← en_476]
                have hnn_476 := KI.w en_476 hnn_471 (okv_f (show kd (14 * k395 + 111) = (0, 0, false) from (kd_P (k := k395) (c := 1) (by omega) (by omega) (by decide))))
                have hrn_476 := NRx.w en_476 hrn_471 (by rw [(show kd (14 * k395 + 111) = (0, 0, false) from (kd_P (k := k395) (c := 1) (by omega) (by omega) (by decide)))])
                have e477 : n_476 0 = nI kc0 := by rw [en_476, pk_un (by omega)]; exact e472
                have e478 : n_476 8 = nI k4 := by rw [en_476, pk_un (by omega)]; exact e473
                have e479 : n_476 2 = nI (k395 + 1) := by rw [en_476, pk_un (by omega)]; exact e474
                have e480 : n_476 (14 * k395 + 111) = zb := by rw [en_476, pk_us]
                refine pm_aloadn hG dX12_person_159 rfl ?_
                refine pm_iloadi hG dX12_person_160 rfl ?_
                refine pm_iconst (v := nI 2) hG dX12_person_162 (by decide) ?_
                refine pm_iloadn hG dX12_person_163 rfl ?_
                refine pm_top (v := nI k10) ek10 ?_
                refine pm_bipush (v := nI 100) hG dX12_person_164 (by decide) ?_
                refine pm_idivN hG dX12_person_166 (by omega) (by decide) (by decide) ?_
                refine pm_iconst (v := nI 1) hG dX12_person_167 (by decide) ?_
                refine pm_isub hG dX12_person_168 ?_
                refine pm_top (v := nI k12) ek12 ?_
                refine pm_callV (As := [.int (nI k395), .int (nI 2), .int (nI k12)]) (rest := []) hG hR dX12_person_169 (lkX12_97 _ rfl) okV_X12_sets rfl rfl (m_sets (d := 2) (e := 14 * k395 + 112) (by omega) (by omega) (by omega)) rfl rfl hdd (Nat.le_refl _) (Nat.le_refl _) (by decide) (pm_kv (fun σ' cnt' hq => ?_))
                obtain ⟨rfl, rfl⟩ := hq
                obtain ⟨n_481, en_481⟩ : ∃ f : Nat → Int32, f = upd n_476 (14 * k395 + 112) (nI k12) := ⟨_, rfl⟩
                rw [← en_481]
                have hnn_481 := KI.w en_481 hnn_476 (okv_o (show kd (14 * k395 + 112) = (2, 20, false) from (kd_P (k := k395) (c := 2) (by omega) (by omega) (by decide))) (by omega))
                have hrn_481 := NRx.w en_481 hrn_476 (by rw [(show kd (14 * k395 + 112) = (2, 20, false) from (kd_P (k := k395) (c := 2) (by omega) (by omega) (by decide)))])
                have e482 : n_481 0 = nI kc0 := by rw [en_481, pk_un (by omega)]; exact e477
                have e483 : n_481 8 = nI k4 := by rw [en_481, pk_un (by omega)]; exact e478
                have e484 : n_481 2 = nI (k395 + 1) := by rw [en_481, pk_un (by omega)]; exact e479
                have e485 : n_481 (14 * k395 + 112) = nI k12 := by rw [en_481, pk_us]
                refine pm_aloadn hG dX12_person_172 rfl ?_
                refine pm_iloadi hG dX12_person_173 rfl ?_
                refine pm_iconst (v := nI 3) hG dX12_person_175 (by decide) ?_
                refine pm_iloadn hG dX12_person_176 rfl ?_
                refine pm_top (v := nI k10) ek10 ?_
                refine pm_bipush (v := nI 100) hG dX12_person_177 (by decide) ?_
                refine pm_iremM hG dX12_person_179 (by omega) (by decide) (by decide) ?_
                refine pm_iconst (v := nI 1) hG dX12_person_180 (by decide) ?_
                refine pm_isub hG dX12_person_181 ?_
                refine pm_top (v := nI k266) ek266 ?_
                refine pm_callV (As := [.int (nI k395), .int (nI 3), .int (nI k266)]) (rest := []) hG hR dX12_person_182 (lkX12_97 _ rfl) okV_X12_sets rfl rfl (m_sets (d := 2) (e := 14 * k395 + 113) (by omega) (by omega) (by omega)) rfl rfl hdd (Nat.le_refl _) (Nat.le_refl _) (by decide) (pm_kv (fun σ' cnt' hq => ?_))
                obtain ⟨rfl, rfl⟩ := hq
                obtain ⟨n_486, en_486⟩ : ∃ f : Nat → Int32, f = upd n_481 (14 * k395 + 113) (nI k266) := ⟨_, rfl⟩
                rw [← en_486]
                have hnn_486 := KI.w en_486 hnn_481 (okv_o (show kd (14 * k395 + 113) = (2, 20, false) from (kd_P (k := k395) (c := 3) (by omega) (by omega) (by decide))) (by omega))
                have hrn_486 := NRx.w en_486 hrn_481 (by rw [(show kd (14 * k395 + 113) = (2, 20, false) from (kd_P (k := k395) (c := 3) (by omega) (by omega) (by decide)))])
                have e487 : n_486 0 = nI kc0 := by rw [en_486, pk_un (by omega)]; exact e482
                have e488 : n_486 8 = nI k4 := by rw [en_486, pk_un (by omega)]; exact e483
                have e489 : n_486 2 = nI (k395 + 1) := by rw [en_486, pk_un (by omega)]; exact e484
                have e490 : n_486 (14 * k395 + 113) = nI k266 := by rw [en_486, pk_us]
                refine pm_aloadn hG dX12_person_185 rfl ?_
                refine pm_iloadi hG dX12_person_186 rfl ?_
                refine pm_iconst (v := nI 4) hG dX12_person_188 (by decide) ?_
                refine pm_iloadi hG dX12_person_189 rfl ?_
                refine pm_top (v := nI k394) ek394 ?_
                refine pm_callV (As := [.int (nI k395), .int (nI 4), .int (nI k394)]) (rest := []) hG hR dX12_person_191 (lkX12_97 _ rfl) okV_X12_sets rfl rfl (m_sets (d := 2) (e := 14 * k395 + 114) (by omega) (by omega) (by omega)) rfl rfl hdd (Nat.le_refl _) (Nat.le_refl _) (by decide) (pm_kv (fun σ' cnt' hq => ?_))
                obtain ⟨rfl, rfl⟩ := hq
                obtain ⟨n_491, en_491⟩ : ∃ f : Nat → Int32, f = upd n_486 (14 * k395 + 114) (nI k394) := ⟨_, rfl⟩
                rw [← en_491]
                have hnn_491 := KI.w en_491 hnn_486 (okv_o (show kd (14 * k395 + 114) = (2, 10, false) from (kd_P (k := k395) (c := 4) (by omega) (by omega) (by decide))) (by omega))
                have hrn_491 := NRx.w en_491 hrn_486 (by rw [(show kd (14 * k395 + 114) = (2, 10, false) from (kd_P (k := k395) (c := 4) (by omega) (by omega) (by decide)))])
                have e492 : n_491 0 = nI kc0 := by rw [en_491, pk_un (by omega)]; exact e487
                have e493 : n_491 8 = nI k4 := by rw [en_491, pk_un (by omega)]; exact e488
                have e494 : n_491 2 = nI (k395 + 1) := by rw [en_491, pk_un (by omega)]; exact e489
                have e495 : n_491 (14 * k395 + 114) = nI k394 := by rw [en_491, pk_us]
                refine pm_aloadn hG dX12_person_194 rfl ?_
                refine pm_iloadi hG dX12_person_195 rfl ?_
                refine pm_bipush (v := nI 9) hG dX12_person_197 (by decide) ?_
                refine pm_iconst (v := (-1)) hG dX12_person_199 (by decide) ?_
                refine pm_callV (As := [.int (nI k395), .int (nI 9), .int (-1)]) (rest := []) hG hR dX12_person_200 (lkX12_97 _ rfl) okV_X12_sets rfl rfl (m_sets (d := 2) (e := 14 * k395 + 119) (by omega) (by omega) (by omega)) rfl rfl hdd (Nat.le_refl _) (Nat.le_refl _) (by decide) (pm_kv (fun σ' cnt' hq => ?_))
                obtain ⟨rfl, rfl⟩ := hq
                obtain ⟨n_496, en_496⟩ : ∃ f : Nat → Int32, f = upd n_491 (14 * k395 + 119) (-1) := ⟨_, rfl⟩
                rw [← en_496]
                have hnn_496 := KI.w en_496 hnn_491 (okv_m (show kd (14 * k395 + 119) = (2, 2001, false) from (kd_P (k := k395) (c := 9) (by omega) (by omega) (by decide))))
                have hrn_496 := NRx.w en_496 hrn_491 (by rw [(show kd (14 * k395 + 119) = (2, 2001, false) from (kd_P (k := k395) (c := 9) (by omega) (by omega) (by decide)))])
                have e497 : n_496 0 = nI kc0 := by rw [en_496, pk_un (by omega)]; exact e492
                have e498 : n_496 8 = nI k4 := by rw [en_496, pk_un (by omega)]; exact e493
                have e499 : n_496 2 = nI (k395 + 1) := by rw [en_496, pk_un (by omega)]; exact e494
                have e500 : n_496 (14 * k395 + 119) = (-1) := by rw [en_496, pk_us]
                refine pm_aloadn hG dX12_person_203 rfl ?_
                refine pm_iloadi hG dX12_person_204 rfl ?_
                refine pm_bipush (v := nI 10) hG dX12_person_206 (by decide) ?_
                refine pm_iconst (v := (-1)) hG dX12_person_208 (by decide) ?_
                refine pm_callV (As := [.int (nI k395), .int (nI 10), .int (-1)]) (rest := []) hG hR dX12_person_209 (lkX12_97 _ rfl) okV_X12_sets rfl rfl (m_sets (d := 2) (e := 14 * k395 + 120) (by omega) (by omega) (by omega)) rfl rfl hdd (Nat.le_refl _) (Nat.le_refl _) (by decide) (pm_kv (fun σ' cnt' hq => ?_))
                obtain ⟨rfl, rfl⟩ := hq
                obtain ⟨n_501, en_501⟩ : ∃ f : Nat → Int32, f = upd n_496 (14 * k395 + 120) (-1) := ⟨_, rfl⟩
                rw [← en_501]
                have hnn_501 := KI.w en_501 hnn_496 (okv_f (show kd (14 * k395 + 120) = (0, 0, false) from (kd_P (k := k395) (c := 10) (by omega) (by omega) (by decide))))
                have hrn_501 := NRx.w en_501 hrn_496 (by rw [(show kd (14 * k395 + 120) = (0, 0, false) from (kd_P (k := k395) (c := 10) (by omega) (by omega) (by decide)))])
                have e502 : n_501 0 = nI kc0 := by rw [en_501, pk_un (by omega)]; exact e497
                have e503 : n_501 8 = nI k4 := by rw [en_501, pk_un (by omega)]; exact e498
                have e504 : n_501 2 = nI (k395 + 1) := by rw [en_501, pk_un (by omega)]; exact e499
                have e505 : n_501 (14 * k395 + 120) = (-1) := by rw [en_501, pk_us]
                refine pm_aloadn hG dX12_person_212 rfl ?_
                refine pm_iloadi hG dX12_person_213 rfl ?_
                refine pm_bipush (v := nI 12) hG dX12_person_215 (by decide) ?_
                refine pm_iconst (v := nI 1) hG dX12_person_217 (by decide) ?_
                refine pm_callV (As := [.int (nI k395), .int (nI 12), .int (nI 1)]) (rest := []) hG hR dX12_person_218 (lkX12_97 _ rfl) okV_X12_sets rfl rfl (m_sets (d := 2) (e := 14 * k395 + 122) (by omega) (by omega) (by omega)) rfl rfl hdd (Nat.le_refl _) (Nat.le_refl _) (by decide) (pm_kv (fun σ' cnt' hq => ?_))
                obtain ⟨rfl, rfl⟩ := hq
                obtain ⟨n_506, en_506⟩ : ∃ f : Nat → Int32, f = upd n_501 (14 * k395 + 122) (nI 1) := ⟨_, rfl⟩
                rw [← en_506]
                have hnn_506 := KI.w en_506 hnn_501 (okv_f (show kd (14 * k395 + 122) = (0, 0, false) from (kd_P (k := k395) (c := 12) (by omega) (by omega) (by decide))))
                have hrn_506 := NRx.w en_506 hrn_501 (by rw [(show kd (14 * k395 + 122) = (0, 0, false) from (kd_P (k := k395) (c := 12) (by omega) (by omega) (by decide)))])
                have e507 : n_506 0 = nI kc0 := by rw [en_506, pk_un (by omega)]; exact e502
                have e508 : n_506 8 = nI k4 := by rw [en_506, pk_un (by omega)]; exact e503
                have e509 : n_506 2 = nI (k395 + 1) := by rw [en_506, pk_un (by omega)]; exact e504
                have e510 : n_506 (14 * k395 + 122) = nI 1 := by rw [en_506, pk_us]
                refine pm_iloadi hG dX12_person_221 rfl ?_
                exact pm_iret hG hF dX12_person_223 rfl (Nat.le_refl _) (Nat.le_refl _) ⟨_, rfl, ⟨_, _, _, rfl, hnn_506, hrn_506, e507.trans ekc0.symm⟩, rfl⟩
              · refine pm_aloadn hG dX12_person_102 rfl ?_
                refine pm_iconst (v := nI 4) hG dX12_person_103 (by decide) ?_
                refine pm_callV (As := [.int (nI 4)]) (rest := []) hG hR dX12_person_104 (lkX12_80 _ rfl) okV_X12_finds rfl rfl (m_finds (d := 2) (by decide) hn hz (by omega)) rfl rfl hdd (Nat.le_refl _) (Nat.le_refl _) (by decide) (pm_ki (fun v511 σ' cnt' hq => ?_))
                obtain ⟨⟨I512, A512, rfl⟩, rfl, fv511⟩ := hq
                exact pm_iret hG hF dX12_person_107 rfl (Nat.le_refl _) (Nat.le_refl _) ⟨_, rfl, ⟨_, _, _, rfl, hn, hr, ekc0.trans ekc0.symm⟩, rfl⟩
            · refine pm_ifN_eq (tgt := 73) hG dX12_person_66 rfl (by omega) (fun _ => ?_) (fun q => absurd q (by omega))
              refine pm_iconst (v := nI 0) hG dX12_person_73 (by decide) ?_
              refine pm_istoreXi (loc' := [some (.ref (B + 54)), some (.int za), some (.int zb), some (.int zc), some (.int zd), some (.int (nI 0)), none, none]) hG dX12_person_74 (by decide) (pm_c1b rfl) rfl ?_
              refine pm_iloadi hG dX12_person_76 rfl ?_
              refine pm_ifN_ne (tgt := 87) hG dX12_person_78 rfl (by omega) (fun q => absurd q (by omega)) (fun _ => ?_)
              refine pm_aloadn hG dX12_person_81 rfl ?_
              refine pm_iconst (v := nI 1) hG dX12_person_82 (by decide) ?_
              refine pm_callV (As := [.int (nI 1)]) (rest := []) hG hR dX12_person_83 (lkX12_80 _ rfl) okV_X12_finds rfl rfl (m_finds (d := 2) (by decide) hn hz (by omega)) rfl rfl hdd (Nat.le_refl _) (Nat.le_refl _) (by decide) (pm_ki (fun v513 σ' cnt' hq => ?_))
              obtain ⟨⟨I514, A514, rfl⟩, rfl, fv513⟩ := hq
              exact pm_iret hG hF dX12_person_86 rfl (Nat.le_refl _) (Nat.le_refl _) ⟨_, rfl, ⟨_, _, _, rfl, hn, hr, ekc0.trans ekc0.symm⟩, rfl⟩
    · refine pm_ifN_eq (tgt := 73) hG dX12_person_23 rfl (by omega) (fun _ => ?_) (fun q => absurd q (by omega))
      refine pm_iconst (v := nI 0) hG dX12_person_73 (by decide) ?_
      refine pm_istoreXi (loc' := [some (.ref (B + 54)), some (.int za), some (.int zb), some (.int zc), some (.int zd), some (.int (nI 0)), none, none]) hG dX12_person_74 (by decide) (pm_c1b rfl) rfl ?_
      refine pm_iloadi hG dX12_person_76 rfl ?_
      refine pm_ifN_ne (tgt := 87) hG dX12_person_78 rfl (by omega) (fun q => absurd q (by omega)) (fun _ => ?_)
      refine pm_aloadn hG dX12_person_81 rfl ?_
      refine pm_iconst (v := nI 1) hG dX12_person_82 (by decide) ?_
      refine pm_callV (As := [.int (nI 1)]) (rest := []) hG hR dX12_person_83 (lkX12_80 _ rfl) okV_X12_finds rfl rfl (m_finds (d := 2) (by decide) hn hz (by omega)) rfl rfl hdd (Nat.le_refl _) (Nat.le_refl _) (by decide) (pm_ki (fun v515 σ' cnt' hq => ?_))
      obtain ⟨⟨I516, A516, rfl⟩, rfl, fv515⟩ := hq
      exact pm_iret hG hF dX12_person_86 rfl (Nat.le_refl _) (Nat.le_refl _) ⟨_, rfl, ⟨_, _, _, rfl, hn, hr, ekc0.trans ekc0.symm⟩, rfl⟩
  · refine pm_ifN_eq (tgt := 73) hG dX12_person_6 rfl (by omega) (fun _ => ?_) (fun q => absurd q (by omega))
    refine pm_iconst (v := nI 0) hG dX12_person_73 (by decide) ?_
    refine pm_istoreXi (loc' := [some (.ref (B + 54)), some (.int za), some (.int zb), some (.int zc), some (.int zd), some (.int (nI 0)), none, none]) hG dX12_person_74 (by decide) (pm_c1b rfl) rfl ?_
    refine pm_iloadi hG dX12_person_76 rfl ?_
    refine pm_ifN_ne (tgt := 87) hG dX12_person_78 rfl (by omega) (fun q => absurd q (by omega)) (fun _ => ?_)
    refine pm_aloadn hG dX12_person_81 rfl ?_
    refine pm_iconst (v := nI 1) hG dX12_person_82 (by decide) ?_
    refine pm_callV (As := [.int (nI 1)]) (rest := []) hG hR dX12_person_83 (lkX12_80 _ rfl) okV_X12_finds rfl rfl (m_finds (d := 2) (by decide) hn hz (by omega)) rfl rfl hdd (Nat.le_refl _) (Nat.le_refl _) (by decide) (pm_ki (fun v517 σ' cnt' hq => ?_))
    obtain ⟨⟨I518, A518, rfl⟩, rfl, fv517⟩ := hq
    exact pm_iret hG hF dX12_person_86 rfl (Nat.le_refl _) (Nat.le_refl _) ⟨_, rfl, ⟨_, _, _, rfl, hn, hr, ekc0.trans ekc0.symm⟩, rfl⟩
