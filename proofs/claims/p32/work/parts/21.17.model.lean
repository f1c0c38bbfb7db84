set_option maxRecDepth 100000 in
set_option maxHeartbeats 4000000 in
theorem m_own {d B cnt p0 t0 : Nat} {σ : pm_S} {I : Nat → Int32} {A : Nat → Nat → Int32} {n k z : Nat → Int32} {ac wt pl im : Int32} {za zb : Int32} (hdd : 2 ≤ d) (hn : KI n) (hr : NR n) (hz : SZ z)  : pm_met mX12_own d 0 0 B [.ref (B + 54), .int za, .int zb] cnt (pm_mid σ (md_L B I A n k z ac wt pl (nI p0) (nI t0) im)) (pm_Qi (fun v σ' cnt' => (∃ (I' : Nat → Int32) (A' : Nat → Nat → Int32) (n' : Nat → Int32), σ' = pm_mid σ (md_L B I' A' n' k z ac wt pl (nI p0) (nI t0) im) ∧ KI n' ∧ NR n' ∧ n' 0 = n 0 ∧ n' 6 = n 6) ∧ cnt = cnt')) := by
  obtain ⟨kc0, hkc0, ekc0⟩ := KI.nat hn (show kd 0 = (1, 11, true) by decide)
  obtain ⟨kc6, hkc6, ekc6⟩ := KI.nat hn (show kd 6 = (1, 7, false) by decide)
  refine pm_enter 1 (by decide) (Nat.le_of_ble_eq_true rfl) rfl (fun G hG hR hF => ?_)
  refine pm_aloadn hG dX12_own_0 rfl ?_
  refine pm_iloadn hG dX12_own_1 rfl ?_
  refine pm_callV (As := [.int za]) (rest := []) hG hR dX12_own_2 (lkX12_84 _ rfl) okV_X12_isTown rfl rfl (m_isTown (d := 1) (by decide) ekc0 (by omega)) rfl rfl hdd (Nat.le_refl _) (Nat.le_refl _) (by decide) (pm_ki (fun v1 σ' cnt' hq => ?_))
  obtain ⟨hq, rfl, rfl⟩ := hq
  rcases hq with ⟨rfl, k3, hk3, ek3⟩ | ⟨rfl, ntk3⟩
  · refine pm_ifN_eq (tgt := 29) hG dX12_own_5 rfl (by omega) (fun q => absurd q (by omega)) (fun _ => ?_)
    refine pm_iloadn hG dX12_own_8 rfl ?_
    refine pm_iconst (v := (-1)) hG dX12_own_9 (by decide) ?_
    refine pm_icmp_eq (tgt := 35) hG dX12_own_10 rfl (fun c4 => ?_) (fun c4 => ?_)
    · refine pm_aloadn hG dX12_own_35 rfl ?_
      refine pm_getf hG dX12_own_36 (flX12_7 _ rfl) rfl rfl ?_
      refine pm_bipush (v := nI 20) hG dX12_own_39 (by decide) ?_
      refine pm_iconst (v := nI 3) hG dX12_own_41 (by decide) ?_
      refine pm_iloadn hG dX12_own_42 rfl ?_
      refine pm_top (v := nI k3) ek3 ?_
      refine pm_imulN (c := 3 * k3) hG dX12_own_43 (by omega) ?_
      refine pm_iaddN (c := 3 * k3 + 20) hG dX12_own_44 (by omega) ?_
      refine pm_iconst (v := nI 2) hG dX12_own_45 (by decide) ?_
      refine pm_iaddN (c := 3 * k3 + 22) hG dX12_own_46 (by omega) ?_
      refine pm_ialdN hG dX12_own_47 rfl (by decide) (by omega) ?_
      refine pm_gen (fun x5 ex5 => ?_)
      refine pm_iconst (v := nI 1) hG dX12_own_48 (by decide) ?_
      refine pm_icmp_ne (tgt := 58) hG dX12_own_49 rfl (fun c6 => ?_) (fun c6 => ?_)
      · refine pm_aloadn hG dX12_own_58 rfl ?_
        refine pm_getf hG dX12_own_59 (flX12_7 _ rfl) rfl rfl ?_
        refine pm_bipush (v := nI 20) hG dX12_own_62 (by decide) ?_
        refine pm_iconst (v := nI 3) hG dX12_own_64 (by decide) ?_
        refine pm_iloadn hG dX12_own_65 rfl ?_
        refine pm_top (v := nI k3) ek3 ?_
        refine pm_imulN (c := 3 * k3) hG dX12_own_66 (by omega) ?_
        refine pm_iaddN (c := 3 * k3 + 20) hG dX12_own_67 (by omega) ?_
        refine pm_iconst (v := nI 1) hG dX12_own_68 (by decide) ?_
        refine pm_iaddN (c := 3 * k3 + 21) hG dX12_own_69 (by omega) ?_
        refine pm_ialdN hG dX12_own_70 rfl (by decide) (by omega) ?_
        rcases KI.opt hn (show kd (3 * k3 + 21) = (2, 20, false) from (kd_T (k := k3) (c := 1) (by omega) (by omega) (by decide))) with ek7 | ⟨k7, hk7, ek7⟩
        · refine pm_top (v := (-1)) ek7 ?_
          refine pm_istoreXn (loc' := [some (.ref (B + 54)), some (.int za), some (.int zb), some (.int (-1))]) hG dX12_own_71 (by decide) (pm_c1b rfl) rfl ?_
          refine pm_aloadn hG dX12_own_72 rfl ?_
          refine pm_getf hG dX12_own_73 (flX12_7 _ rfl) rfl rfl ?_
          refine pm_bipush (v := nI 20) hG dX12_own_76 (by decide) ?_
          refine pm_iconst (v := nI 3) hG dX12_own_78 (by decide) ?_
          refine pm_iloadn hG dX12_own_79 rfl ?_
          refine pm_top (v := nI k3) ek3 ?_
          refine pm_imulN (c := 3 * k3) hG dX12_own_80 (by omega) ?_
          refine pm_iaddN (c := 3 * k3 + 20) hG dX12_own_81 (by omega) ?_
          refine pm_iconst (v := nI 1) hG dX12_own_82 (by decide) ?_
          refine pm_iaddN (c := 3 * k3 + 21) hG dX12_own_83 (by omega) ?_
          refine pm_iloadn hG dX12_own_84 rfl ?_
          refine pm_top (v := (-1)) c4 ?_
          refine pm_iastN hG dX12_own_85 rfl (by decide) (by omega) ?_
          refine mdn_now (fun n_8 en_8 => ?_)
          have hnn_8 := KI.w en_8 hn (okv_m (show kd (3 * k3 + 21) = (2, 20, false) from (kd_T (k := k3) (c := 1) (by omega) (by omega) (by decide))))
          have hrn_8 := NRx.w en_8 hr (by rw [(show kd (3 * k3 + 21) = (2, 20, false) from (kd_T (k := k3) (c := 1) (by omega) (by omega) (by decide)))])
          have e9 : n_8 0 = nI kc0 := by rw [en_8, pk_un (by omega)]; exact ekc0
          have e10 : n_8 6 = nI kc6 := by rw [en_8, pk_un (by omega)]; exact ekc6
          have e11 : n_8 (3 * k3 + 22) = x5 := by rw [en_8, pk_un (by omega)]; exact ex5
          have e12 : n_8 (3 * k3 + 21) = (-1) := by rw [en_8, pk_us]
          refine pm_iloadn hG dX12_own_86 rfl ?_
          exact pm_iret hG hF dX12_own_87 rfl (Nat.le_refl _) (Nat.le_refl _) ⟨_, rfl, ⟨_, _, _, rfl, hnn_8, hrn_8, e9.trans ekc0.symm, e10.trans ekc6.symm⟩, rfl⟩
        · refine pm_top (v := nI k7) ek7 ?_
          refine pm_istoreXn (loc' := [some (.ref (B + 54)), some (.int za), some (.int zb), some (.int (nI k7))]) hG dX12_own_71 (by decide) (pm_c1b rfl) rfl ?_
          refine pm_aloadn hG dX12_own_72 rfl ?_
          refine pm_getf hG dX12_own_73 (flX12_7 _ rfl) rfl rfl ?_
          refine pm_bipush (v := nI 20) hG dX12_own_76 (by decide) ?_
          refine pm_iconst (v := nI 3) hG dX12_own_78 (by decide) ?_
          refine pm_iloadn hG dX12_own_79 rfl ?_
          refine pm_top (v := nI k3) ek3 ?_
          refine pm_imulN (c := 3 * k3) hG dX12_own_80 (by omega) ?_
          refine pm_iaddN (c := 3 * k3 + 20) hG dX12_own_81 (by omega) ?_
          refine pm_iconst (v := nI 1) hG dX12_own_82 (by decide) ?_
          refine pm_iaddN (c := 3 * k3 + 21) hG dX12_own_83 (by omega) ?_
          refine pm_iloadn hG dX12_own_84 rfl ?_
          refine pm_top (v := (-1)) c4 ?_
          refine pm_iastN hG dX12_own_85 rfl (by decide) (by omega) ?_
          refine mdn_now (fun n_13 en_13 => ?_)
          have hnn_13 := KI.w en_13 hn (okv_m (show kd (3 * k3 + 21) = (2, 20, false) from (kd_T (k := k3) (c := 1) (by omega) (by omega) (by decide))))
          have hrn_13 := NRx.w en_13 hr (by rw [(show kd (3 * k3 + 21) = (2, 20, false) from (kd_T (k := k3) (c := 1) (by omega) (by omega) (by decide)))])
          have e14 : n_13 0 = nI kc0 := by rw [en_13, pk_un (by omega)]; exact ekc0
          have e15 : n_13 6 = nI kc6 := by rw [en_13, pk_un (by omega)]; exact ekc6
          have e16 : n_13 (3 * k3 + 22) = x5 := by rw [en_13, pk_un (by omega)]; exact ex5
          have e17 : n_13 (3 * k3 + 21) = (-1) := by rw [en_13, pk_us]
          refine pm_iloadn hG dX12_own_86 rfl ?_
          exact pm_iret hG hF dX12_own_87 rfl (Nat.le_refl _) (Nat.le_refl _) ⟨_, rfl, ⟨_, _, _, rfl, hnn_13, hrn_13, e14.trans ekc0.symm, e15.trans ekc6.symm⟩, rfl⟩
      · refine pm_aloadn hG dX12_own_52 rfl ?_
        refine pm_iconst (v := nI 3) hG dX12_own_53 (by decide) ?_
        refine pm_callV (As := [.int (nI 3)]) (rest := []) hG hR dX12_own_54 (lkX12_80 _ rfl) okV_X12_finds rfl rfl (m_finds (d := 1) (by decide) hn hz (by omega)) rfl rfl hdd (Nat.le_refl _) (Nat.le_refl _) (by decide) (pm_ki (fun v18 σ' cnt' hq => ?_))
        obtain ⟨⟨I19, A19, rfl⟩, rfl, fv18⟩ := hq
        exact pm_iret hG hF dX12_own_57 rfl (Nat.le_refl _) (Nat.le_refl _) ⟨_, rfl, ⟨_, _, _, rfl, hn, hr, ekc0.trans ekc0.symm, ekc6.trans ekc6.symm⟩, rfl⟩
    · refine pm_aloadn hG dX12_own_13 rfl ?_
      refine pm_iloadn hG dX12_own_14 rfl ?_
      obtain ⟨k20, hk20, ek20⟩ := KI.nat hn (show kd 2 = (1, 21, true) by decide)
      refine pm_callV (As := [.int zb]) (rest := []) hG hR dX12_own_15 (lkX12_91 _ rfl) okV_X12_isPerson rfl rfl (m_isPerson (d := 1) (by decide) ek20 (by omega)) rfl rfl hdd (Nat.le_refl _) (Nat.le_refl _) (by decide) (pm_ki (fun v21 σ' cnt' hq => ?_))
      obtain ⟨hq, rfl, rfl⟩ := hq
      rcases hq with ⟨rfl, k23, hk23, ek23⟩ | rfl
      · refine pm_ifN_eq (tgt := 29) hG dX12_own_18 rfl (by omega) (fun q => absurd q (by omega)) (fun _ => ?_)
        refine pm_aloadn hG dX12_own_21 rfl ?_
        refine pm_iloadn hG dX12_own_22 rfl ?_
        refine pm_top (v := nI k23) ek23 ?_
        rcases KI.opt hn (show kd (14 * k23 + 119) = (2, 2001, false) from (kd_P (k := k23) (c := 9) (by omega) (by omega) (by decide))) with ek24 | ⟨k24, hk24, ek24⟩
        · refine pm_callV (As := [.int (nI k23)]) (rest := []) hG hR dX12_own_23 (lkX12_101 _ rfl) okV_X12_lives rfl rfl (m_lives1 (d := 1) (by decide) (by omega) (by omega : 14 * k23 + 119 = 14 * k23 + 119) ek24) rfl rfl hdd (Nat.le_refl _) (Nat.le_refl _) (by decide) (pm_ki (fun v25 σ' cnt' hq => ?_))
          obtain ⟨rfl, rfl, rfl⟩ := hq
          refine pm_ifN_ne (tgt := 35) hG dX12_own_26 rfl (by omega) (fun _ => ?_) (fun q => absurd q (by omega))
          refine pm_aloadn hG dX12_own_35 rfl ?_
          refine pm_getf hG dX12_own_36 (flX12_7 _ rfl) rfl rfl ?_
          refine pm_bipush (v := nI 20) hG dX12_own_39 (by decide) ?_
          refine pm_iconst (v := nI 3) hG dX12_own_41 (by decide) ?_
          refine pm_iloadn hG dX12_own_42 rfl ?_
          refine pm_top (v := nI k3) ek3 ?_
          refine pm_imulN (c := 3 * k3) hG dX12_own_43 (by omega) ?_
          refine pm_iaddN (c := 3 * k3 + 20) hG dX12_own_44 (by omega) ?_
          refine pm_iconst (v := nI 2) hG dX12_own_45 (by decide) ?_
          refine pm_iaddN (c := 3 * k3 + 22) hG dX12_own_46 (by omega) ?_
          refine pm_ialdN hG dX12_own_47 rfl (by decide) (by omega) ?_
          refine pm_gen (fun x26 ex26 => ?_)
          refine pm_iconst (v := nI 1) hG dX12_own_48 (by decide) ?_
          refine pm_icmp_ne (tgt := 58) hG dX12_own_49 rfl (fun c27 => ?_) (fun c27 => ?_)
          · refine pm_aloadn hG dX12_own_58 rfl ?_
            refine pm_getf hG dX12_own_59 (flX12_7 _ rfl) rfl rfl ?_
            refine pm_bipush (v := nI 20) hG dX12_own_62 (by decide) ?_
            refine pm_iconst (v := nI 3) hG dX12_own_64 (by decide) ?_
            refine pm_iloadn hG dX12_own_65 rfl ?_
            refine pm_top (v := nI k3) ek3 ?_
            refine pm_imulN (c := 3 * k3) hG dX12_own_66 (by omega) ?_
            refine pm_iaddN (c := 3 * k3 + 20) hG dX12_own_67 (by omega) ?_
            refine pm_iconst (v := nI 1) hG dX12_own_68 (by decide) ?_
            refine pm_iaddN (c := 3 * k3 + 21) hG dX12_own_69 (by omega) ?_
            refine pm_ialdN hG dX12_own_70 rfl (by decide) (by omega) ?_
            rcases KI.opt hn (show kd (3 * k3 + 21) = (2, 20, false) from (kd_T (k := k3) (c := 1) (by omega) (by omega) (by decide))) with ek28 | ⟨k28, hk28, ek28⟩
            · refine pm_top (v := (-1)) ek28 ?_
              refine pm_istoreXn (loc' := [some (.ref (B + 54)), some (.int za), some (.int zb), some (.int (-1))]) hG dX12_own_71 (by decide) (pm_c1b rfl) rfl ?_
              refine pm_aloadn hG dX12_own_72 rfl ?_
              refine pm_getf hG dX12_own_73 (flX12_7 _ rfl) rfl rfl ?_
              refine pm_bipush (v := nI 20) hG dX12_own_76 (by decide) ?_
              refine pm_iconst (v := nI 3) hG dX12_own_78 (by decide) ?_
              refine pm_iloadn hG dX12_own_79 rfl ?_
              refine pm_top (v := nI k3) ek3 ?_
              refine pm_imulN (c := 3 * k3) hG dX12_own_80 (by omega) ?_
              refine pm_iaddN (c := 3 * k3 + 20) hG dX12_own_81 (by omega) ?_
              refine pm_iconst (v := nI 1) hG dX12_own_82 (by decide) ?_
              refine pm_iaddN (c := 3 * k3 + 21) hG dX12_own_83 (by omega) ?_
              refine pm_iloadn hG dX12_own_84 rfl ?_
              refine pm_top (v := nI k23) ek23 ?_
              refine pm_iastN hG dX12_own_85 rfl (by decide) (by omega) ?_
              refine mdn_now (fun n_29 en_29 => ?_)
              have hnn_29 := KI.w en_29 hn (okv_o (show kd (3 * k3 + 21) = (2, 20, false) from (kd_T (k := k3) (c := 1) (by omega) (by omega) (by decide))) (by omega))
              have hrn_29 := NRx.w en_29 hr (by rw [(show kd (3 * k3 + 21) = (2, 20, false) from (kd_T (k := k3) (c := 1) (by omega) (by omega) (by decide)))])
              have e30 : n_29 0 = nI kc0 := by rw [en_29, pk_un (by omega)]; exact ekc0
              have e31 : n_29 6 = nI kc6 := by rw [en_29, pk_un (by omega)]; exact ekc6
              have e32 : n_29 2 = nI k20 := by rw [en_29, pk_un (by omega)]; exact ek20
              have e33 : n_29 (14 * k23 + 119) = (-1) := by rw [en_29, pk_un (by omega)]; exact ek24
              have e34 : n_29 (3 * k3 + 22) = x26 := by rw [en_29, pk_un (by omega)]; exact ex26
              have e35 : n_29 (3 * k3 + 21) = nI k23 := by rw [en_29, pk_us]
              refine pm_iloadn hG dX12_own_86 rfl ?_
              exact pm_iret hG hF dX12_own_87 rfl (Nat.le_refl _) (Nat.le_refl _) ⟨_, rfl, ⟨_, _, _, rfl, hnn_29, hrn_29, e30.trans ekc0.symm, e31.trans ekc6.symm⟩, rfl⟩
            · refine pm_top (v := nI k28) ek28 ?_
              refine pm_istoreXn (loc' := [some (.ref (B + 54)), some (.int za), some (.int zb), some (.int (nI k28))]) hG dX12_own_71 (by decide) (pm_c1b rfl) rfl ?_
              refine pm_aloadn hG dX12_own_72 rfl ?_
              refine pm_getf hG dX12_own_73 (flX12_7 _ rfl) rfl rfl ?_
              refine pm_bipush (v := nI 20) hG dX12_own_76 (by decide) ?_
              refine pm_iconst (v := nI 3) hG dX12_own_78 (by decide) ?_
              refine pm_iloadn hG dX12_own_79 rfl ?_
              refine pm_top (v := nI k3) ek3 ?_
              refine pm_imulN (c := 3 * k3) hG dX12_own_80 (by omega) ?_
              refine pm_iaddN (c := 3 * k3 + 20) hG dX12_own_81 (by omega) ?_
              refine pm_iconst (v := nI 1) hG dX12_own_82 (by decide) ?_
              refine pm_iaddN (c := 3 * k3 + 21) hG dX12_own_83 (by omega) ?_
              refine pm_iloadn hG dX12_own_84 rfl ?_
              refine pm_top (v := nI k23) ek23 ?_
              refine pm_iastN hG dX12_own_85 rfl (by decide) (by omega) ?_
              refine mdn_now (fun n_36 en_36 => ?_)
              have hnn_36 := KI.w en_36 hn (okv_o (show kd (3 * k3 + 21) = (2, 20, false) from (kd_T (k := k3) (c := 1) (by omega) (by omega) (by decide))) (by omega))
              have hrn_36 := NRx.w en_36 hr (by rw [(show kd (3 * k3 + 21) = (2, 20, false) from (kd_T (k := k3) (c := 1) (by omega) (by omega) (by decide)))])
              have e37 : n_36 0 = nI kc0 := by rw [en_36, pk_un (by omega)]; exact ekc0
              have e38 : n_36 6 = nI kc6 := by rw [en_36, pk_un (by omega)]; exact ekc6
              have e39 : n_36 2 = nI k20 := by rw [en_36, pk_un (by omega)]; exact ek20
              have e40 : n_36 (14 * k23 + 119) = (-1) := by rw [en_36, pk_un (by omega)]; exact ek24
              have e41 : n_36 (3 * k3 + 22) = x26 := by rw [en_36, pk_un (by omega)]; exact ex26
              have e42 : n_36 (3 * k3 + 21) = nI k23 := by rw [en_36, pk_us]
              refine pm_iloadn hG dX12_own_86 rfl ?_
              exact pm_iret hG hF dX12_own_87 rfl (Nat.le_refl _) (Nat.le_refl _) ⟨_, rfl, ⟨_, _, _, rfl, hnn_36, hrn_36, e37.trans ekc0.symm, e38.trans ekc6.symm⟩, rfl⟩
          · refine pm_aloadn hG dX12_own_52 rfl ?_
            refine pm_iconst (v := nI 3) hG dX12_own_53 (by decide) ?_
            refine pm_callV (As := [.int (nI 3)]) (rest := []) hG hR dX12_own_54 (lkX12_80 _ rfl) okV_X12_finds rfl rfl (m_finds (d := 1) (by decide) hn hz (by omega)) rfl rfl hdd (Nat.le_refl _) (Nat.le_refl _) (by decide) (pm_ki (fun v43 σ' cnt' hq => ?_))
            obtain ⟨⟨I44, A44, rfl⟩, rfl, fv43⟩ := hq
            exact pm_iret hG hF dX12_own_57 rfl (Nat.le_refl _) (Nat.le_refl _) ⟨_, rfl, ⟨_, _, _, rfl, hn, hr, ekc0.trans ekc0.symm, ekc6.trans ekc6.symm⟩, rfl⟩
        · refine pm_callV (As := [.int (nI k23)]) (rest := []) hG hR dX12_own_23 (lkX12_101 _ rfl) okV_X12_lives rfl rfl (m_lives0 (d := 1) (by decide) (by omega) (by omega : 14 * k23 + 119 = 14 * k23 + 119) ek24 (by omega)) rfl rfl hdd (Nat.le_refl _) (Nat.le_refl _) (by decide) (pm_ki (fun v45 σ' cnt' hq => ?_))
          obtain ⟨rfl, rfl, rfl⟩ := hq
          refine pm_ifN_ne (tgt := 35) hG dX12_own_26 rfl (by omega) (fun q => absurd q (by omega)) (fun _ => ?_)
          refine pm_aloadn hG dX12_own_29 rfl ?_
          refine pm_iconst (v := nI 1) hG dX12_own_30 (by decide) ?_
          refine pm_callV (As := [.int (nI 1)]) (rest := []) hG hR dX12_own_31 (lkX12_80 _ rfl) okV_X12_finds rfl rfl (m_finds (d := 1) (by decide) hn hz (by omega)) rfl rfl hdd (Nat.le_refl _) (Nat.le_refl _) (by decide) (pm_ki (fun v46 σ' cnt' hq => ?_))
          obtain ⟨⟨I47, A47, rfl⟩, rfl, fv46⟩ := hq
          exact pm_iret hG hF dX12_own_34 rfl (Nat.le_refl _) (Nat.le_refl _) ⟨_, rfl, ⟨_, _, _, rfl, hn, hr, ekc0.trans ekc0.symm, ekc6.trans ekc6.symm⟩, rfl⟩
      · refine pm_ifN_eq (tgt := 29) hG dX12_own_18 rfl (by omega) (fun _ => ?_) (fun q => absurd q (by omega))
        refine pm_aloadn hG dX12_own_29 rfl ?_
        refine pm_iconst (v := nI 1) hG dX12_own_30 (by decide) ?_
        refine pm_callV (As := [.int (nI 1)]) (rest := []) hG hR dX12_own_31 (lkX12_80 _ rfl) okV_X12_finds rfl rfl (m_finds (d := 1) (by decide) hn hz (by omega)) rfl rfl hdd (Nat.le_refl _) (Nat.le_refl _) (by decide) (pm_ki (fun v48 σ' cnt' hq => ?_))
        obtain ⟨⟨I49, A49, rfl⟩, rfl, fv48⟩ := hq
        exact pm_iret hG hF dX12_own_34 rfl (Nat.le_refl _) (Nat.le_refl _) ⟨_, rfl, ⟨_, _, _, rfl, hn, hr, ekc0.trans ekc0.symm, ekc6.trans ekc6.symm⟩, rfl⟩
  · refine pm_ifN_eq (tgt := 29) hG dX12_own_5 rfl (by omega) (fun _ => ?_) (fun q => absurd q (by omega))
    refine pm_aloadn hG dX12_own_29 rfl ?_
    refine pm_iconst (v := nI 1) hG dX12_own_30 (by decide) ?_
    refine pm_callV (As := [.int (nI 1)]) (rest := []) hG hR dX12_own_31 (lkX12_80 _ rfl) okV_X12_finds rfl rfl (m_finds (d := 1) (by decide) hn hz (by omega)) rfl rfl hdd (Nat.le_refl _) (Nat.le_refl _) (by decide) (pm_ki (fun v50 σ' cnt' hq => ?_))
    obtain ⟨⟨I51, A51, rfl⟩, rfl, fv50⟩ := hq
    exact pm_iret hG hF dX12_own_34 rfl (Nat.le_refl _) (Nat.le_refl _) ⟨_, rfl, ⟨_, _, _, rfl, hn, hr, ekc0.trans ekc0.symm, ekc6.trans ekc6.symm⟩, rfl⟩

set_option maxRecDepth 100000 in
set_option maxHeartbeats 4000000 in
theorem m_pay {d B cnt p0 t0 : Nat} {σ : pm_S} {I : Nat → Int32} {A : Nat → Nat → Int32} {n k z : Nat → Int32} {ac wt pl im : Int32} {za zb : Int32} (hdd : 2 ≤ d) (hn : KI n) (hr : NR n) (hz : SZ z)  : pm_met mX12_pay d 0 0 B [.ref (B + 54), .int za, .int zb] cnt (pm_mid σ (md_L B I A n k z ac wt pl (nI p0) (nI t0) im)) (pm_Qi (fun v σ' cnt' => (∃ (I' : Nat → Int32) (A' : Nat → Nat → Int32) (n' : Nat → Int32), σ' = pm_mid σ (md_L B I' A' n' k z ac wt pl (nI p0) (nI t0) im) ∧ KI n' ∧ NR n' ∧ n' 0 = n 0 ∧ n' 6 = n 6) ∧ cnt = cnt')) := by
  obtain ⟨kc0, hkc0, ekc0⟩ := KI.nat hn (show kd 0 = (1, 11, true) by decide)
  obtain ⟨kc6, hkc6, ekc6⟩ := KI.nat hn (show kd 6 = (1, 7, false) by decide)
  refine pm_enter 0 (by decide) (Nat.le_of_ble_eq_true rfl) rfl (fun G hG hR hF => ?_)
  refine pm_aloadn hG dX12_pay_0 rfl ?_
  refine pm_iloadn hG dX12_pay_1 rfl ?_
  obtain ⟨k1, hk1, ek1⟩ := KI.nat hn (show kd 2 = (1, 21, true) by decide)
  refine pm_callV (As := [.int za]) (rest := []) hG hR dX12_pay_2 (lkX12_91 _ rfl) okV_X12_isPerson rfl rfl (m_isPerson (d := 1) (by decide) ek1 (by omega)) rfl rfl hdd (Nat.le_refl _) (Nat.le_refl _) (by decide) (pm_ki (fun v2 σ' cnt' hq => ?_))
  obtain ⟨hq, rfl, rfl⟩ := hq
  rcases hq with ⟨rfl, k4, hk4, ek4⟩ | rfl
  · refine pm_ifN_eq (tgt := 19) hG dX12_pay_5 rfl (by omega) (fun q => absurd q (by omega)) (fun _ => ?_)
    refine pm_iloadn hG dX12_pay_8 rfl ?_
    refine pm_iconst (v := nI 1) hG dX12_pay_9 (by decide) ?_
    refine pm_sipush (v := nI 9999) hG dX12_pay_10 (by decide) ?_
    refine pm_callS (As := [.int zb, .int (nI 1), .int (nI 9999)]) (rest := []) hG hR dX12_pay_13 (lkX12_68 _ rfl) okS_X12_in (m_in (d := 1)) rfl rfl hdd (Nat.le_refl _) (Nat.le_refl _) (by decide) (pm_ki (fun v5 σ' cnt' hq => ?_))
    obtain ⟨hq, rfl, rfl⟩ := hq
    rcases hq with ⟨rfl, ac6, bc6⟩ | ⟨rfl, c6⟩
    · obtain ⟨k7, hk7, ek7⟩ := in_nat (by omega) (by omega) ac6 bc6
      refine pm_ifN_ne (tgt := 25) hG dX12_pay_16 rfl (by omega) (fun _ => ?_) (fun q => absurd q (by omega))
      refine pm_aloadn hG dX12_pay_25 rfl ?_
      refine pm_iloadn hG dX12_pay_26 rfl ?_
      refine pm_top (v := nI k4) ek4 ?_
      rcases KI.opt hn (show kd (14 * k4 + 119) = (2, 2001, false) from (kd_P (k := k4) (c := 9) (by omega) (by omega) (by decide))) with ek8 | ⟨k8, hk8, ek8⟩
      · refine pm_callV (As := [.int (nI k4)]) (rest := []) hG hR dX12_pay_27 (lkX12_101 _ rfl) okV_X12_lives rfl rfl (m_lives1 (d := 1) (by decide) (by omega) (by omega : 14 * k4 + 119 = 14 * k4 + 119) ek8) rfl rfl hdd (Nat.le_refl _) (Nat.le_refl _) (by decide) (pm_ki (fun v9 σ' cnt' hq => ?_))
        obtain ⟨rfl, rfl, rfl⟩ := hq
        refine pm_ifN_ne (tgt := 39) hG dX12_pay_30 rfl (by omega) (fun _ => ?_) (fun q => absurd q (by omega))
        refine pm_aloadn hG dX12_pay_39 rfl ?_
        refine pm_getf hG dX12_pay_40 (flX12_7 _ rfl) rfl rfl ?_
        refine pm_bipush (v := nI 9) hG dX12_pay_43 (by decide) ?_
        refine pm_ialdN hG dX12_pay_45 rfl (by decide) (by omega) ?_
        refine pm_gen (fun x10 ex10 => ?_)
        refine pm_iloadn hG dX12_pay_46 rfl ?_
        refine pm_top (v := nI k7) ek7 ?_
        refine pm_icmp_ge (tgt := 56) hG dX12_pay_47 rfl (fun c11 => ?_) (fun c11 => ?_)
        · refine pm_aloadn hG dX12_pay_56 rfl ?_
          refine pm_getf hG dX12_pay_57 (flX12_7 _ rfl) rfl rfl ?_
          refine pm_bipush (v := nI 9) hG dX12_pay_60 (by decide) ?_
          refine pm_dup2 hG dX12_pay_62 rfl rfl ?_
          refine pm_ialdN hG dX12_pay_63 rfl (by decide) (by omega) ?_
          refine pm_top (v := x10) ex10 ?_
          refine pm_iloadn hG dX12_pay_64 rfl ?_
          refine pm_top (v := nI k7) ek7 ?_
          refine pm_isub hG dX12_pay_65 ?_
          refine pm_iastN hG dX12_pay_66 rfl (by decide) (by omega) ?_
          refine mdn_now (fun n_12 en_12 => ?_)
          have hnn_12 := KI.w en_12 hn (okv_f (show kd 9 = (0, 0, false) by decide))
          have hrn_12 := NRx.w en_12 hr (by rw [(show kd 9 = (0, 0, false) by decide)])
          have e13 : n_12 0 = nI kc0 := by rw [en_12, pk_un (by omega)]; exact ekc0
          have e14 : n_12 6 = nI kc6 := by rw [en_12, pk_un (by omega)]; exact ekc6
          have e15 : n_12 2 = nI k1 := by rw [en_12, pk_un (by omega)]; exact ek1
          have e16 : n_12 (14 * k4 + 119) = (-1) := by rw [en_12, pk_un (by omega)]; exact ek8
          have e17 : n_12 9 = x10 - (nI k7) := by rw [en_12, pk_us]
          refine pm_aloadn hG dX12_pay_67 rfl ?_
          refine pm_iloadn hG dX12_pay_68 rfl ?_
          refine pm_top (v := nI k4) ek4 ?_
          refine pm_bipush (v := nI 7) hG dX12_pay_69 (by decide) ?_
          refine pm_aloadn hG dX12_pay_71 rfl ?_
          refine pm_iloadn hG dX12_pay_72 rfl ?_
          refine pm_top (v := nI k4) ek4 ?_
          refine pm_bipush (v := nI 7) hG dX12_pay_73 (by decide) ?_
          refine pm_callV (As := [.int (nI k4), .int (nI 7)]) (rest := [.int (nI 7), .int (nI k4), .ref (B + 54)]) hG hR dX12_pay_75 (lkX12_72 _ rfl) okV_X12_man rfl rfl (m_man (d := 1) (e := 14 * k4 + 117) (by omega) (by omega) (by omega)) rfl rfl hdd (Nat.le_refl _) (Nat.le_refl _) (Nat.le_of_ble_eq_true rfl) (pm_ki (fun v18 σ' cnt' hq => ?_))
          obtain ⟨rfl, rfl, rfl⟩ := hq
          refine pm_gen (fun x19 ex19 => ?_)
          refine pm_iloadn hG dX12_pay_78 rfl ?_
          refine pm_top (v := nI k7) ek7 ?_
          refine pm_iadd hG dX12_pay_79 ?_
          refine pm_callV (As := [.int (nI k4), .int (nI 7), .int (x19 + (nI k7))]) (rest := []) hG hR dX12_pay_80 (lkX12_97 _ rfl) okV_X12_sets rfl rfl (m_sets (d := 1) (e := 14 * k4 + 117) (by omega) (by omega) (by omega)) rfl rfl hdd (Nat.le_refl _) (Nat.le_refl _) (by decide) (pm_kv (fun σ' cnt' hq => ?_))
          obtain ⟨rfl, rfl⟩ := hq
          obtain ⟨n_20, en_20⟩ : ∃ f : Nat → Int32, f = upd n_12 (14 * k4 + 117) (x19 + (nI k7)) := ⟨_, rfl⟩
          rw [← en_20]
          have hnn_20 := KI.w en_20 hnn_12 (okv_f (show kd (14 * k4 + 117) = (0, 0, false) from (kd_P (k := k4) (c := 7) (by omega) (by omega) (by decide))))
          have hrn_20 := NRx.w en_20 hrn_12 (by rw [(show kd (14 * k4 + 117) = (0, 0, false) from (kd_P (k := k4) (c := 7) (by omega) (by omega) (by decide)))])
          have e21 : n_20 0 = nI kc0 := by rw [en_20, pk_un (by omega)]; exact e13
          have e22 : n_20 6 = nI kc6 := by rw [en_20, pk_un (by omega)]; exact e14
          have e23 : n_20 2 = nI k1 := by rw [en_20, pk_un (by omega)]; exact e15
          have e24 : n_20 (14 * k4 + 119) = (-1) := by rw [en_20, pk_un (by omega)]; exact e16
          have e25 : n_20 9 = x10 - (nI k7) := by rw [en_20, pk_un (by omega)]; exact e17
          have e26 : n_20 (14 * k4 + 117) = x19 + (nI k7) := by rw [en_20, pk_us]
          refine pm_aloadn hG dX12_pay_83 rfl ?_
          refine pm_getf hG dX12_pay_84 (flX12_7 _ rfl) rfl rfl ?_
          refine pm_bipush (v := nI 9) hG dX12_pay_87 (by decide) ?_
          refine pm_ialdN hG dX12_pay_89 rfl (by decide) (by omega) ?_
          refine pm_top (v := x10 - (nI k7)) e25 ?_
          exact pm_iret hG hF dX12_pay_90 rfl (Nat.le_refl _) (Nat.le_refl _) ⟨_, rfl, ⟨_, _, _, rfl, hnn_20, hrn_20, e21.trans ekc0.symm, e22.trans ekc6.symm⟩, rfl⟩
        · refine pm_aloadn hG dX12_pay_50 rfl ?_
          refine pm_iconst (v := nI 2) hG dX12_pay_51 (by decide) ?_
          refine pm_callV (As := [.int (nI 2)]) (rest := []) hG hR dX12_pay_52 (lkX12_80 _ rfl) okV_X12_finds rfl rfl (m_finds (d := 1) (by decide) hn hz (by omega)) rfl rfl hdd (Nat.le_refl _) (Nat.le_refl _) (by decide) (pm_ki (fun v27 σ' cnt' hq => ?_))
          obtain ⟨⟨I28, A28, rfl⟩, rfl, fv27⟩ := hq
          exact pm_iret hG hF dX12_pay_55 rfl (Nat.le_refl _) (Nat.le_refl _) ⟨_, rfl, ⟨_, _, _, rfl, hn, hr, ekc0.trans ekc0.symm, ekc6.trans ekc6.symm⟩, rfl⟩
      · refine pm_callV (As := [.int (nI k4)]) (rest := []) hG hR dX12_pay_27 (lkX12_101 _ rfl) okV_X12_lives rfl rfl (m_lives0 (d := 1) (by decide) (by omega) (by omega : 14 * k4 + 119 = 14 * k4 + 119) ek8 (by omega)) rfl rfl hdd (Nat.le_refl _) (Nat.le_refl _) (by decide) (pm_ki (fun v29 σ' cnt' hq => ?_))
        obtain ⟨rfl, rfl, rfl⟩ := hq
        refine pm_ifN_ne (tgt := 39) hG dX12_pay_30 rfl (by omega) (fun q => absurd q (by omega)) (fun _ => ?_)
        refine pm_aloadn hG dX12_pay_33 rfl ?_
        refine pm_iconst (v := nI 3) hG dX12_pay_34 (by decide) ?_
        refine pm_callV (As := [.int (nI 3)]) (rest := []) hG hR dX12_pay_35 (lkX12_80 _ rfl) okV_X12_finds rfl rfl (m_finds (d := 1) (by decide) hn hz (by omega)) rfl rfl hdd (Nat.le_refl _) (Nat.le_refl _) (by decide) (pm_ki (fun v30 σ' cnt' hq => ?_))
        obtain ⟨⟨I31, A31, rfl⟩, rfl, fv30⟩ := hq
        exact pm_iret hG hF dX12_pay_38 rfl (Nat.le_refl _) (Nat.le_refl _) ⟨_, rfl, ⟨_, _, _, rfl, hn, hr, ekc0.trans ekc0.symm, ekc6.trans ekc6.symm⟩, rfl⟩
    · refine pm_ifN_ne (tgt := 25) hG dX12_pay_16 rfl (by omega) (fun q => absurd q (by omega)) (fun _ => ?_)
      refine pm_aloadn hG dX12_pay_19 rfl ?_
      refine pm_iconst (v := nI 1) hG dX12_pay_20 (by decide) ?_
      refine pm_callV (As := [.int (nI 1)]) (rest := []) hG hR dX12_pay_21 (lkX12_80 _ rfl) okV_X12_finds rfl rfl (m_finds (d := 1) (by decide) hn hz (by omega)) rfl rfl hdd (Nat.le_refl _) (Nat.le_refl _) (by decide) (pm_ki (fun v32 σ' cnt' hq => ?_))
      obtain ⟨⟨I33, A33, rfl⟩, rfl, fv32⟩ := hq
      exact pm_iret hG hF dX12_pay_24 rfl (Nat.le_refl _) (Nat.le_refl _) ⟨_, rfl, ⟨_, _, _, rfl, hn, hr, ekc0.trans ekc0.symm, ekc6.trans ekc6.symm⟩, rfl⟩
  · refine pm_ifN_eq (tgt := 19) hG dX12_pay_5 rfl (by omega) (fun _ => ?_) (fun q => absurd q (by omega))
    refine pm_aloadn hG dX12_pay_19 rfl ?_
    refine pm_iconst (v := nI 1) hG dX12_pay_20 (by decide) ?_
    refine pm_callV (As := [.int (nI 1)]) (rest := []) hG hR dX12_pay_21 (lkX12_80 _ rfl) okV_X12_finds rfl rfl (m_finds (d := 1) (by decide) hn hz (by omega)) rfl rfl hdd (Nat.le_refl _) (Nat.le_refl _) (by decide) (pm_ki (fun v34 σ' cnt' hq => ?_))
    obtain ⟨⟨I35, A35, rfl⟩, rfl, fv34⟩ := hq
    exact pm_iret hG hF dX12_pay_24 rfl (Nat.le_refl _) (Nat.le_refl _) ⟨_, rfl, ⟨_, _, _, rfl, hn, hr, ekc0.trans ekc0.symm, ekc6.trans ekc6.symm⟩, rfl⟩

set_option maxRecDepth 100000 in
set_option maxHeartbeats 4000000 in
theorem m_person {d B cnt p0 t0 : Nat} {σ : pm_S} {I : Nat → Int32} {A : Nat → Nat → Int32} {n k z : Nat → Int32} {ac wt pl im : Int32} {za zb zc zd : Int32} (hdd : 3 ≤ d) (hn : KI n) (hr : NR n) (hz : SZ z)  : pm_met mX12_person d 0 0 B [.ref (B + 54), .int za, .int zb, .int zc, .int zd] cnt (pm_mid σ (md_L B I A n k z ac wt pl (nI p0) (nI t0) im)) (pm_Qi (fun v σ' cnt' => (∃ (I' : Nat → Int32) (A' : Nat → Nat → Int32) (n' : Nat → Int32), σ' = pm_mid σ (md_L B I' A' n' k z ac wt pl (nI p0) (nI t0) im) ∧ KI n' ∧ NR n' ∧ n' 0 = n 0 ∧ n' 6 = n 6) ∧ cnt = cnt')) := by
  obtain ⟨kc0, hkc0, ekc0⟩ := KI.nat hn (show kd 0 = (1, 11, true) by decide)
  obtain ⟨kc6, hkc6, ekc6⟩ := KI.nat hn (show kd 6 = (1, 7, false) by decide)
  refine pm_enter 3 (by decide) (Nat.le_of_ble_eq_true rfl) rfl (fun G hG hR hF => ?_)
  refine pm_iloadn hG dX12_person_0 rfl ?_
  refine pm_iconst (v := nI 0) hG dX12_person_1 (by decide) ?_
  refine pm_iconst (v := nI 1) hG dX12_person_2 (by decide) ?_
  refine pm_callS (As := [.int za, .int (nI 0), .int (nI 1)]) (rest := []) hG hR dX12_person_3 (lkX12_68 _ rfl) okS_X12_in (m_in (d := 2)) rfl rfl hdd (Nat.le_refl _) (Nat.le_refl _) (by decide) (pm_ki (fun v1 σ' cnt' hq => ?_))
  obtain ⟨hq, rfl, rfl⟩ := hq
  rcases hq with ⟨rfl, ac2, bc2⟩ | ⟨rfl, c2⟩
  · obtain ⟨k3, hk3, ek3⟩ := in_nat (by omega) (by omega) ac2 bc2
    refine pm_ifN_eq (tgt := 73) hG dX12_person_6 rfl (by omega) (fun q => absurd q (by omega)) (fun _ => ?_)
    refine pm_iloadn hG dX12_person_9 rfl ?_
    refine pm_sipush (v := (-20000)) hG dX12_person_10 (by decide) ?_
    refine pm_aloadn hG dX12_person_13 rfl ?_
    refine pm_getf hG dX12_person_14 (flX12_7 _ rfl) rfl rfl ?_
    refine pm_bipush (v := nI 8) hG dX12_person_17 (by decide) ?_
    refine pm_ialdN hG dX12_person_19 rfl (by decide) (by omega) ?_
    obtain ⟨k4, hk4, ek4⟩ := KI.nat hn (show kd 8 = (1, 2001, false) by decide)
    refine pm_top (v := nI k4) ek4 ?_
    refine pm_callS (As := [.int zb, .int (-20000), .int (nI k4)]) (rest := []) hG hR dX12_person_20 (lkX12_68 _ rfl) okS_X12_in (m_in (d := 2)) rfl rfl hdd (Nat.le_refl _) (Nat.le_refl _) (by decide) (pm_ki (fun v5 σ' cnt' hq => ?_))
    obtain ⟨hq, rfl, rfl⟩ := hq
    rcases hq with ⟨rfl, ac6, bc6⟩ | ⟨rfl, c6⟩
    · refine pm_ifN_eq (tgt := 73) hG dX12_person_23 rfl (by omega) (fun q => absurd q (by omega)) (fun _ => ?_)
      refine pm_iloadn hG dX12_person_26 rfl ?_
      refine pm_if_lt (tgt := 73) hG dX12_person_27 rfl (fun c7 => ?_) (fun c7 => ?_)
      · refine pm_iconst (v := nI 0) hG dX12_person_73 (by decide) ?_
        refine pm_istoreXi (loc' := [some (.ref (B + 54)), some (.int za), some (.int zb), some (.int zc), some (.int zd), some (.int (nI 0)), none, none]) hG dX12_person_74 (by decide) (pm_c1b rfl) rfl ?_
        refine pm_iloadi hG dX12_person_76 rfl ?_
        refine pm_ifN_ne (tgt := 87) hG dX12_person_78 rfl (by omega) (fun q => absurd q (by omega)) (fun _ => ?_)
        refine pm_aloadn hG dX12_person_81 rfl ?_
        refine pm_iconst (v := nI 1) hG dX12_person_82 (by decide) ?_
        refine pm_callV (As := [.int (nI 1)]) (rest := []) hG hR dX12_person_83 (lkX12_80 _ rfl) okV_X12_finds rfl rfl (m_finds (d := 2) (by decide) hn hz (by omega)) rfl rfl hdd (Nat.le_refl _) (Nat.le_refl _) (by decide) (pm_ki (fun v8 σ' cnt' hq => ?_))
        obtain ⟨⟨I9, A9, rfl⟩, rfl, fv8⟩ := hq
        exact pm_iret hG hF dX12_person_86 rfl (Nat.le_refl _) (Nat.le_refl _) ⟨_, rfl, ⟨_, _, _, rfl, hn, hr, ekc0.trans ekc0.symm, ekc6.trans ekc6.symm⟩, rfl⟩
      · obtain ⟨k10, hk10, ek10⟩ := nI_of c7
        refine pm_aloadn hG dX12_person_30 rfl ?_
        refine pm_iloadn hG dX12_person_31 rfl ?_
        refine pm_top (v := nI k10) ek10 ?_
        refine pm_bipush (v := nI 100) hG dX12_person_32 (by decide) ?_
        refine pm_idivN hG dX12_person_34 (by omega) (by decide) (by decide) ?_
        refine pm_iconst (v := nI 1) hG dX12_person_35 (by decide) ?_
        refine pm_isub hG dX12_person_36 ?_
        refine pm_iconst (v := nI 1) hG dX12_person_37 (by decide) ?_
        refine pm_iloadn hG dX12_person_38 rfl ?_
        refine pm_callV (As := [.int ((nI ((k10 / 100))) - (nI 1)), .int (nI 1), .int zb]) (rest := []) hG hR dX12_person_39 (lkX12_94 _ rfl) okV_X12_isParent rfl rfl (m_isParent (d := 2) (by decide) hn hz) rfl rfl hdd (Nat.le_refl _) (Nat.le_refl _) (by decide) (pm_ki (fun v11 σ' cnt' hq => ?_))
        obtain ⟨rfl, rfl, hq⟩ := hq
        rcases hq with rfl | ⟨rfl, ek12 | ⟨k12, hk12, ek12⟩⟩
        · refine pm_ifN_eq (tgt := 73) hG dX12_person_42 rfl (by omega) (fun _ => ?_) (fun q => absurd q (by omega))
          refine pm_iconst (v := nI 0) hG dX12_person_73 (by decide) ?_
          refine pm_istoreXi (loc' := [some (.ref (B + 54)), some (.int za), some (.int zb), some (.int zc), some (.int zd), some (.int (nI 0)), none, none]) hG dX12_person_74 (by decide) (pm_c1b rfl) rfl ?_
          refine pm_iloadi hG dX12_person_76 rfl ?_
          refine pm_ifN_ne (tgt := 87) hG dX12_person_78 rfl (by omega) (fun q => absurd q (by omega)) (fun _ => ?_)
          refine pm_aloadn hG dX12_person_81 rfl ?_
          refine pm_iconst (v := nI 1) hG dX12_person_82 (by decide) ?_
          refine pm_callV (As := [.int (nI 1)]) (rest := []) hG hR dX12_person_83 (lkX12_80 _ rfl) okV_X12_finds rfl rfl (m_finds (d := 2) (by decide) hn hz (by omega)) rfl rfl hdd (Nat.le_refl _) (Nat.le_refl _) (by decide) (pm_ki (fun v13 σ' cnt' hq => ?_))
          obtain ⟨⟨I14, A14, rfl⟩, rfl, fv13⟩ := hq
          exact pm_iret hG hF dX12_person_86 rfl (Nat.le_refl _) (Nat.le_refl _) ⟨_, rfl, ⟨_, _, _, rfl, hn, hr, ekc0.trans ekc0.symm, ekc6.trans ekc6.symm⟩, rfl⟩
        · refine pm_ifN_eq (tgt := 73) hG dX12_person_42 rfl (by omega) (fun q => absurd q (by omega)) (fun _ => ?_)
          refine pm_aloadn hG dX12_person_45 rfl ?_
          refine pm_iloadn hG dX12_person_46 rfl ?_
          refine pm_top (v := nI k10) ek10 ?_
          refine pm_bipush (v := nI 100) hG dX12_person_47 (by decide) ?_
          refine pm_iremM hG dX12_person_49 (by omega) (by decide) (by decide) ?_
          refine pm_iconst (v := nI 1) hG dX12_person_50 (by decide) ?_
          refine pm_isub hG dX12_person_51 ?_
          refine pm_iconst (v := nI 0) hG dX12_person_52 (by decide) ?_
          refine pm_iloadn hG dX12_person_53 rfl ?_
          refine pm_callV (As := [.int ((nI ((k10 % 100))) - (nI 1)), .int (nI 0), .int zb]) (rest := []) hG hR dX12_person_54 (lkX12_94 _ rfl) okV_X12_isParent rfl rfl (m_isParent (d := 2) (by decide) hn hz) rfl rfl hdd (Nat.le_refl _) (Nat.le_refl _) (by decide) (pm_ki (fun v15 σ' cnt' hq => ?_))
          obtain ⟨rfl, rfl, hq⟩ := hq
          rcases hq with rfl | ⟨rfl, ek16 | ⟨k16, hk16, ek16⟩⟩
          · refine pm_ifN_eq (tgt := 73) hG dX12_person_57 rfl (by omega) (fun _ => ?_) (fun q => absurd q (by omega))
            refine pm_iconst (v := nI 0) hG dX12_person_73 (by decide) ?_
            refine pm_istoreXi (loc' := [some (.ref (B + 54)), some (.int za), some (.int zb), some (.int zc), some (.int zd), some (.int (nI 0)), none, none]) hG dX12_person_74 (by decide) (pm_c1b rfl) rfl ?_
            refine pm_iloadi hG dX12_person_76 rfl ?_
            refine pm_ifN_ne (tgt := 87) hG dX12_person_78 rfl (by omega) (fun q => absurd q (by omega)) (fun _ => ?_)
            refine pm_aloadn hG dX12_person_81 rfl ?_
            refine pm_iconst (v := nI 1) hG dX12_person_82 (by decide) ?_
            refine pm_callV (As := [.int (nI 1)]) (rest := []) hG hR dX12_person_83 (lkX12_80 _ rfl) okV_X12_finds rfl rfl (m_finds (d := 2) (by decide) hn hz (by omega)) rfl rfl hdd (Nat.le_refl _) (Nat.le_refl _) (by decide) (pm_ki (fun v17 σ' cnt' hq => ?_))
            obtain ⟨⟨I18, A18, rfl⟩, rfl, fv17⟩ := hq
            exact pm_iret hG hF dX12_person_86 rfl (Nat.le_refl _) (Nat.le_refl _) ⟨_, rfl, ⟨_, _, _, rfl, hn, hr, ekc0.trans ekc0.symm, ekc6.trans ekc6.symm⟩, rfl⟩
          · refine pm_ifN_eq (tgt := 73) hG dX12_person_57 rfl (by omega) (fun q => absurd q (by omega)) (fun _ => ?_)
            refine pm_aloadn hG dX12_person_60 rfl ?_
            refine pm_iloadi hG dX12_person_61 rfl ?_
            refine pm_callV (As := [.int zd]) (rest := []) hG hR dX12_person_63 (lkX12_84 _ rfl) okV_X12_isTown rfl rfl (m_isTown (d := 2) (by decide) ekc0 (by omega)) rfl rfl hdd (Nat.le_refl _) (Nat.le_refl _) (by decide) (pm_ki (fun v19 σ' cnt' hq => ?_))
            obtain ⟨hq, rfl, rfl⟩ := hq
            rcases hq with ⟨rfl, k21, hk21, ek21⟩ | ⟨rfl, ntk21⟩
            · refine pm_ifN_eq (tgt := 73) hG dX12_person_66 rfl (by omega) (fun q => absurd q (by omega)) (fun _ => ?_)
              refine pm_iconst (v := nI 1) hG dX12_person_69 (by decide) ?_
              refine pm_goto (tgt := 74) hG dX12_person_70 rfl ?_
              refine pm_istoreXi (loc' := [some (.ref (B + 54)), some (.int za), some (.int zb), some (.int zc), some (.int zd), some (.int (nI 1)), none, none]) hG dX12_person_74 (by decide) (pm_c1b rfl) rfl ?_
              refine pm_iloadi hG dX12_person_76 rfl ?_
              refine pm_ifN_ne (tgt := 87) hG dX12_person_78 rfl (by omega) (fun _ => ?_) (fun q => absurd q (by omega))
              refine pm_aloadn hG dX12_person_87 rfl ?_
              refine pm_getf hG dX12_person_88 (flX12_7 _ rfl) rfl rfl ?_
              refine pm_iconst (v := nI 2) hG dX12_person_91 (by decide) ?_
              refine pm_ialdN hG dX12_person_92 rfl (by decide) (by omega) ?_
              obtain ⟨k22, hk22, ek22⟩ := KI.nat hn (show kd 2 = (1, 21, true) by decide)
              refine pm_top (v := nI k22) ek22 ?_
              refine pm_istoreXi (loc' := [some (.ref (B + 54)), some (.int za), some (.int zb), some (.int zc), some (.int zd), some (.int (nI 1)), some (.int (nI k22)), none]) hG dX12_person_93 (by decide) (pm_c1b rfl) rfl ?_
              refine pm_iloadi hG dX12_person_95 rfl ?_
              refine pm_bipush (v := nI 20) hG dX12_person_97 (by decide) ?_
              refine pm_icmpN_ne (tgt := 108) hG dX12_person_99 rfl (by omega) (by omega) (fun c23 => ?_) (fun c23 => ?_)
              · refine pm_aloadn hG dX12_person_108 rfl ?_
                refine pm_getf hG dX12_person_109 (flX12_7 _ rfl) rfl rfl ?_
                refine pm_iconst (v := nI 2) hG dX12_person_112 (by decide) ?_
                refine pm_dup2 hG dX12_person_113 rfl rfl ?_
                refine pm_ialdN hG dX12_person_114 rfl (by decide) (by omega) ?_
                refine pm_top (v := nI k22) ek22 ?_
                refine pm_iconst (v := nI 1) hG dX12_person_115 (by decide) ?_
                refine pm_iaddN (c := k22 + 1) hG dX12_person_116 (by omega) ?_
                refine pm_iastN hG dX12_person_117 rfl (by decide) (by omega) ?_
                refine mdn_now (fun n_24 en_24 => ?_)
                have hnn_24 := KI.w en_24 hn (okv_n (show kd 2 = (1, 21, true) by decide) (by omega))
                have hrn_24 := NRx.pers en_24 hr ekc0 (by omega) ek22 (by omega)
                have e25 : n_24 0 = nI kc0 := by rw [en_24, pk_un (by omega)]; exact ekc0
                have e26 : n_24 6 = nI kc6 := by rw [en_24, pk_un (by omega)]; exact ekc6
                have e27 : n_24 8 = nI k4 := by rw [en_24, pk_un (by omega)]; exact ek4
                have e28 : n_24 2 = nI (k22 + 1) := by rw [en_24, pk_us]
                refine pm_iconst (v := nI 0) hG dX12_person_118 (by decide) ?_
                refine pm_istoreXi (loc' := [some (.ref (B + 54)), some (.int za), some (.int zb), some (.int zc), some (.int zd), some (.int (nI 1)), some (.int (nI k22)), some (.int (nI 0))]) hG dX12_person_119 (by decide) (pm_c1b rfl) rfl ?_
                refine pm_iloadi hG dX12_person_121 rfl ?_
                refine pm_bipush (v := nI 14) hG dX12_person_123 (by decide) ?_
                refine pm_icmpN_ge (tgt := 143) hG dX12_person_125 rfl (by omega) (by omega) (fun q => absurd q (by omega)) (fun _ => ?_)
                refine pm_aloadn hG dX12_person_128 rfl ?_
                refine pm_iloadi hG dX12_person_129 rfl ?_
                refine pm_iloadi hG dX12_person_131 rfl ?_
                refine pm_iconst (v := nI 0) hG dX12_person_133 (by decide) ?_
                refine pm_callV (As := [.int (nI k22), .int (nI 0), .int (nI 0)]) (rest := []) hG hR dX12_person_134 (lkX12_97 _ rfl) okV_X12_sets rfl rfl (m_sets (d := 2) (e := 14 * k22 + 110) (by omega) (by omega) (by omega)) rfl rfl hdd (Nat.le_refl _) (Nat.le_refl _) (by decide) (pm_kv (fun σ' cnt' hq => ?_))
                obtain ⟨rfl, rfl⟩ := hq
                obtain ⟨n_29, en_29⟩ : ∃ f : Nat → Int32, f = upd n_24 (14 * k22 + 110) (nI 0) := ⟨_, rfl⟩
                rw [← en_29]
                have hnn_29 := KI.w en_29 hnn_24 (okv_f (show kd (14 * k22 + 110) = (0, 0, false) from (kd_P (k := k22) (c := 0) (by omega) (by omega) (by decide))))
                have hrn_29 := NRx.w en_29 hrn_24 (by rw [(show kd (14 * k22 + 110) = (0, 0, false) from (kd_P (k := k22) (c := 0) (by omega) (by omega) (by decide)))])
                have e30 : n_29 0 = nI kc0 := by rw [en_29, pk_un (by omega)]; exact e25
                have e31 : n_29 6 = nI kc6 := by rw [en_29, pk_un (by omega)]; exact e26
                have e32 : n_29 8 = nI k4 := by rw [en_29, pk_un (by omega)]; exact e27
                have e33 : n_29 2 = nI (k22 + 1) := by rw [en_29, pk_un (by omega)]; exact e28
                have e34 : n_29 (14 * k22 + 110) = nI 0 := by rw [en_29, pk_us]
                refine pm_iincX (v := nI 1) (loc' := [some (.ref (B + 54)), some (.int za), some (.int zb), some (.int zc), some (.int zd), some (.int (nI 1)), some (.int (nI k22)), some (.int (nI 1))]) hG dX12_person_137 rfl (nI_1 _) (by decide) (pm_c1b rfl) rfl ?_
                refine pm_goto (tgt := 121) hG dX12_person_140 rfl ?_
                refine pm_iloadi hG dX12_person_121 rfl ?_
                refine pm_bipush (v := nI 14) hG dX12_person_123 (by decide) ?_
                refine pm_icmpN_ge (tgt := 143) hG dX12_person_125 rfl (by omega) (by omega) (fun q => absurd q (by omega)) (fun _ => ?_)
                refine pm_aloadn hG dX12_person_128 rfl ?_
                refine pm_iloadi hG dX12_person_129 rfl ?_
                refine pm_iloadi hG dX12_person_131 rfl ?_
                refine pm_iconst (v := nI 0) hG dX12_person_133 (by decide) ?_
                refine pm_callV (As := [.int (nI k22), .int (nI 1), .int (nI 0)]) (rest := []) hG hR dX12_person_134 (lkX12_97 _ rfl) okV_X12_sets rfl rfl (m_sets (d := 2) (e := 14 * k22 + 111) (by omega) (by omega) (by omega)) rfl rfl hdd (Nat.le_refl _) (Nat.le_refl _) (by decide) (pm_kv (fun σ' cnt' hq => ?_))
                obtain ⟨rfl, rfl⟩ := hq
                obtain ⟨n_35, en_35⟩ : ∃ f : Nat → Int32, f = upd n_29 (14 * k22 + 111) (nI 0) := ⟨_, rfl⟩
                rw [← en_35]
                have hnn_35 := KI.w en_35 hnn_29 (okv_f (show kd (14 * k22 + 111) = (0, 0, false) from (kd_P (k := k22) (c := 1) (by omega) (by omega) (by decide))))
                have hrn_35 := NRx.w en_35 hrn_29 (by rw [(show kd (14 * k22 + 111) = (0, 0, false) from (kd_P (k := k22) (c := 1) (by omega) (by omega) (by decide)))])
                have e36 : n_35 0 = nI kc0 := by rw [en_35, pk_un (by omega)]; exact e30
                have e37 : n_35 6 = nI kc6 := by rw [en_35, pk_un (by omega)]; exact e31
                have e38 : n_35 8 = nI k4 := by rw [en_35, pk_un (by omega)]; exact e32
                have e39 : n_35 2 = nI (k22 + 1) := by rw [en_35, pk_un (by omega)]; exact e33
                have e40 : n_35 (14 * k22 + 111) = nI 0 := by rw [en_35, pk_us]
                refine pm_iincX (v := nI 2) (loc' := [some (.ref (B + 54)), some (.int za), some (.int zb), some (.int zc), some (.int zd), some (.int (nI 1)), some (.int (nI k22)), some (.int (nI 2))]) hG dX12_person_137 rfl (nI_1 _) (by decide) (pm_c1b rfl) rfl ?_
                refine pm_goto (tgt := 121) hG dX12_person_140 rfl ?_
                refine pm_iloadi hG dX12_person_121 rfl ?_
                refine pm_bipush (v := nI 14) hG dX12_person_123 (by decide) ?_
                refine pm_icmpN_ge (tgt := 143) hG dX12_person_125 rfl (by omega) (by omega) (fun q => absurd q (by omega)) (fun _ => ?_)
                refine pm_aloadn hG dX12_person_128 rfl ?_
                refine pm_iloadi hG dX12_person_129 rfl ?_
                refine pm_iloadi hG dX12_person_131 rfl ?_
                refine pm_iconst (v := nI 0) hG dX12_person_133 (by decide) ?_
                refine pm_callV (As := [.int (nI k22), .int (nI 2), .int (nI 0)]) (rest := []) hG hR dX12_person_134 (lkX12_97 _ rfl) okV_X12_sets rfl rfl (m_sets (d := 2) (e := 14 * k22 + 112) (by omega) (by omega) (by omega)) rfl rfl hdd (Nat.le_refl _) (Nat.le_refl _) (by decide) (pm_kv (fun σ' cnt' hq => ?_))
                obtain ⟨rfl, rfl⟩ := hq
                obtain ⟨n_41, en_41⟩ : ∃ f : Nat → Int32, f = upd n_35 (14 * k22 + 112) (nI 0) := ⟨_, rfl⟩
                rw [← en_41]
                have hnn_41 := KI.w en_41 hnn_35 (okv_o (show kd (14 * k22 + 112) = (2, 20, false) from (kd_P (k := k22) (c := 2) (by omega) (by omega) (by decide))) (by omega))
                have hrn_41 := NRx.w en_41 hrn_35 (by rw [(show kd (14 * k22 + 112) = (2, 20, false) from (kd_P (k := k22) (c := 2) (by omega) (by omega) (by decide)))])
                have e42 : n_41 0 = nI kc0 := by rw [en_41, pk_un (by omega)]; exact e36
                have e43 : n_41 6 = nI kc6 := by rw [en_41, pk_un (by omega)]; exact e37
                have e44 : n_41 8 = nI k4 := by rw [en_41, pk_un (by omega)]; exact e38
                have e45 : n_41 2 = nI (k22 + 1) := by rw [en_41, pk_un (by omega)]; exact e39
                have e46 : n_41 (14 * k22 + 112) = nI 0 := by rw [en_41, pk_us]
                refine pm_iincX (v := nI 3) (loc' := [some (.ref (B + 54)), some (.int za), some (.int zb), some (.int zc), some (.int zd), some (.int (nI 1)), some (.int (nI k22)), some (.int (nI 3))]) hG dX12_person_137 rfl (nI_1 _) (by decide) (pm_c1b rfl) rfl ?_
                refine pm_goto (tgt := 121) hG dX12_person_140 rfl ?_
                refine pm_iloadi hG dX12_person_121 rfl ?_
                refine pm_bipush (v := nI 14) hG dX12_person_123 (by decide) ?_
                refine pm_icmpN_ge (tgt := 143) hG dX12_person_125 rfl (by omega) (by omega) (fun q => absurd q (by omega)) (fun _ => ?_)
                refine pm_aloadn hG dX12_person_128 rfl ?_
                refine pm_iloadi hG dX12_person_129 rfl ?_
                refine pm_iloadi hG dX12_person_131 rfl ?_
                refine pm_iconst (v := nI 0) hG dX12_person_133 (by decide) ?_
                refine pm_callV (As := [.int (nI k22), .int (nI 3), .int (nI 0)]) (rest := []) hG hR dX12_person_134 (lkX12_97 _ rfl) okV_X12_sets rfl rfl (m_sets (d := 2) (e := 14 * k22 + 113) (by omega) (by omega) (by omega)) rfl rfl hdd (Nat.le_refl _) (Nat.le_refl _) (by decide) (pm_kv (fun σ' cnt' hq => ?_))
                obtain ⟨rfl, rfl⟩ := hq
                obtain ⟨n_47, en_47⟩ : ∃ f : Nat → Int32, f = upd n_41 (14 * k22 + 113) (nI 0) := ⟨_, rfl⟩
                rw [← en_47]
                have hnn_47 := KI.w en_47 hnn_41 (okv_o (show kd (14 * k22 + 113) = (2, 20, false) from (kd_P (k := k22) (c := 3) (by omega) (by omega) (by decide))) (by omega))
                have hrn_47 := NRx.w en_47 hrn_41 (by rw [(show kd (14 * k22 + 113) = (2, 20, false) from (kd_P (k := k22) (c := 3) (by omega) (by omega) (by decide)))])
                have e48 : n_47 0 = nI kc0 := by rw [en_47, pk_un (by omega)]; exact e42
                have e49 : n_47 6 = nI kc6 := by rw [en_47, pk_un (by omega)]; exact e43
                have e50 : n_47 8 = nI k4 := by rw [en_47, pk_un (by omega)]; exact e44
                have e51 : n_47 2 = nI (k22 + 1) := by rw [en_47, pk_un (by omega)]; exact e45
                have e52 : n_47 (14 * k22 + 113) = nI 0 := by rw [en_47, pk_us]
                refine pm_iincX (v := nI 4) (loc' := [some (.ref (B + 54)), some (.int za), some (.int zb), some (.int zc), some (.int zd), some (.int (nI 1)), some (.int (nI k22)), some (.int (nI 4))]) hG dX12_person_137 rfl (nI_1 _) (by decide) (pm_c1b rfl) rfl ?_
                refine pm_goto (tgt := 121) hG dX12_person_140 rfl ?_
                refine pm_iloadi hG dX12_person_121 rfl ?_
                refine pm_bipush (v := nI 14) hG dX12_person_123 (by decide) ?_
                refine pm_icmpN_ge (tgt := 143) hG dX12_person_125 rfl (by omega) (by omega) (fun q => absurd q (by omega)) (fun _ => ?_)
                refine pm_aloadn hG dX12_person_128 rfl ?_
                refine pm_iloadi hG dX12_person_129 rfl ?_
                refine pm_iloadi hG dX12_person_131 rfl ?_
                refine pm_iconst (v := nI 0) hG dX12_person_133 (by decide) ?_
                refine pm_callV (As := [.int (nI k22), .int (nI 4), .int (nI 0)]) (rest := []) hG hR dX12_person_134 (lkX12_97 _ rfl) okV_X12_sets rfl rfl (m_sets (d := 2) (e := 14 * k22 + 114) (by omega) (by omega) (by omega)) rfl rfl hdd (Nat.le_refl _) (Nat.le_refl _) (by decide) (pm_kv (fun σ' cnt' hq => ?_))
                obtain ⟨rfl, rfl⟩ := hq
                obtain ⟨n_53, en_53⟩ : ∃ f : Nat → Int32, f = upd n_47 (14 * k22 + 114) (nI 0) := ⟨_, rfl⟩
                rw [← en_53]
                have hnn_53 := KI.w en_53 hnn_47 (okv_o (show kd (14 * k22 + 114) = (2, 10, false) from (kd_P (k := k22) (c := 4) (by omega) (by omega) (by decide))) (by omega))
                have hrn_53 := NRx.w en_53 hrn_47 (by rw [(show kd (14 * k22 + 114) = (2, 10, false) from (kd_P (k := k22) (c := 4) (by omega) (by omega) (by decide)))])
                have e54 : n_53 0 = nI kc0 := by rw [en_53, pk_un (by omega)]; exact e48
                have e55 : n_53 6 = nI kc6 := by rw [en_53, pk_un (by omega)]; exact e49
                have e56 : n_53 8 = nI k4 := by rw [en_53, pk_un (by omega)]; exact e50
                have e57 : n_53 2 = nI (k22 + 1) := by rw [en_53, pk_un (by omega)]; exact e51
                have e58 : n_53 (14 * k22 + 114) = nI 0 := by rw [en_53, pk_us]
                refine pm_iincX (v := nI 5) (loc' := [some (.ref (B + 54)), some (.int za), some (.int zb), some (.int zc), some (.int zd), some (.int (nI 1)), some (.int (nI k22)), some (.int (nI 5))]) hG dX12_person_137 rfl (nI_1 _) (by decide) (pm_c1b rfl) rfl ?_
                refine pm_goto (tgt := 121) hG dX12_person_140 rfl ?_
                refine pm_iloadi hG dX12_person_121 rfl ?_
                refine pm_bipush (v := nI 14) hG dX12_person_123 (by decide) ?_
                refine pm_icmpN_ge (tgt := 143) hG dX12_person_125 rfl (by omega) (by omega) (fun q => absurd q (by omega)) (fun _ => ?_)
                refine pm_aloadn hG dX12_person_128 rfl ?_
                refine pm_iloadi hG dX12_person_129 rfl ?_
                refine pm_iloadi hG dX12_person_131 rfl ?_
                refine pm_iconst (v := nI 0) hG dX12_person_133 (by decide) ?_
                refine pm_callV (As := [.int (nI k22), .int (nI 5), .int (nI 0)]) (rest := []) hG hR dX12_person_134 (lkX12_97 _ rfl) okV_X12_sets rfl rfl (m_sets (d := 2) (e := 14 * k22 + 115) (by omega) (by omega) (by omega)) rfl rfl hdd (Nat.le_refl _) (Nat.le_refl _) (by decide) (pm_kv (fun σ' cnt' hq => ?_))
                obtain ⟨rfl, rfl⟩ := hq
                obtain ⟨n_59, en_59⟩ : ∃ f : Nat → Int32, f = upd n_53 (14 * k22 + 115) (nI 0) := ⟨_, rfl⟩
                rw [← en_59]
                have hnn_59 := KI.w en_59 hnn_53 (okv_n (show kd (14 * k22 + 115) = (1, 10, false) from (kd_P (k := k22) (c := 5) (by omega) (by omega) (by decide))) (by omega))
                have hrn_59 := NRx.w en_59 hrn_53 (by rw [(show kd (14 * k22 + 115) = (1, 10, false) from (kd_P (k := k22) (c := 5) (by omega) (by omega) (by decide)))])
                have e60 : n_59 0 = nI kc0 := by rw [en_59, pk_un (by omega)]; exact e54
                have e61 : n_59 6 = nI kc6 := by rw [en_59, pk_un (by omega)]; exact e55
                have e62 : n_59 8 = nI k4 := by rw [en_59, pk_un (by omega)]; exact e56
                have e63 : n_59 2 = nI (k22 + 1) := by rw [en_59, pk_un (by omega)]; exact e57
                have e64 : n_59 (14 * k22 + 115) = nI 0 := by rw [en_59, pk_us]
                refine pm_iincX (v := nI 6) (loc' := [some (.ref (B + 54)), some (.int za), some (.int zb), some (.int zc), some (.int zd), some (.int (nI 1)), some (.int (nI k22)), some (.int (nI 6))]) hG dX12_person_137 rfl (nI_1 _) (by decide) (pm_c1b rfl) rfl ?_
                refine pm_goto (tgt := 121) hG dX12_person_140 rfl ?_
                refine pm_iloadi hG dX12_person_121 rfl ?_
                refine pm_bipush (v := nI 14) hG dX12_person_123 (by decide) ?_
                refine pm_icmpN_ge (tgt := 143) hG dX12_person_125 rfl (by omega) (by omega) (fun q => absurd q (by omega)) (fun _ => ?_)
                refine pm_aloadn hG dX12_person_128 rfl ?_
                refine pm_iloadi hG dX12_person_129 rfl ?_
                refine pm_iloadi hG dX12_person_131 rfl ?_
                refine pm_iconst (v := nI 0) hG dX12_person_133 (by decide) ?_
                refine pm_callV (As := [.int (nI k22), .int (nI 6), .int (nI 0)]) (rest := []) hG hR dX12_person_134 (lkX12_97 _ rfl) okV_X12_sets rfl rfl (m_sets (d := 2) (e := 14 * k22 + 116) (by omega) (by omega) (by omega)) rfl rfl hdd (Nat.le_refl _) (Nat.le_refl _) (by decide) (pm_kv (fun σ' cnt' hq => ?_))
                obtain ⟨rfl, rfl⟩ := hq
                obtain ⟨n_65, en_65⟩ : ∃ f : Nat → Int32, f = upd n_59 (14 * k22 + 116) (nI 0) := ⟨_, rfl⟩
                rw [← en_65]
                have hnn_65 := KI.w en_65 hnn_59 (okv_f (show kd (14 * k22 + 116) = (0, 0, false) from (kd_P (k := k22) (c := 6) (by omega) (by omega) (by decide))))
                have hrn_65 := NRx.w en_65 hrn_59 (by rw [(show kd (14 * k22 + 116) = (0, 0, false) from (kd_P (k := k22) (c := 6) (by omega) (by omega) (by decide)))])
                have e66 : n_65 0 = nI kc0 := by rw [en_65, pk_un (by omega)]; exact e60
                have e67 : n_65 6 = nI kc6 := by rw [en_65, pk_un (by omega)]; exact e61
                have e68 : n_65 8 = nI k4 := by rw [en_65, pk_un (by omega)]; exact e62
                have e69 : n_65 2 = nI (k22 + 1) := by rw [en_65, pk_un (by omega)]; exact e63
                have e70 : n_65 (14 * k22 + 116) = nI 0 := by rw [en_65, pk_us]
                refine pm_iincX (v := nI 7) (loc' := [some (.ref (B + 54)), some (.int za), some (.int zb), some (.int zc), some (.int zd), some (.int (nI 1)), some (.int (nI k22)), some (.int (nI 7))]) hG dX12_person_137 rfl (nI_1 _) (by decide) (pm_c1b rfl) rfl ?_
                refine pm_goto (tgt := 121) hG dX12_person_140 rfl ?_
                refine pm_iloadi hG dX12_person_121 rfl ?_
                refine pm_bipush (v := nI 14) hG dX12_person_123 (by decide) ?_
                refine pm_icmpN_ge (tgt := 143) hG dX12_person_125 rfl (by omega) (by omega) (fun q => absurd q (by omega)) (fun _ => ?_)
                refine pm_aloadn hG dX12_person_128 rfl ?_
                refine pm_iloadi hG dX12_person_129 rfl ?_
                refine pm_iloadi hG dX12_person_131 rfl ?_
                refine pm_iconst (v := nI 0) hG dX12_person_133 (by decide) ?_
                refine pm_callV (As := [.int (nI k22), .int (nI 7), .int (nI 0)]) (rest := []) hG hR dX12_person_134 (lkX12_97 _ rfl) okV_X12_sets rfl rfl (m_sets (d := 2) (e := 14 * k22 + 117) (by omega) (by omega) (by omega)) rfl rfl hdd (Nat.le_refl _) (Nat.le_refl _) (by decide) (pm_kv (fun σ' cnt' hq => ?_))
                obtain ⟨rfl, rfl⟩ := hq
                obtain ⟨n_71, en_71⟩ : ∃ f : Nat → Int32, f = upd n_65 (14 * k22 + 117) (nI 0) := ⟨_, rfl⟩
                rw [← en_71]
                have hnn_71 := KI.w en_71 hnn_65 (okv_f (show kd (14 * k22 + 117) = (0, 0, false) from (kd_P (k := k22) (c := 7) (by omega) (by omega) (by decide))))
                have hrn_71 := NRx.w en_71 hrn_65 (by rw [(show kd (14 * k22 + 117) = (0, 0, false) from (kd_P (k := k22) (c := 7) (by omega) (by omega) (by decide)))])
                have e72 : n_71 0 = nI kc0 := by rw [en_71, pk_un (by omega)]; exact e66
                have e73 : n_71 6 = nI kc6 := by rw [en_71, pk_un (by omega)]; exact e67
                have e74 : n_71 8 = nI k4 := by rw [en_71, pk_un (by omega)]; exact e68
                have e75 : n_71 2 = nI (k22 + 1) := by rw [en_71, pk_un (by omega)]; exact e69
                have e76 : n_71 (14 * k22 + 117) = nI 0 := by rw [en_71, pk_us]
                refine pm_iincX (v := nI 8) (loc' := [some (.ref (B + 54)), some (.int za), some (.int zb), some (.int zc), some (.int zd), some (.int (nI 1)), some (.int (nI k22)), some (.int (nI 8))]) hG dX12_person_137 rfl (nI_1 _) (by decide) (pm_c1b rfl) rfl ?_
                refine pm_goto (tgt := 121) hG dX12_person_140 rfl ?_
                refine pm_iloadi hG dX12_person_121 rfl ?_
                refine pm_bipush (v := nI 14) hG dX12_person_123 (by decide) ?_
                refine pm_icmpN_ge (tgt := 143) hG dX12_person_125 rfl (by omega) (by omega) (fun q => absurd q (by omega)) (fun _ => ?_)
                refine pm_aloadn hG dX12_person_128 rfl ?_
                refine pm_iloadi hG dX12_person_129 rfl ?_
                refine pm_iloadi hG dX12_person_131 rfl ?_
                refine pm_iconst (v := nI 0) hG dX12_person_133 (by decide) ?_
                refine pm_callV (As := [.int (nI k22), .int (nI 8), .int (nI 0)]) (rest := []) hG hR dX12_person_134 (lkX12_97 _ rfl) okV_X12_sets rfl rfl (m_sets (d := 2) (e := 14 * k22 + 118) (by omega) (by omega) (by omega)) rfl rfl hdd (Nat.le_refl _) (Nat.le_refl _) (by decide) (pm_kv (fun σ' cnt' hq => ?_))
                obtain ⟨rfl, rfl⟩ := hq
                obtain ⟨n_77, en_77⟩ : ∃ f : Nat → Int32, f = upd n_71 (14 * k22 + 118) (nI 0) := ⟨_, rfl⟩
                rw [← en_77]
                have hnn_77 := KI.w en_77 hnn_71 (okv_f (show kd (14 * k22 + 118) = (0, 0, false) from (kd_P (k := k22) (c := 8) (by omega) (by omega) (by decide))))
                have hrn_77 := NRx.w en_77 hrn_71 (by rw [(show kd (14 * k22 + 118) = (0, 0, false) from (kd_P (k := k22) (c := 8) (by omega) (by omega) (by decide)))])
                have e78 : n_77 0 = nI kc0 := by rw [en_77, pk_un (by omega)]; exact e72
                have e79 : n_77 6 = nI kc6 := by rw [en_77, pk_un (by omega)]; exact e73
                have e80 : n_77 8 = nI k4 := by rw [en_77, pk_un (by omega)]; exact e74
                have e81 : n_77 2 = nI (k22 + 1) := by rw [en_77, pk_un (by omega)]; exact e75
                have e82 : n_77 (14 * k22 + 118) = nI 0 := by rw [en_77, pk_us]
                refine pm_iincX (v := nI 9) (loc' := [some (.ref (B + 54)), some (.int za), some (.int zb), some (.int zc), some (.int zd), some (.int (nI 1)), some (.int (nI k22)), some (.int (nI 9))]) hG dX12_person_137 rfl (nI_1 _) (by decide) (pm_c1b rfl) rfl ?_
                refine pm_goto (tgt := 121) hG dX12_person_140 rfl ?_
                refine pm_iloadi hG dX12_person_121 rfl ?_
                refine pm_bipush (v := nI 14) hG dX12_person_123 (by decide) ?_
                refine pm_icmpN_ge (tgt := 143) hG dX12_person_125 rfl (by omega) (by omega) (fun q => absurd q (by omega)) (fun _ => ?_)
                refine pm_aloadn hG dX12_person_128 rfl ?_
                refine pm_iloadi hG dX12_person_129 rfl ?_
                refine pm_iloadi hG dX12_person_131 rfl ?_
                refine pm_iconst (v := nI 0) hG dX12_person_133 (by decide) ?_
                refine pm_callV (As := [.int (nI k22), .int (nI 9), .int (nI 0)]) (rest := []) hG hR dX12_person_134 (lkX12_97 _ rfl) okV_X12_sets rfl rfl (m_sets (d := 2) (e := 14 * k22 + 119) (by omega) (by omega) (by omega)) rfl rfl hdd (Nat.le_refl _) (Nat.le_refl _) (by decide) (pm_kv (fun σ' cnt' hq => ?_))
                obtain ⟨rfl, rfl⟩ := hq
                obtain ⟨n_83, en_83⟩ : ∃ f : Nat → Int32, f = upd n_77 (14 * k22 + 119) (nI 0) := ⟨_, rfl⟩
                rw [← en_83]
                have hnn_83 := KI.w en_83 hnn_77 (okv_o (show kd (14 * k22 + 119) = (2, 2001, false) from (kd_P (k := k22) (c := 9) (by omega) (by omega) (by decide))) (by omega))
                have hrn_83 := NRx.w en_83 hrn_77 (by rw [(show kd (14 * k22 + 119) = (2, 2001, false) from (kd_P (k := k22) (c := 9) (by omega) (by omega) (by decide)))])
                have e84 : n_83 0 = nI kc0 := by rw [en_83, pk_un (by omega)]; exact e78
                have e85 : n_83 6 = nI kc6 := by rw [en_83, pk_un (by omega)]; exact e79
                have e86 : n_83 8 = nI k4 := by rw [en_83, pk_un (by omega)]; exact e80
                have e87 : n_83 2 = nI (k22 + 1) := by rw [en_83, pk_un (by omega)]; exact e81
                have e88 : n_83 (14 * k22 + 119) = nI 0 := by rw [en_83, pk_us]
                refine pm_iincX (v := nI 10) (loc' := [some (.ref (B + 54)), some (.int za), some (.int zb), some (.int zc), some (.int zd), some (.int (nI 1)), some (.int (nI k22)), some (.int (nI 10))]) hG dX12_person_137 rfl (nI_1 _) (by decide) (pm_c1b rfl) rfl ?_
                refine pm_goto (tgt := 121) hG dX12_person_140 rfl ?_
                refine pm_iloadi hG dX12_person_121 rfl ?_
                refine pm_bipush (v := nI 14) hG dX12_person_123 (by decide) ?_
                refine pm_icmpN_ge (tgt := 143) hG dX12_person_125 rfl (by omega) (by omega) (fun q => absurd q (by omega)) (fun _ => ?_)
                refine pm_aloadn hG dX12_person_128 rfl ?_
                refine pm_iloadi hG dX12_person_129 rfl ?_
                refine pm_iloadi hG dX12_person_131 rfl ?_
                refine pm_iconst (v := nI 0) hG dX12_person_133 (by decide) ?_
                refine pm_callV (As := [.int (nI k22), .int (nI 10), .int (nI 0)]) (rest := []) hG hR dX12_person_134 (lkX12_97 _ rfl) okV_X12_sets rfl rfl (m_sets (d := 2) (e := 14 * k22 + 120) (by omega) (by omega) (by omega)) rfl rfl hdd (Nat.le_refl _) (Nat.le_refl _) (by decide) (pm_kv (fun σ' cnt' hq => ?_))
                obtain ⟨rfl, rfl⟩ := hq
                obtain ⟨n_89, en_89⟩ : ∃ f : Nat → Int32, f = upd n_83 (14 * k22 + 120) (nI 0) := ⟨_, rfl⟩
                rw [← en_89]
                have hnn_89 := KI.w en_89 hnn_83 (okv_f (show kd (14 * k22 + 120) = (0, 0, false) from (kd_P (k := k22) (c := 10) (by omega) (by omega) (by decide))))
                have hrn_89 := NRx.w en_89 hrn_83 (by rw [(show kd (14 * k22 + 120) = (0, 0, false) from (kd_P (k := k22) (c := 10) (by omega) (by omega) (by decide)))])
                have e90 : n_89 0 = nI kc0 := by rw [en_89, pk_un (by omega)]; exact e84
                have e91 : n_89 6 = nI kc6 := by rw [en_89, pk_un (by omega)]; exact e85
                have e92 : n_89 8 = nI k4 := by rw [en_89, pk_un (by omega)]; exact e86
                have e93 : n_89 2 = nI (k22 + 1) := by rw [en_89, pk_un (by omega)]; exact e87
                have e94 : n_89 (14 * k22 + 120) = nI 0 := by rw [en_89, pk_us]
                refine pm_iincX (v := nI 11) (loc' := [some (.ref (B + 54)), some (.int za), some (.int zb), some (.int zc), some (.int zd), some (.int (nI 1)), some (.int (nI k22)), some (.int (nI 11))]) hG dX12_person_137 rfl (nI_1 _) (by decide) (pm_c1b rfl) rfl ?_
                refine pm_goto (tgt := 121) hG dX12_person_140 rfl ?_
                refine pm_iloadi hG dX12_person_121 rfl ?_
                refine pm_bipush (v := nI 14) hG dX12_person_123 (by decide) ?_
                refine pm_icmpN_ge (tgt := 143) hG dX12_person_125 rfl (by omega) (by omega) (fun q => absurd q (by omega)) (fun _ => ?_)
                refine pm_aloadn hG dX12_person_128 rfl ?_
                refine pm_iloadi hG dX12_person_129 rfl ?_
                refine pm_iloadi hG dX12_person_131 rfl ?_
                refine pm_iconst (v := nI 0) hG dX12_person_133 (by decide) ?_
                refine pm_callV (As := [.int (nI k22), .int (nI 11), .int (nI 0)]) (rest := []) hG hR dX12_person_134 (lkX12_97 _ rfl) okV_X12_sets rfl rfl (m_sets (d := 2) (e := 14 * k22 + 121) (by omega) (by omega) (by omega)) rfl rfl hdd (Nat.le_refl _) (Nat.le_refl _) (by decide) (pm_kv (fun σ' cnt' hq => ?_))
                obtain ⟨rfl, rfl⟩ := hq
                obtain ⟨n_95, en_95⟩ : ∃ f : Nat → Int32, f = upd n_89 (14 * k22 + 121) (nI 0) := ⟨_, rfl⟩
                rw [← en_95]
                have hnn_95 := KI.w en_95 hnn_89 (okv_n (show kd (14 * k22 + 121) = (1, 2, true) from (kd_P (k := k22) (c := 11) (by omega) (by omega) (by decide))) (by omega))
                have hrn_95 := NRx.unseat (p := k22) en_95 hrn_89 (by omega)
                have e96 : n_95 0 = nI kc0 := by rw [en_95, pk_un (by omega)]; exact e90
                have e97 : n_95 6 = nI kc6 := by rw [en_95, pk_un (by omega)]; exact e91
                have e98 : n_95 8 = nI k4 := by rw [en_95, pk_un (by omega)]; exact e92
                have e99 : n_95 2 = nI (k22 + 1) := by rw [en_95, pk_un (by omega)]; exact e93
                have e100 : n_95 (14 * k22 + 121) = nI 0 := by rw [en_95, pk_us]
                refine pm_iincX (v := nI 12) (loc' := [some (.ref (B + 54)), some (.int za), some (.int zb), some (.int zc), some (.int zd), some (.int (nI 1)), some (.int (nI k22)), some (.int (nI 12))]) hG dX12_person_137 rfl (nI_1 _) (by decide) (pm_c1b rfl) rfl ?_
                refine pm_goto (tgt := 121) hG dX12_person_140 rfl ?_
                refine pm_iloadi hG dX12_person_121 rfl ?_
                refine pm_bipush (v := nI 14) hG dX12_person_123 (by decide) ?_
                refine pm_icmpN_ge (tgt := 143) hG dX12_person_125 rfl (by omega) (by omega) (fun q => absurd q (by omega)) (fun _ => ?_)
                refine pm_aloadn hG dX12_person_128 rfl ?_
                refine pm_iloadi hG dX12_person_129 rfl ?_
                refine pm_iloadi hG dX12_person_131 rfl ?_
                refine pm_iconst (v := nI 0) hG dX12_person_133 (by decide) ?_
                refine pm_callV (As := [.int (nI k22), .int (nI 12), .int (nI 0)]) (rest := []) hG hR dX12_person_134 (lkX12_97 _ rfl) okV_X12_sets rfl rfl (m_sets (d := 2) (e := 14 * k22 + 122) (by omega) (by omega) (by omega)) rfl rfl hdd (Nat.le_refl _) (Nat.le_refl _) (by decide) (pm_kv (fun σ' cnt' hq => ?_))
                obtain ⟨rfl, rfl⟩ := hq
                obtain ⟨n_101, en_101⟩ : ∃ f : Nat → Int32, f = upd n_95 (14 * k22 + 122) (nI 0) := ⟨_, rfl⟩
                rw [← en_101]
                have hnn_101 := KI.w en_101 hnn_95 (okv_f (show kd (14 * k22 + 122) = (0, 0, false) from (kd_P (k := k22) (c := 12) (by omega) (by omega) (by decide))))
                have hrn_101 := NRx.w en_101 hrn_95 (by rw [(show kd (14 * k22 + 122) = (0, 0, false) from (kd_P (k := k22) (c := 12) (by omega) (by omega) (by decide)))])
                have e102 : n_101 0 = nI kc0 := by rw [en_101, pk_un (by omega)]; exact e96
                have e103 : n_101 6 = nI kc6 := by rw [en_101, pk_un (by omega)]; exact e97
                have e104 : n_101 8 = nI k4 := by rw [en_101, pk_un (by omega)]; exact e98
                have e105 : n_101 2 = nI (k22 + 1) := by rw [en_101, pk_un (by omega)]; exact e99
                have e106 : n_101 (14 * k22 + 122) = nI 0 := by rw [en_101, pk_us]
                refine pm_iincX (v := nI 13) (loc' := [some (.ref (B + 54)), some (.int za), some (.int zb), some (.int zc), some (.int zd), some (.int (nI 1)), some (.int (nI k22)), some (.int (nI 13))]) hG dX12_person_137 rfl (nI_1 _) (by decide) (pm_c1b rfl) rfl ?_
                refine pm_goto (tgt := 121) hG dX12_person_140 rfl ?_
                refine pm_iloadi hG dX12_person_121 rfl ?_
                refine pm_bipush (v := nI 14) hG dX12_person_123 (by decide) ?_
                refine pm_icmpN_ge (tgt := 143) hG dX12_person_125 rfl (by omega) (by omega) (fun q => absurd q (by omega)) (fun _ => ?_)
                refine pm_aloadn hG dX12_person_128 rfl ?_
                refine pm_iloadi hG dX12_person_129 rfl ?_
                refine pm_iloadi hG dX12_person_131 rfl ?_
                refine pm_iconst (v := nI 0) hG dX12_person_133 (by decide) ?_
                refine pm_callV (As := [.int (nI k22), .int (nI 13), .int (nI 0)]) (rest := []) hG hR dX12_person_134 (lkX12_97 _ rfl) okV_X12_sets rfl rfl (m_sets (d := 2) (e := 14 * k22 + 123) (by omega) (by omega) (by omega)) rfl rfl hdd (Nat.le_refl _) (Nat.le_refl _) (by decide) (pm_kv (fun σ' cnt' hq => ?_))
                obtain ⟨rfl, rfl⟩ := hq
                obtain ⟨n_107, en_107⟩ : ∃ f : Nat → Int32, f = upd n_101 (14 * k22 + 123) (nI 0) := ⟨_, rfl⟩
                rw [← en_107]
                have hnn_107 := KI.w en_107 hnn_101 (okv_f (show kd (14 * k22 + 123) = (0, 0, false) from (kd_P (k := k22) (c := 13) (by omega) (by omega) (by decide))))
                have hrn_107 := NRx.w en_107 hrn_101 (by rw [(show kd (14 * k22 + 123) = (0, 0, false) from (kd_P (k := k22) (c := 13) (by omega) (by omega) (by decide)))])
                have e108 : n_107 0 = nI kc0 := by rw [en_107, pk_un (by omega)]; exact e102
                have e109 : n_107 6 = nI kc6 := by rw [en_107, pk_un (by omega)]; exact e103
                have e110 : n_107 8 = nI k4 := by rw [en_107, pk_un (by omega)]; exact e104
                have e111 : n_107 2 = nI (k22 + 1) := by rw [en_107, pk_un (by omega)]; exact e105
                have e112 : n_107 (14 * k22 + 123) = nI 0 := by rw [en_107, pk_us]
                refine pm_iincX (v := nI 14) (loc' := [some (.ref (B + 54)), some (.int za), some (.int zb), some (.int zc), some (.int zd), some (.int (nI 1)), some (.int (nI k22)), some (.int (nI 14))]) hG dX12_person_137 rfl (nI_1 _) (by decide) (pm_c1b rfl) rfl ?_
                refine pm_goto (tgt := 121) hG dX12_person_140 rfl ?_
                refine pm_iloadi hG dX12_person_121 rfl ?_
                refine pm_bipush (v := nI 14) hG dX12_person_123 (by decide) ?_
                refine pm_icmpN_ge (tgt := 143) hG dX12_person_125 rfl (by omega) (by omega) (fun _ => ?_) (fun q => absurd q (by omega))
                refine pm_aloadn hG dX12_person_143 rfl ?_
                refine pm_iloadi hG dX12_person_144 rfl ?_
                refine pm_iconst (v := nI 0) hG dX12_person_146 (by decide) ?_
                refine pm_iloadn hG dX12_person_147 rfl ?_
                refine pm_top (v := nI k3) ek3 ?_
                refine pm_callV (As := [.int (nI k22), .int (nI 0), .int (nI k3)]) (rest := []) hG hR dX12_person_148 (lkX12_97 _ rfl) okV_X12_sets rfl rfl (m_sets (d := 2) (e := 14 * k22 + 110) (by omega) (by omega) (by omega)) rfl rfl hdd (Nat.le_refl _) (Nat.le_refl _) (by decide) (pm_kv (fun σ' cnt' hq => ?_))
                obtain ⟨rfl, rfl⟩ := hq
                obtain ⟨n_113, en_113⟩ : ∃ f : Nat → Int32, f = upd n_107 (14 * k22 + 110) (nI k3) := ⟨_, rfl⟩
                rw [← en_113]
                have hnn_113 := KI.w en_113 hnn_107 (okv_f (show kd (14 * k22 + 110) = (0, 0, false) from (kd_P (k := k22) (c := 0) (by omega) (by omega) (by decide))))
                have hrn_113 := NRx.w en_113 hrn_107 (by rw [(show kd (14 * k22 + 110) = (0, 0, false) from (kd_P (k := k22) (c := 0) (by omega) (by omega) (by decide)))])
                have e114 : n_113 0 = nI kc0 := by rw [en_113, pk_un (by omega)]; exact e108
                have e115 : n_113 6 = nI kc6 := by rw [en_113, pk_un (by omega)]; exact e109
                have e116 : n_113 8 = nI k4 := by rw [en_113, pk_un (by omega)]; exact e110
                have e117 : n_113 2 = nI (k22 + 1) := by rw [en_113, pk_un (by omega)]; exact e111
                have e118 : n_113 (14 * k22 + 110) = nI k3 := by rw [en_113, pk_us]
                refine pm_aloadn hG dX12_person_151 rfl ?_
                refine pm_iloadi hG dX12_person_152 rfl ?_
                refine pm_iconst (v := nI 1) hG dX12_person_154 (by decide) ?_
                refine pm_iloadn hG dX12_person_155 rfl ?_
                refine pm_callV (As := [.int (nI k22), .int (nI 1), .int zb]) (rest := []) hG hR dX12_person_156 (lkX12_97 _ rfl) okV_X12_sets rfl rfl (m_sets (d := 2) (e := 14 * k22 + 111) (by omega) (by omega) (by omega)) rfl rfl hdd (Nat.le_refl _) (Nat.le_refl _) (by decide) (pm_kv (fun σ' cnt' hq => ?_))
                obtain ⟨rfl, rfl⟩ := hq
                obtain ⟨n_119, en_119⟩ : ∃ f : Nat → Int32, f = upd n_113 (14 * k22 + 111) zb := ⟨_, rfl⟩
                rw [← en_119]
                have hnn_119 := KI.w en_119 hnn_113 (okv_f (show kd (14 * k22 + 111) = (0, 0, false) from (kd_P (k := k22) (c := 1) (by omega) (by omega) (by decide))))
                have hrn_119 := NRx.w en_119 hrn_113 (by rw [(show kd (14 * k22 + 111) = (0, 0, false) from (kd_P (k := k22) (c := 1) (by omega) (by omega) (by decide)))])
                have e120 : n_119 0 = nI kc0 := by rw [en_119, pk_un (by omega)]; exact e114
                have e121 : n_119 6 = nI kc6 := by rw [en_119, pk_un (by omega)]; exact e115
                have e122 : n_119 8 = nI k4 := by rw [en_119, pk_un (by omega)]; exact e116
                have e123 : n_119 2 = nI (k22 + 1) := by rw [en_119, pk_un (by omega)]; exact e117
                have e124 : n_119 (14 * k22 + 111) = zb := by rw [en_119, pk_us]
                refine pm_aloadn hG dX12_person_159 rfl ?_
                refine pm_iloadi hG dX12_person_160 rfl ?_
                refine pm_iconst (v := nI 2) hG dX12_person_162 (by decide) ?_
                refine pm_iloadn hG dX12_person_163 rfl ?_
                refine pm_top (v := nI k10) ek10 ?_
                refine pm_bipush (v := nI 100) hG dX12_person_164 (by decide) ?_
                refine pm_idivN hG dX12_person_166 (by omega) (by decide) (by decide) ?_
                refine pm_iconst (v := nI 1) hG dX12_person_167 (by decide) ?_
                refine pm_isub hG dX12_person_168 ?_
                refine pm_top (v := (-1)) ek12 ?_
                refine pm_callV (As := [.int (nI k22), .int (nI 2), .int (-1)]) (rest := []) hG hR dX12_person_169 (lkX12_97 _ rfl) okV_X12_sets rfl rfl (m_sets (d := 2) (e := 14 * k22 + 112) (by omega) (by omega) (by omega)) rfl rfl hdd (Nat.le_refl _) (Nat.le_refl _) (by decide) (pm_kv (fun σ' cnt' hq => ?_))
                obtain ⟨rfl, rfl⟩ := hq
                obtain ⟨n_125, en_125⟩ : ∃ f : Nat → Int32, f = upd n_119 (14 * k22 + 112) (-1) := ⟨_, rfl⟩
                rw [← en_125]
                have hnn_125 := KI.w en_125 hnn_119 (okv_m (show kd (14 * k22 + 112) = (2, 20, false) from (kd_P (k := k22) (c := 2) (by omega) (by omega) (by decide))))
                have hrn_125 := NRx.w en_125 hrn_119 (by rw [(show kd (14 * k22 + 112) = (2, 20, false) from (kd_P (k := k22) (c := 2) (by omega) (by omega) (by decide)))])
                have e126 : n_125 0 = nI kc0 := by rw [en_125, pk_un (by omega)]; exact e120
                have e127 : n_125 6 = nI kc6 := by rw [en_125, pk_un (by omega)]; exact e121
                have e128 : n_125 8 = nI k4 := by rw [en_125, pk_un (by omega)]; exact e122
                have e129 : n_125 2 = nI (k22 + 1) := by rw [en_125, pk_un (by omega)]; exact e123
                have e130 : n_125 (14 * k22 + 112) = (-1) := by rw [en_125, pk_us]
                refine pm_aloadn hG dX12_person_172 rfl ?_
                refine pm_iloadi hG dX12_person_173 rfl ?_
                refine pm_iconst (v := nI 3) hG dX12_person_175 (by decide) ?_
                refine pm_iloadn hG dX12_person_176 rfl ?_
                refine pm_top (v := nI k10) ek10 ?_
                refine pm_bipush (v := nI 100) hG dX12_person_177 (by decide) ?_
                refine pm_iremM hG dX12_person_179 (by omega) (by decide) (by decide) ?_
                refine pm_iconst (v := nI 1) hG dX12_person_180 (by decide) ?_
                refine pm_isub hG dX12_person_181 ?_
                refine pm_top (v := (-1)) ek16 ?_
                refine pm_callV (As := [.int (nI k22), .int (nI 3), .int (-1)]) (rest := []) hG hR dX12_person_182 (lkX12_97 _ rfl) okV_X12_sets rfl rfl (m_sets (d := 2) (e := 14 * k22 + 113) (by omega) (by omega) (by omega)) rfl rfl hdd (Nat.le_refl _) (Nat.le_refl _) (by decide) (pm_kv (fun σ' cnt' hq => ?_))
                obtain ⟨rfl, rfl⟩ := hq
                obtain ⟨n_131, en_131⟩ : ∃ f : Nat → Int32, f = upd n_125 (14 * k22 + 113) (-1) := ⟨_, rfl⟩
                rw [← en_131]
                have hnn_131 := KI.w en_131 hnn_125 (okv_m (show kd (14 * k22 + 113) = (2, 20, false) from (kd_P (k := k22) (c := 3) (by omega) (by omega) (by decide))))
                have hrn_131 := NRx.w en_131 hrn_125 (by rw [(show kd (14 * k22 + 113) = (2, 20, false) from (kd_P (k := k22) (c := 3) (by omega) (by omega) (by decide)))])
                have e132 : n_131 0 = nI kc0 := by rw [en_131, pk_un (by omega)]; exact e126
                have e133 : n_131 6 = nI kc6 := by rw [en_131, pk_un (by omega)]; exact e127
                have e134 : n_131 8 = nI k4 := by rw [en_131, pk_un (by omega)]; exact e128
                have e135 : n_131 2 = nI (k22 + 1) := by rw [en_131, pk_un (by omega)]; exact e129
                have e136 : n_131 (14 * k22 + 113) = (-1) := by rw [en_131, pk_us]
                refine pm_aloadn hG dX12_person_185 rfl ?_
                refine pm_iloadi hG dX12_person_186 rfl ?_
                refine pm_iconst (v := nI 4) hG dX12_person_188 (by decide) ?_
                refine pm_iloadi hG dX12_person_189 rfl ?_
                refine pm_top (v := nI k21) ek21 ?_
                refine pm_callV (As := [.int (nI k22), .int (nI 4), .int (nI k21)]) (rest := []) hG hR dX12_person_191 (lkX12_97 _ rfl) okV_X12_sets rfl rfl (m_sets (d := 2) (e := 14 * k22 + 114) (by omega) (by omega) (by omega)) rfl rfl hdd (Nat.le_refl _) (Nat.le_refl _) (by decide) (pm_kv (fun σ' cnt' hq => ?_))
                obtain ⟨rfl, rfl⟩ := hq
                obtain ⟨n_137, en_137⟩ : ∃ f : Nat → Int32, f = upd n_131 (14 * k22 + 114) (nI k21) := ⟨_, rfl⟩
                rw [← en_137]
                have hnn_137 := KI.w en_137 hnn_131 (okv_o (show kd (14 * k22 + 114) = (2, 10, false) from (kd_P (k := k22) (c := 4) (by omega) (by omega) (by decide))) (by omega))
                have hrn_137 := NRx.w en_137 hrn_131 (by rw [(show kd (14 * k22 + 114) = (2, 10, false) from (kd_P (k := k22) (c := 4) (by omega) (by omega) (by decide)))])
                have e138 : n_137 0 = nI kc0 := by rw [en_137, pk_un (by omega)]; exact e132
                have e139 : n_137 6 = nI kc6 := by rw [en_137, pk_un (by omega)]; exact e133
                have e140 : n_137 8 = nI k4 := by rw [en_137, pk_un (by omega)]; exact e134
                have e141 : n_137 2 = nI (k22 + 1) := by rw [en_137, pk_un (by omega)]; exact e135
                have e142 : n_137 (14 * k22 + 114) = nI k21 := by rw [en_137, pk_us]
                refine pm_aloadn hG dX12_person_194 rfl ?_
                refine pm_iloadi hG dX12_person_195 rfl ?_
                refine pm_bipush (v := nI 9) hG dX12_person_197 (by decide) ?_
                refine pm_iconst (v := (-1)) hG dX12_person_199 (by decide) ?_
                refine pm_callV (As := [.int (nI k22), .int (nI 9), .int (-1)]) (rest := []) hG hR dX12_person_200 (lkX12_97 _ rfl) okV_X12_sets rfl rfl (m_sets (d := 2) (e := 14 * k22 + 119) (by omega) (by omega) (by omega)) rfl rfl hdd (Nat.le_refl _) (Nat.le_refl _) (by decide) (pm_kv (fun σ' cnt' hq => ?_))
                obtain ⟨rfl, rfl⟩ := hq
                obtain ⟨n_143, en_143⟩ : ∃ f : Nat → Int32, f = upd n_137 (14 * k22 + 119) (-1) := ⟨_, rfl⟩
                rw [← en_143]
                have hnn_143 := KI.w en_143 hnn_137 (okv_m (show kd (14 * k22 + 119) = (2, 2001, false) from (kd_P (k := k22) (c := 9) (by omega) (by omega) (by decide))))
                have hrn_143 := NRx.w en_143 hrn_137 (by rw [(show kd (14 * k22 + 119) = (2, 2001, false) from (kd_P (k := k22) (c := 9) (by omega) (by omega) (by decide)))])
                have e144 : n_143 0 = nI kc0 := by rw [en_143, pk_un (by omega)]; exact e138
                have e145 : n_143 6 = nI kc6 := by rw [en_143, pk_un (by omega)]; exact e139
                have e146 : n_143 8 = nI k4 := by rw [en_143, pk_un (by omega)]; exact e140
                have e147 : n_143 2 = nI (k22 + 1) := by rw [en_143, pk_un (by omega)]; exact e141
                have e148 : n_143 (14 * k22 + 119) = (-1) := by rw [en_143, pk_us]
                refine pm_aloadn hG dX12_person_203 rfl ?_
                refine pm_iloadi hG dX12_person_204 rfl ?_
                refine pm_bipush (v := nI 10) hG dX12_person_206 (by decide) ?_
                refine pm_iconst (v := (-1)) hG dX12_person_208 (by decide) ?_
                refine pm_callV (As := [.int (nI k22), .int (nI 10), .int (-1)]) (rest := []) hG hR dX12_person_209 (lkX12_97 _ rfl) okV_X12_sets rfl rfl (m_sets (d := 2) (e := 14 * k22 + 120) (by omega) (by omega) (by omega)) rfl rfl hdd (Nat.le_refl _) (Nat.le_refl _) (by decide) (pm_kv (fun σ' cnt' hq => ?_))
                obtain ⟨rfl, rfl⟩ := hq
                obtain ⟨n_149, en_149⟩ : ∃ f : Nat → Int32, f = upd n_143 (14 * k22 + 120) (-1) := ⟨_, rfl⟩
                rw [← en_149]
                have hnn_149 := KI.w en_149 hnn_143 (okv_f (show kd (14 * k22 + 120) = (0, 0, false) from (kd_P (k := k22) (c := 10) (by omega) (by omega) (by decide))))
                have hrn_149 := NRx.w en_149 hrn_143 (by rw [(show kd (14 * k22 + 120) = (0, 0, false) from (kd_P (k := k22) (c := 10) (by omega) (by omega) (by decide)))])
                have e150 : n_149 0 = nI kc0 := by rw [en_149, pk_un (by omega)]; exact e144
                have e151 : n_149 6 = nI kc6 := by rw [en_149, pk_un (by omega)]; exact e145
                have e152 : n_149 8 = nI k4 := by rw [en_149, pk_un (by omega)]; exact e146
                have e153 : n_149 2 = nI (k22 + 1) := by rw [en_149, pk_un (by omega)]; exact e147
                have e154 : n_149 (14 * k22 + 120) = (-1) := by rw [en_149, pk_us]
                refine pm_aloadn hG dX12_person_212 rfl ?_
                refine pm_iloadi hG dX12_person_213 rfl ?_
                refine pm_bipush (v := nI 12) hG dX12_person_215 (by decide) ?_
                refine pm_iconst (v := nI 1) hG dX12_person_217 (by decide) ?_
                refine pm_callV (As := [.int (nI k22), .int (nI 12), .int (nI 1)]) (rest := []) hG hR dX12_person_218 (lkX12_97 _ rfl) okV_X12_sets rfl rfl (m_sets (d := 2) (e := 14 * k22 + 122) (by omega) (by omega) (by omega)) rfl rfl hdd (Nat.le_refl _) (Nat.le_refl _) (by decide) (pm_kv (fun σ' cnt' hq => ?_))
                obtain ⟨rfl, rfl⟩ := hq
                obtain ⟨n_155, en_155⟩ : ∃ f : Nat → Int32, f = upd n_149 (14 * k22 + 122) (nI 1) := ⟨_, rfl⟩
                rw [← en_155]
                have hnn_155 := KI.w en_155 hnn_149 (okv_f (show kd (14 * k22 + 122) = (0, 0, false) from (kd_P (k := k22) (c := 12) (by omega) (by omega) (by decide))))
                have hrn_155 := NRx.w en_155 hrn_149 (by rw [(show kd (14 * k22 + 122) = (0, 0, false) from (kd_P (k := k22) (c := 12) (by omega) (by omega) (by decide)))])
                have e156 : n_155 0 = nI kc0 := by rw [en_155, pk_un (by omega)]; exact e150
                have e157 : n_155 6 = nI kc6 := by rw [en_155, pk_un (by omega)]; exact e151
                have e158 : n_155 8 = nI k4 := by rw [en_155, pk_un (by omega)]; exact e152
                have e159 : n_155 2 = nI (k22 + 1) := by rw [en_155, pk_un (by omega)]; exact e153
                have e160 : n_155 (14 * k22 + 122) = nI 1 := by rw [en_155, pk_us]
                refine pm_iloadi hG dX12_person_221 rfl ?_
                exact pm_iret hG hF dX12_person_223 rfl (Nat.le_refl _) (Nat.le_refl _) ⟨_, rfl, ⟨_, _, _, rfl, hnn_155, hrn_155, e156.trans ekc0.symm, e157.trans ekc6.symm⟩, rfl⟩
              · refine pm_aloadn hG dX12_person_102 rfl ?_
                refine pm_iconst (v := nI 4) hG dX12_person_103 (by decide) ?_
                refine pm_callV (As := [.int (nI 4)]) (rest := []) hG hR dX12_person_104 (lkX12_80 _ rfl) okV_X12_finds rfl rfl (m_finds (d := 2) (by decide) hn hz (by omega)) rfl rfl hdd (Nat.le_refl _) (Nat.le_refl _) (by decide) (pm_ki (fun v161 σ' cnt' hq => ?_))
                obtain ⟨⟨I162, A162, rfl⟩, rfl, fv161⟩ := hq
                exact pm_iret hG hF dX12_person_107 rfl (Nat.le_refl _) (Nat.le_refl _) ⟨_, rfl, ⟨_, _, _, rfl, hn, hr, ekc0.trans ekc0.symm, ekc6.trans ekc6.symm⟩, rfl⟩
            · refine pm_ifN_eq (tgt := 73) hG dX12_person_66 rfl (by omega) (fun _ => ?_) (fun q => absurd q (by omega))
              refine pm_iconst (v := nI 0) hG dX12_person_73 (by decide) ?_
              refine pm_istoreXi (loc' := [some (.ref (B + 54)), some (.int za), some (.int zb), some (.int zc), some (.int zd), some (.int (nI 0)), none, none]) hG dX12_person_74 (by decide) (pm_c1b rfl) rfl ?_
              refine pm_iloadi hG dX12_person_76 rfl ?_
              refine pm_ifN_ne (tgt := 87) hG dX12_person_78 rfl (by omega) (fun q => absurd q (by omega)) (fun _ => ?_)
              refine pm_aloadn hG dX12_person_81 rfl ?_
              refine pm_iconst (v := nI 1) hG dX12_person_82 (by decide) ?_
              refine pm_callV (As := [.int (nI 1)]) (rest := []) hG hR dX12_person_83 (lkX12_80 _ rfl) okV_X12_finds rfl rfl (m_finds (d := 2) (by decide) hn hz (by omega)) rfl rfl hdd (Nat.le_refl _) (Nat.le_refl _) (by decide) (pm_ki (fun v163 σ' cnt' hq => ?_))
              obtain ⟨⟨I164, A164, rfl⟩, rfl, fv163⟩ := hq
              exact pm_iret hG hF dX12_person_86 rfl (Nat.le_refl _) (Nat.le_refl _) ⟨_, rfl, ⟨_, _, _, rfl, hn, hr, ekc0.trans ekc0.symm, ekc6.trans ekc6.symm⟩, rfl⟩
          · refine pm_ifN_eq (tgt := 73) hG dX12_person_57 rfl (by omega) (fun q => absurd q (by omega)) (fun _ => ?_)
            refine pm_aloadn hG dX12_person_60 rfl ?_
            refine pm_iloadi hG dX12_person_61 rfl ?_
            refine pm_callV (As := [.int zd]) (rest := []) hG hR dX12_person_63 (lkX12_84 _ rfl) okV_X12_isTown rfl rfl (m_isTown (d := 2) (by decide) ekc0 (by omega)) rfl rfl hdd (Nat.le_refl _) (Nat.le_refl _) (by decide) (pm_ki (fun v165 σ' cnt' hq => ?_))
            obtain ⟨hq, rfl, rfl⟩ := hq
            rcases hq with ⟨rfl, k167, hk167, ek167⟩ | ⟨rfl, ntk167⟩
            · refine pm_ifN_eq (tgt := 73) hG dX12_person_66 rfl (by omega) (fun q => absurd q (by omega)) (fun _ => ?_)
              refine pm_iconst (v := nI 1) hG dX12_person_69 (by decide) ?_
              refine pm_goto (tgt := 74) hG dX12_person_70 rfl ?_
              refine pm_istoreXi (loc' := [some (.ref (B + 54)), some (.int za), some (.int zb), some (.int zc), some (.int zd), some (.int (nI 1)), none, none]) hG dX12_person_74 (by decide) (pm_c1b rfl) rfl ?_
              refine pm_iloadi hG dX12_person_76 rfl ?_
              refine pm_ifN_ne (tgt := 87) hG dX12_person_78 rfl (by omega) (fun _ => ?_) (fun q => absurd q (by omega))
              refine pm_aloadn hG dX12_person_87 rfl ?_
              refine pm_getf hG dX12_person_88 (flX12_7 _ rfl) rfl rfl ?_
              refine pm_iconst (v := nI 2) hG dX12_person_91 (by decide) ?_
              refine pm_ialdN hG dX12_person_92 rfl (by decide) (by omega) ?_
              obtain ⟨k168, hk168, ek168⟩ := KI.nat hn (show kd 2 = (1, 21, true) by decide)
              refine pm_top (v := nI k168) ek168 ?_
              refine pm_istoreXi (loc' := [some (.ref (B + 54)), some (.int za), some (.int zb), some (.int zc), some (.int zd), some (.int (nI 1)), some (.int (nI k168)), none]) hG dX12_person_93 (by decide) (pm_c1b rfl) rfl ?_
              refine pm_iloadi hG dX12_person_95 rfl ?_
              refine pm_bipush (v := nI 20) hG dX12_person_97 (by decide) ?_
              refine pm_icmpN_ne (tgt := 108) hG dX12_person_99 rfl (by omega) (by omega) (fun c169 => ?_) (fun c169 => ?_)
              · refine pm_aloadn hG dX12_person_108 rfl ?_
                refine pm_getf hG dX12_person_109 (flX12_7 _ rfl) rfl rfl ?_
                refine pm_iconst (v := nI 2) hG dX12_person_112 (by decide) ?_
                refine pm_dup2 hG dX12_person_113 rfl rfl ?_
                refine pm_ialdN hG dX12_person_114 rfl (by decide) (by omega) ?_
                refine pm_top (v := nI k168) ek168 ?_
                refine pm_iconst (v := nI 1) hG dX12_person_115 (by decide) ?_
                refine pm_iaddN (c := k168 + 1) hG dX12_person_116 (by omega) ?_
                refine pm_iastN hG dX12_person_117 rfl (by decide) (by omega) ?_
                refine mdn_now (fun n_170 en_170 => ?_)
                have hnn_170 := KI.w en_170 hn (okv_n (show kd 2 = (1, 21, true) by decide) (by omega))
                have hrn_170 := NRx.pers en_170 hr ekc0 (by omega) ek168 (by omega)
                have e171 : n_170 0 = nI kc0 := by rw [en_170, pk_un (by omega)]; exact ekc0
                have e172 : n_170 6 = nI kc6 := by rw [en_170, pk_un (by omega)]; exact ekc6
                have e173 : n_170 8 = nI k4 := by rw [en_170, pk_un (by omega)]; exact ek4
                have e174 : n_170 2 = nI (k168 + 1) := by rw [en_170, pk_us]
                refine pm_iconst (v := nI 0) hG dX12_person_118 (by decide) ?_
                refine pm_istoreXi (loc' := [some (.ref (B + 54)), some (.int za), some (.int zb), some (.int zc), some (.int zd), some (.int (nI 1)), some (.int (nI k168)), some (.int (nI 0))]) hG dX12_person_119 (by decide) (pm_c1b rfl) rfl ?_
                refine pm_iloadi hG dX12_person_121 rfl ?_
                refine pm_bipush (v := nI 14) hG dX12_person_123 (by decide) ?_
                refine pm_icmpN_ge (tgt := 143) hG dX12_person_125 rfl (by omega) (by omega) (fun q => absurd q (by omega)) (fun _ => ?_)
                refine pm_aloadn hG dX12_person_128 rfl ?_
                refine pm_iloadi hG dX12_person_129 rfl ?_
                refine pm_iloadi hG dX12_person_131 rfl ?_
                refine pm_iconst (v := nI 0) hG dX12_person_133 (by decide) ?_
                refine pm_callV (As := [.int (nI k168), .int (nI 0), .int (nI 0)]) (rest := []) hG hR dX12_person_134 (lkX12_97 _ rfl) okV_X12_sets rfl rfl (m_sets (d := 2) (e := 14 * k168 + 110) (by omega) (by omega) (by omega)) rfl rfl hdd (Nat.le_refl _) (Nat.le_refl _) (by decide) (pm_kv (fun σ' cnt' hq => ?_))
                obtain ⟨rfl, rfl⟩ := hq
                obtain ⟨n_175, en_175⟩ : ∃ f : Nat → Int32, f = upd n_170 (14 * k168 + 110) (nI 0) := ⟨_, rfl⟩
                rw [← en_175]
                have hnn_175 := KI.w en_175 hnn_170 (okv_f (show kd (14 * k168 + 110) = (0, 0, false) from (kd_P (k := k168) (c := 0) (by omega) (by omega) (by decide))))
                have hrn_175 := NRx.w en_175 hrn_170 (by rw [(show kd (14 * k168 + 110) = (0, 0, false) from (kd_P (k := k168) (c := 0) (by omega) (by omega) (by decide)))])
                have e176 : n_175 0 = nI kc0 := by rw [en_175, pk_un (by omega)]; exact e171
                have e177 : n_175 6 = nI kc6 := by rw [en_175, pk_un (by omega)]; exact e172
                have e178 : n_175 8 = nI k4 := by rw [en_175, pk_un (by omega)]; exact e173
                have e179 : n_175 2 = nI (k168 + 1) := by rw [en_175, pk_un (by omega)]; exact e174
                have e180 : n_175 (14 * k168 + 110) = nI 0 := by rw [en_175, pk_us]
                refine pm_iincX (v := nI 1) (loc' := [some (.ref (B + 54)), some (.int za), some (.int zb), some (.int zc), some (.int zd), some (.int (nI 1)), some (.int (nI k168)), some (.int (nI 1))]) hG dX12_person_137 rfl (nI_1 _) (by decide) (pm_c1b rfl) rfl ?_
                refine pm_goto (tgt := 121) hG dX12_person_140 rfl ?_
                refine pm_iloadi hG dX12_person_121 rfl ?_
                refine pm_bipush (v := nI 14) hG dX12_person_123 (by decide) ?_
                refine pm_icmpN_ge (tgt := 143) hG dX12_person_125 rfl (by omega) (by omega) (fun q => absurd q (by omega)) (fun _ => ?_)
                refine pm_aloadn hG dX12_person_128 rfl ?_
                refine pm_iloadi hG dX12_person_129 rfl ?_
                refine pm_iloadi hG dX12_person_131 rfl ?_
                refine pm_iconst (v := nI 0) hG dX12_person_133 (by decide) ?_
                refine pm_callV (As := [.int (nI k168), .int (nI 1), .int (nI 0)]) (rest := []) hG hR dX12_person_134 (lkX12_97 _ rfl) okV_X12_sets rfl rfl (m_sets (d := 2) (e := 14 * k168 + 111) (by omega) (by omega) (by omega)) rfl rfl hdd (Nat.le_refl _) (Nat.le_refl _) (by decide) (pm_kv (fun σ' cnt' hq => ?_))
                obtain ⟨rfl, rfl⟩ := hq
                obtain ⟨n_181, en_181⟩ : ∃ f : Nat → Int32, f = upd n_175 (14 * k168 + 111) (nI 0) := ⟨_, rfl⟩
                rw [← en_181]
                have hnn_181 := KI.w en_181 hnn_175 (okv_f (show kd (14 * k168 + 111) = (0, 0, false) from (kd_P (k := k168) (c := 1) (by omega) (by omega) (by decide))))
                have hrn_181 := NRx.w en_181 hrn_175 (by rw [(show kd (14 * k168 + 111) = (0, 0, false) from (kd_P (k := k168) (c := 1) (by omega) (by omega) (by decide)))])
                have e182 : n_181 0 = nI kc0 := by rw [en_181, pk_un (by omega)]; exact e176
                have e183 : n_181 6 = nI kc6 := by rw [en_181, pk_un (by omega)]; exact e177
                have e184 : n_181 8 = nI k4 := by rw [en_181, pk_un (by omega)]; exact e178
                have e185 : n_181 2 = nI (k168 + 1) := by rw [en_181, pk_un (by omega)]; exact e179
                have e186 : n_181 (14 * k168 + 111) = nI 0 := by rw [en_181, pk_us]
                refine pm_iincX (v := nI 2) (loc' := [some (.ref (B + 54)), some (.int za), some (.int zb), some (.int zc), some (.int zd), some (.int (nI 1)), some (.int (nI k168)), some (.int (nI 2))]) hG dX12_person_137 rfl (nI_1 _) (by decide) (pm_c1b rfl) rfl ?_
                refine pm_goto (tgt := 121) hG dX12_person_140 rfl ?_
                refine pm_iloadi hG dX12_person_121 rfl ?_
                refine pm_bipush (v := nI 14) hG dX12_person_123 (by decide) ?_
                refine pm_icmpN_ge (tgt := 143) hG dX12_person_125 rfl (by omega) (by omega) (fun q => absurd q (by omega)) (fun _ => ?_)
                refine pm_aloadn hG dX12_person_128 rfl ?_
                refine pm_iloadi hG dX12_person_129 rfl ?_
                refine pm_iloadi hG dX12_person_131 rfl ?_
                refine pm_iconst (v := nI 0) hG dX12_person_133 (by decide) ?_
                refine pm_callV (As := [.int (nI k168), .int (nI 2), .int (nI 0)]) (rest := []) hG hR dX12_person_134 (lkX12_97 _ rfl) okV_X12_sets rfl rfl (m_sets (d := 2) (e := 14 * k168 + 112) (by omega) (by omega) (by omega)) rfl rfl hdd (Nat.le_refl _) (Nat.le_refl _) (by decide) (pm_kv (fun σ' cnt' hq => ?_))
                obtain ⟨rfl, rfl⟩ := hq
                obtain ⟨n_187, en_187⟩ : ∃ f : Nat → Int32, f = upd n_181 (14 * k168 + 112) (nI 0) := ⟨_, rfl⟩
                rw [← en_187]
                have hnn_187 := KI.w en_187 hnn_181 (okv_o (show kd (14 * k168 + 112) = (2, 20, false) from (kd_P (k := k168) (c := 2) (by omega) (by omega) (by decide))) (by omega))
                have hrn_187 := NRx.w en_187 hrn_181 (by rw [(show kd (14 * k168 + 112) = (2, 20, false) from (kd_P (k := k168) (c := 2) (by omega) (by omega) (by decide)))])
                have e188 : n_187 0 = nI kc0 := by rw [en_187, pk_un (by omega)]; exact e182
                have e189 : n_187 6 = nI kc6 := by rw [en_187, pk_un (by omega)]; exact e183
                have e190 : n_187 8 = nI k4 := by rw [en_187, pk_un (by omega)]; exact e184
                have e191 : n_187 2 = nI (k168 + 1) := by rw [en_187, pk_un (by omega)]; exact e185
                have e192 : n_187 (14 * k168 + 112) = nI 0 := by rw [en_187, pk_us]
                refine pm_iincX (v := nI 3) (loc' := [some (.ref (B + 54)), some (.int za), some (.int zb), some (.int zc), some (.int zd), some (.int (nI 1)), some (.int (nI k168)), some (.int (nI 3))]) hG dX12_person_137 rfl (nI_1 _) (by decide) (pm_c1b rfl) rfl ?_
                refine pm_goto (tgt := 121) hG dX12_person_140 rfl ?_
                refine pm_iloadi hG dX12_person_121 rfl ?_
                refine pm_bipush (v := nI 14) hG dX12_person_123 (by decide) ?_
                refine pm_icmpN_ge (tgt := 143) hG dX12_person_125 rfl (by omega) (by omega) (fun q => absurd q (by omega)) (fun _ => ?_)
                refine pm_aloadn hG dX12_person_128 rfl ?_
                refine pm_iloadi hG dX12_person_129 rfl ?_
                refine pm_iloadi hG dX12_person_131 rfl ?_
                refine pm_iconst (v := nI 0) hG dX12_person_133 (by decide) ?_
                refine pm_callV (As := [.int (nI k168), .int (nI 3), .int (nI 0)]) (rest := []) hG hR dX12_person_134 (lkX12_97 _ rfl) okV_X12_sets rfl rfl (m_sets (d := 2) (e := 14 * k168 + 113) (by omega) (by omega) (by omega)) rfl rfl hdd (Nat.le_refl _) (Nat.le_refl _) (by decide) (pm_kv (fun σ' cnt' hq => ?_))
                obtain ⟨rfl, rfl⟩ := hq
                obtain ⟨n_193, en_193⟩ : ∃ f : Nat → Int32, f = upd n_187 (14 * k168 + 113) (nI 0) := ⟨_, rfl⟩
                rw [← en_193]
                have hnn_193 := KI.w en_193 hnn_187 (okv_o (show kd (14 * k168 + 113) = (2, 20, false) from (kd_P (k := k168) (c := 3) (by omega) (by omega) (by decide))) (by omega))
                have hrn_193 := NRx.w en_193 hrn_187 (by rw [(show kd (14 * k168 + 113) = (2, 20, false) from (kd_P (k := k168) (c := 3) (by omega) (by omega) (by decide)))])
                have e194 : n_193 0 = nI kc0 := by rw [en_193, pk_un (by omega)]; exact e188
                have e195 : n_193 6 = nI kc6 := by rw [en_193, pk_un (by omega)]; exact e189
                have e196 : n_193 8 = nI k4 := by rw [en_193, pk_un (by omega)]; exact e190
                have e197 : n_193 2 = nI (k168 + 1) := by rw [en_193, pk_un (by omega)]; exact e191
                have e198 : n_193 (14 * k168 + 113) = nI 0 := by rw [en_193, pk_us]
                refine pm_iincX (v := nI 4) (loc' := [some (.ref (B + 54)), some (.int za), some (.int zb), some (.int zc), some (.int zd), some (.int (nI 1)), some (.int (nI k168)), some (.int (nI 4))]) hG dX12_person_137 rfl (nI_1 _) (by decide) (pm_c1b rfl) rfl ?_
                refine pm_goto (tgt := 121) hG dX12_person_140 rfl ?_
                refine pm_iloadi hG dX12_person_121 rfl ?_
                refine pm_bipush (v := nI 14) hG dX12_person_123 (by decide) ?_
                refine pm_icmpN_ge (tgt := 143) hG dX12_person_125 rfl (by omega) (by omega) (fun q => absurd q (by omega)) (fun _ => ?_)
                refine pm_aloadn hG dX12_person_128 rfl ?_
                refine pm_iloadi hG dX12_person_129 rfl ?_
                refine pm_iloadi hG dX12_person_131 rfl ?_
                refine pm_iconst (v := nI 0) hG dX12_person_133 (by decide) ?_
                refine pm_callV (As := [.int (nI k168), .int (nI 4), .int (nI 0)]) (rest := []) hG hR dX12_person_134 (lkX12_97 _ rfl) okV_X12_sets rfl rfl (m_sets (d := 2) (e := 14 * k168 + 114) (by omega) (by omega) (by omega)) rfl rfl hdd (Nat.le_refl _) (Nat.le_refl _) (by decide) (pm_kv (fun σ' cnt' hq => ?_))
                obtain ⟨rfl, rfl⟩ := hq
                obtain ⟨n_199, en_199⟩ : ∃ f : Nat → Int32, f = upd n_193 (14 * k168 + 114) (nI 0) := ⟨_, rfl⟩
                rw [← en_199]
                have hnn_199 := KI.w en_199 hnn_193 (okv_o (show kd (14 * k168 + 114) = (2, 10, false) from (kd_P (k := k168) (c := 4) (by omega) (by omega) (by decide))) (by omega))
                have hrn_199 := NRx.w en_199 hrn_193 (by rw [(show kd (14 * k168 + 114) = (2, 10, false) from (kd_P (k := k168) (c := 4) (by omega) (by omega) (by decide)))])
                have e200 : n_199 0 = nI kc0 := by rw [en_199, pk_un (by omega)]; exact e194
                have e201 : n_199 6 = nI kc6 := by rw [en_199, pk_un (by omega)]; exact e195
                have e202 : n_199 8 = nI k4 := by rw [en_199, pk_un (by omega)]; exact e196
                have e203 : n_199 2 = nI (k168 + 1) := by rw [en_199, pk_un (by omega)]; exact e197
                have e204 : n_199 (14 * k168 + 114) = nI 0 := by rw [en_199, pk_us]
                refine pm_iincX (v := nI 5) (loc' := [some (.ref (B + 54)), some (.int za), some (.int zb), some (.int zc), some (.int zd), some (.int (nI 1)), some (.int (nI k168)), some (.int (nI 5))]) hG dX12_person_137 rfl (nI_1 _) (by decide) (pm_c1b rfl) rfl ?_
                refine pm_goto (tgt := 121) hG dX12_person_140 rfl ?_
                refine pm_iloadi hG dX12_person_121 rfl ?_
                refine pm_bipush (v := nI 14) hG dX12_person_123 (by decide) ?_
                refine pm_icmpN_ge (tgt := 143) hG dX12_person_125 rfl (by omega) (by omega) (fun q => absurd q (by omega)) (fun _ => ?_)
                refine pm_aloadn hG dX12_person_128 rfl ?_
                refine pm_iloadi hG dX12_person_129 rfl ?_
                refine pm_iloadi hG dX12_person_131 rfl ?_
                refine pm_iconst (v := nI 0) hG dX12_person_133 (by decide) ?_
                refine pm_callV (As := [.int (nI k168), .int (nI 5), .int (nI 0)]) (rest := []) hG hR dX12_person_134 (lkX12_97 _ rfl) okV_X12_sets rfl rfl (m_sets (d := 2) (e := 14 * k168 + 115) (by omega) (by omega) (by omega)) rfl rfl hdd (Nat.le_refl _) (Nat.le_refl _) (by decide) (pm_kv (fun σ' cnt' hq => ?_))
                obtain ⟨rfl, rfl⟩ := hq
                obtain ⟨n_205, en_205⟩ : ∃ f : Nat → Int32, f = upd n_199 (14 * k168 + 115) (nI 0) := ⟨_, rfl⟩
                rw [← en_205]
                have hnn_205 := KI.w en_205 hnn_199 (okv_n (show kd (14 * k168 + 115) = (1, 10, false) from (kd_P (k := k168) (c := 5) (by omega) (by omega) (by decide))) (by omega))
                have hrn_205 := NRx.w en_205 hrn_199 (by rw [(show kd (14 * k168 + 115) = (1, 10, false) from (kd_P (k := k168) (c := 5) (by omega) (by omega) (by decide)))])
                have e206 : n_205 0 = nI kc0 := by rw [en_205, pk_un (by omega)]; exact e200
                have e207 : n_205 6 = nI kc6 := by rw [en_205, pk_un (by omega)]; exact e201
                have e208 : n_205 8 = nI k4 := by rw [en_205, pk_un (by omega)]; exact e202
                have e209 : n_205 2 = nI (k168 + 1) := by rw [en_205, pk_un (by omega)]; exact e203
                have e210 : n_205 (14 * k168 + 115) = nI 0 := by rw [en_205, pk_us]
                refine pm_iincX (v := nI 6) (loc' := [some (.ref (B + 54)), some (.int za), some (.int zb), some (.int zc), some (.int zd), some (.int (nI 1)), some (.int (nI k168)), some (.int (nI 6))]) hG dX12_person_137 rfl (nI_1 _) (by decide) (pm_c1b rfl) rfl ?_
                refine pm_goto (tgt := 121) hG dX12_person_140 rfl ?_
                refine pm_iloadi hG dX12_person_121 rfl ?_
                refine pm_bipush (v := nI 14) hG dX12_person_123 (by decide) ?_
                refine pm_icmpN_ge (tgt := 143) hG dX12_person_125 rfl (by omega) (by omega) (fun q => absurd q (by omega)) (fun _ => ?_)
                refine pm_aloadn hG dX12_person_128 rfl ?_
                refine pm_iloadi hG dX12_person_129 rfl ?_
                refine pm_iloadi hG dX12_person_131 rfl ?_
                refine pm_iconst (v := nI 0) hG dX12_person_133 (by decide) ?_
                refine pm_callV (As := [.int (nI k168), .int (nI 6), .int (nI 0)]) (rest := []) hG hR dX12_person_134 (lkX12_97 _ rfl) okV_X12_sets rfl rfl (m_sets (d := 2) (e := 14 * k168 + 116) (by omega) (by omega) (by omega)) rfl rfl hdd (Nat.le_refl _) (Nat.le_refl _) (by decide) (pm_kv (fun σ' cnt' hq => ?_))
                obtain ⟨rfl, rfl⟩ := hq
                obtain ⟨n_211, en_211⟩ : ∃ f : Nat → Int32, f = upd n_205 (14 * k168 + 116) (nI 0) := ⟨_, rfl⟩
                rw [← en_211]
                have hnn_211 := KI.w en_211 hnn_205 (okv_f (show kd (14 * k168 + 116) = (0, 0, false) from (kd_P (k := k168) (c := 6) (by omega) (by omega) (by decide))))
                have hrn_211 := NRx.w en_211 hrn_205 (by rw [(show kd (14 * k168 + 116) = (0, 0, false) from (kd_P (k := k168) (c := 6) (by omega) (by omega) (by decide)))])
                have e212 : n_211 0 = nI kc0 := by rw [en_211, pk_un (by omega)]; exact e206
                have e213 : n_211 6 = nI kc6 := by rw [en_211, pk_un (by omega)]; exact e207
                have e214 : n_211 8 = nI k4 := by rw [en_211, pk_un (by omega)]; exact e208
                have e215 : n_211 2 = nI (k168 + 1) := by rw [en_211, pk_un (by omega)]; exact e209
                have e216 : n_211 (14 * k168 + 116) = nI 0 := by rw [en_211, pk_us]
                refine pm_iincX (v := nI 7) (loc' := [some (.ref (B + 54)), some (.int za), some (.int zb), some (.int zc), some (.int zd), some (.int (nI 1)), some (.int (nI k168)), some (.int (nI 7))]) hG dX12_person_137 rfl (nI_1 _) (by decide) (pm_c1b rfl) rfl ?_
                refine pm_goto (tgt := 121) hG dX12_person_140 rfl ?_
                refine pm_iloadi hG dX12_person_121 rfl ?_
                refine pm_bipush (v := nI 14) hG dX12_person_123 (by decide) ?_
                refine pm_icmpN_ge (tgt := 143) hG dX12_person_125 rfl (by omega) (by omega) (fun q => absurd q (by omega)) (fun _ => ?_)
                refine pm_aloadn hG dX12_person_128 rfl ?_
                refine pm_iloadi hG dX12_person_129 rfl ?_
                refine pm_iloadi hG dX12_person_131 rfl ?_
                refine pm_iconst (v := nI 0) hG dX12_person_133 (by decide) ?_
                refine pm_callV (As := [.int (nI k168), .int (nI 7), .int (nI 0)]) (rest := []) hG hR dX12_person_134 (lkX12_97 _ rfl) okV_X12_sets rfl rfl (m_sets (d := 2) (e := 14 * k168 + 117) (by omega) (by omega) (by omega)) rfl rfl hdd (Nat.le_refl _) (Nat.le_refl _) (by decide) (pm_kv (fun σ' cnt' hq => ?_))
                obtain ⟨rfl, rfl⟩ := hq
                obtain ⟨n_217, en_217⟩ : ∃ f : Nat → Int32, f = upd n_211 (14 * k168 + 117) (nI 0) := ⟨_, rfl⟩
                rw [← en_217]
                have hnn_217 := KI.w en_217 hnn_211 (okv_f (show kd (14 * k168 + 117) = (0, 0, false) from (kd_P (k := k168) (c := 7) (by omega) (by omega) (by decide))))
                have hrn_217 := NRx.w en_217 hrn_211 (by rw [(show kd (14 * k168 + 117) = (0, 0, false) from (kd_P (k := k168) (c := 7) (by omega) (by omega) (by decide)))])
                have e218 : n_217 0 = nI kc0 := by rw [en_217, pk_un (by omega)]; exact e212
                have e219 : n_217 6 = nI kc6 := by rw [en_217, pk_un (by omega)]; exact e213
                have e220 : n_217 8 = nI k4 := by rw [en_217, pk_un (by omega)]; exact e214
                have e221 : n_217 2 = nI (k168 + 1) := by rw [en_217, pk_un (by omega)]; exact e215
                have e222 : n_217 (14 * k168 + 117) = nI 0 := by rw [en_217, pk_us]
                refine pm_iincX (v := nI 8) (loc' := [some (.ref (B + 54)), some (.int za), some (.int zb), some (.int zc), some (.int zd), some (.int (nI 1)), some (.int (nI k168)), some (.int (nI 8))]) hG dX12_person_137 rfl (nI_1 _) (by decide) (pm_c1b rfl) rfl ?_
                refine pm_goto (tgt := 121) hG dX12_person_140 rfl ?_
                refine pm_iloadi hG dX12_person_121 rfl ?_
                refine pm_bipush (v := nI 14) hG dX12_person_123 (by decide) ?_
                refine pm_icmpN_ge (tgt := 143) hG dX12_person_125 rfl (by omega) (by omega) (fun q => absurd q (by omega)) (fun _ => ?_)
                refine pm_aloadn hG dX12_person_128 rfl ?_
                refine pm_iloadi hG dX12_person_129 rfl ?_
                refine pm_iloadi hG dX12_person_131 rfl ?_
                refine pm_iconst (v := nI 0) hG dX12_person_133 (by decide) ?_
                refine pm_callV (As := [.int (nI k168), .int (nI 8), .int (nI 0)]) (rest := []) hG hR dX12_person_134 (lkX12_97 _ rfl) okV_X12_sets rfl rfl (m_sets (d := 2) (e := 14 * k168 + 118) (by omega) (by omega) (by omega)) rfl rfl hdd (Nat.le_refl _) (Nat.le_refl _) (by decide) (pm_kv (fun σ' cnt' hq => ?_))
                obtain ⟨rfl, rfl⟩ := hq
                obtain ⟨n_223, en_223⟩ : ∃ f : Nat → Int32, f = upd n_217 (14 * k168 + 118) (nI 0) := ⟨_, rfl⟩
                rw [← en_223]
                have hnn_223 := KI.w en_223 hnn_217 (okv_f (show kd (14 * k168 + 118) = (0, 0, false) from (kd_P (k := k168) (c := 8) (by omega) (by omega) (by decide))))
                have hrn_223 := NRx.w en_223 hrn_217 (by rw [(show kd (14 * k168 + 118) = (0, 0, false) from (kd_P (k := k168) (c := 8) (by omega) (by omega) (by decide)))])
                have e224 : n_223 0 = nI kc0 := by rw [en_223, pk_un (by omega)]; exact e218
                have e225 : n_223 6 = nI kc6 := by rw [en_223, pk_un (by omega)]; exact e219
                have e226 : n_223 8 = nI k4 := by rw [en_223, pk_un (by omega)]; exact e220
                have e227 : n_223 2 = nI (k168 + 1) := by rw [en_223, pk_un (by omega)]; exact e221
                have e228 : n_223 (14 * k168 + 118) = nI 0 := by rw [en_223, pk_us]
                refine pm_iincX (v := nI 9) (loc' := [some (.ref (B + 54)), some (.int za), some (.int zb), some (.int zc), some (.int zd), some (.int (nI 1)), some (.int (nI k168)), some (.int (nI 9))]) hG dX12_person_137 rfl (nI_1 _) (by decide) (pm_c1b rfl) rfl ?_
                refine pm_goto (tgt := 121) hG dX12_person_140 rfl ?_
                refine pm_iloadi hG dX12_person_121 rfl ?_
                refine pm_bipush (v := nI 14) hG dX12_person_123 (by decide) ?_
                refine pm_icmpN_ge (tgt := 143) hG dX12_person_125 rfl (by omega) (by omega) (fun q => absurd q (by omega)) (fun _ => ?_)
                refine pm_aloadn hG dX12_person_128 rfl ?_
                refine pm_iloadi hG dX12_person_129 rfl ?_
                refine pm_iloadi hG dX12_person_131 rfl ?_
                refine pm_iconst (v := nI 0) hG dX12_person_133 (by decide) ?_
                refine pm_callV (As := [.int (nI k168), .int (nI 9), .int (nI 0)]) (rest := []) hG hR dX12_person_134 (lkX12_97 _ rfl) okV_X12_sets rfl rfl (m_sets (d := 2) (e := 14 * k168 + 119) (by omega) (by omega) (by omega)) rfl rfl hdd (Nat.le_refl _) (Nat.le_refl _) (by decide) (pm_kv (fun σ' cnt' hq => ?_))
                obtain ⟨rfl, rfl⟩ := hq
                obtain ⟨n_229, en_229⟩ : ∃ f : Nat → Int32, f = upd n_223 (14 * k168 + 119) (nI 0) := ⟨_, rfl⟩
                rw [← en_229]
                have hnn_229 := KI.w en_229 hnn_223 (okv_o (show kd (14 * k168 + 119) = (2, 2001, false) from (kd_P (k := k168) (c := 9) (by omega) (by omega) (by decide))) (by omega))
                have hrn_229 := NRx.w en_229 hrn_223 (by rw [(show kd (14 * k168 + 119) = (2, 2001, false) from (kd_P (k := k168) (c := 9) (by omega) (by omega) (by decide)))])
                have e230 : n_229 0 = nI kc0 := by rw [en_229, pk_un (by omega)]; exact e224
                have e231 : n_229 6 = nI kc6 := by rw [en_229, pk_un (by omega)]; exact e225
                have e232 : n_229 8 = nI k4 := by rw [en_229, pk_un (by omega)]; exact e226
                have e233 : n_229 2 = nI (k168 + 1) := by rw [en_229, pk_un (by omega)]; exact e227
                have e234 : n_229 (14 * k168 + 119) = nI 0 := by rw [en_229, pk_us]
                refine pm_iincX (v := nI 10) (loc' := [some (.ref (B + 54)), some (.int za), some (.int zb), some (.int zc), some (.int zd), some (.int (nI 1)), some (.int (nI k168)), some (.int (nI 10))]) hG dX12_person_137 rfl (nI_1 _) (by decide) (pm_c1b rfl) rfl ?_
                refine pm_goto (tgt := 121) hG dX12_person_140 rfl ?_
                refine pm_iloadi hG dX12_person_121 rfl ?_
                refine pm_bipush (v := nI 14) hG dX12_person_123 (by decide) ?_
                refine pm_icmpN_ge (tgt := 143) hG dX12_person_125 rfl (by omega) (by omega) (fun q => absurd q (by omega)) (fun _ => ?_)
                refine pm_aloadn hG dX12_person_128 rfl ?_
                refine pm_iloadi hG dX12_person_129 rfl ?_
                refine pm_iloadi hG dX12_person_131 rfl ?_
                refine pm_iconst (v := nI 0) hG dX12_person_133 (by decide) ?_
                refine pm_callV (As := [.int (nI k168), .int (nI 10), .int (nI 0)]) (rest := []) hG hR dX12_person_134 (lkX12_97 _ rfl) okV_X12_sets rfl rfl (m_sets (d := 2) (e := 14 * k168 + 120) (by omega) (by omega) (by omega)) rfl rfl hdd (Nat.le_refl _) (Nat.le_refl _) (by decide) (pm_kv (fun σ' cnt' hq => ?_))
                obtain ⟨rfl, rfl⟩ := hq
                obtain ⟨n_235, en_235⟩ : ∃ f : Nat → Int32, f = upd n_229 (14 * k168 + 120) (nI 0) := ⟨_, rfl⟩
                rw [← en_235]
                have hnn_235 := KI.w en_235 hnn_229 (okv_f (show kd (14 * k168 + 120) = (0, 0, false) from (kd_P (k := k168) (c := 10) (by omega) (by omega) (by decide))))
                have hrn_235 := NRx.w en_235 hrn_229 (by rw [(show kd (14 * k168 + 120) = (0, 0, false) from (kd_P (k := k168) (c := 10) (by omega) (by omega) (by decide)))])
                have e236 : n_235 0 = nI kc0 := by rw [en_235, pk_un (by omega)]; exact e230
                have e237 : n_235 6 = nI kc6 := by rw [en_235, pk_un (by omega)]; exact e231
                have e238 : n_235 8 = nI k4 := by rw [en_235, pk_un (by omega)]; exact e232
                have e239 : n_235 2 = nI (k168 + 1) := by rw [en_235, pk_un (by omega)]; exact e233
                have e240 : n_235 (14 * k168 + 120) = nI 0 := by rw [en_235, pk_us]
                refine pm_iincX (v := nI 11) (loc' := [some (.ref (B + 54)), some (.int za), some (.int zb), some (.int zc), some (.int zd), some (.int (nI 1)), some (.int (nI k168)), some (.int (nI 11))]) hG dX12_person_137 rfl (nI_1 _) (by decide) (pm_c1b rfl) rfl ?_
                refine pm_goto (tgt := 121) hG dX12_person_140 rfl ?_
                refine pm_iloadi hG dX12_person_121 rfl ?_
                refine pm_bipush (v := nI 14) hG dX12_person_123 (by decide) ?_
                refine pm_icmpN_ge (tgt := 143) hG dX12_person_125 rfl (by omega) (by omega) (fun q => absurd q (by omega)) (fun _ => ?_)
                refine pm_aloadn hG dX12_person_128 rfl ?_
                refine pm_iloadi hG dX12_person_129 rfl ?_
                refine pm_iloadi hG dX12_person_131 rfl ?_
                refine pm_iconst (v := nI 0) hG dX12_person_133 (by decide) ?_
                refine pm_callV (As := [.int (nI k168), .int (nI 11), .int (nI 0)]) (rest := []) hG hR dX12_person_134 (lkX12_97 _ rfl) okV_X12_sets rfl rfl (m_sets (d := 2) (e := 14 * k168 + 121) (by omega) (by omega) (by omega)) rfl rfl hdd (Nat.le_refl _) (Nat.le_refl _) (by decide) (pm_kv (fun σ' cnt' hq => ?_))
                obtain ⟨rfl, rfl⟩ := hq
                obtain ⟨n_241, en_241⟩ : ∃ f : Nat → Int32, f = upd n_235 (14 * k168 + 121) (nI 0) := ⟨_, rfl⟩
                rw [← en_241]
                have hnn_241 := KI.w en_241 hnn_235 (okv_n (show kd (14 * k168 + 121) = (1, 2, true) from (kd_P (k := k168) (c := 11) (by omega) (by omega) (by decide))) (by omega))
                have hrn_241 := NRx.unseat (p := k168) en_241 hrn_235 (by omega)
                have e242 : n_241 0 = nI kc0 := by rw [en_241, pk_un (by omega)]; exact e236
                have e243 : n_241 6 = nI kc6 := by rw [en_241, pk_un (by omega)]; exact e237
                have e244 : n_241 8 = nI k4 := by rw [en_241, pk_un (by omega)]; exact e238
                have e245 : n_241 2 = nI (k168 + 1) := by rw [en_241, pk_un (by omega)]; exact e239
                have e246 : n_241 (14 * k168 + 121) = nI 0 := by rw [en_241, pk_us]
                refine pm_iincX (v := nI 12) (loc' := [some (.ref (B + 54)), some (.int za), some (.int zb), some (.int zc), some (.int zd), some (.int (nI 1)), some (.int (nI k168)), some (.int (nI 12))]) hG dX12_person_137 rfl (nI_1 _) (by decide) (pm_c1b rfl) rfl ?_
                refine pm_goto (tgt := 121) hG dX12_person_140 rfl ?_
                refine pm_iloadi hG dX12_person_121 rfl ?_
                refine pm_bipush (v := nI 14) hG dX12_person_123 (by decide) ?_
                refine pm_icmpN_ge (tgt := 143) hG dX12_person_125 rfl (by omega) (by omega) (fun q => absurd q (by omega)) (fun _ => ?_)
                refine pm_aloadn hG dX12_person_128 rfl ?_
                refine pm_iloadi hG dX12_person_129 rfl ?_
                refine pm_iloadi hG dX12_person_131 rfl ?_
                refine pm_iconst (v := nI 0) hG dX12_person_133 (by decide) ?_
                refine pm_callV (As := [.int (nI k168), .int (nI 12), .int (nI 0)]) (rest := []) hG hR dX12_person_134 (lkX12_97 _ rfl) okV_X12_sets rfl rfl (m_sets (d := 2) (e := 14 * k168 + 122) (by omega) (by omega) (by omega)) rfl rfl hdd (Nat.le_refl _) (Nat.le_refl _) (by decide) (pm_kv (fun σ' cnt' hq => ?_))
                obtain ⟨rfl, rfl⟩ := hq
                obtain ⟨n_247, en_247⟩ : ∃ f : Nat → Int32, f = upd n_241 (14 * k168 + 122) (nI 0) := ⟨_, rfl⟩
                rw [← en_247]
                have hnn_247 := KI.w en_247 hnn_241 (okv_f (show kd (14 * k168 + 122) = (0, 0, false) from (kd_P (k := k168) (c := 12) (by omega) (by omega) (by decide))))
                have hrn_247 := NRx.w en_247 hrn_241 (by rw [(show kd (14 * k168 + 122) = (0, 0, false) from (kd_P (k := k168) (c := 12) (by omega) (by omega) (by decide)))])
                have e248 : n_247 0 = nI kc0 := by rw [en_247, pk_un (by omega)]; exact e242
                have e249 : n_247 6 = nI kc6 := by rw [en_247, pk_un (by omega)]; exact e243
                have e250 : n_247 8 = nI k4 := by rw [en_247, pk_un (by omega)]; exact e244
                have e251 : n_247 2 = nI (k168 + 1) := by rw [en_247, pk_un (by omega)]; exact e245
                have e252 : n_247 (14 * k168 + 122) = nI 0 := by rw [en_247, pk_us]
                refine pm_iincX (v := nI 13) (loc' := [some (.ref (B + 54)), some (.int za), some (.int zb), some (.int zc), some (.int zd), some (.int (nI 1)), some (.int (nI k168)), some (.int (nI 13))]) hG dX12_person_137 rfl (nI_1 _) (by decide) (pm_c1b rfl) rfl ?_
                refine pm_goto (tgt := 121) hG dX12_person_140 rfl ?_
                refine pm_iloadi hG dX12_person_121 rfl ?_
                refine pm_bipush (v := nI 14) hG dX12_person_123 (by decide) ?_
                refine pm_icmpN_ge (tgt := 143) hG dX12_person_125 rfl (by omega) (by omega) (fun q => absurd q (by omega)) (fun _ => ?_)
                refine pm_aloadn hG dX12_person_128 rfl ?_
                refine pm_iloadi hG dX12_person_129 rfl ?_
                refine pm_iloadi hG dX12_person_131 rfl ?_
                refine pm_iconst (v := nI 0) hG dX12_person_133 (by decide) ?_
                refine pm_callV (As := [.int (nI k168), .int (nI 13), .int (nI 0)]) (rest := []) hG hR dX12_person_134 (lkX12_97 _ rfl) okV_X12_sets rfl rfl (m_sets (d := 2) (e := 14 * k168 + 123) (by omega) (by omega) (by omega)) rfl rfl hdd (Nat.le_refl _) (Nat.le_refl _) (by decide) (pm_kv (fun σ' cnt' hq => ?_))
                obtain ⟨rfl, rfl⟩ := hq
                obtain ⟨n_253, en_253⟩ : ∃ f : Nat → Int32, f = upd n_247 (14 * k168 + 123) (nI 0) := ⟨_, rfl⟩
                rw [← en_253]
                have hnn_253 := KI.w en_253 hnn_247 (okv_f (show kd (14 * k168 + 123) = (0, 0, false) from (kd_P (k := k168) (c := 13) (by omega) (by omega) (by decide))))
                have hrn_253 := NRx.w en_253 hrn_247 (by rw [(show kd (14 * k168 + 123) = (0, 0, false) from (kd_P (k := k168) (c := 13) (by omega) (by omega) (by decide)))])
                have e254 : n_253 0 = nI kc0 := by rw [en_253, pk_un (by omega)]; exact e248
                have e255 : n_253 6 = nI kc6 := by rw [en_253, pk_un (by omega)]; exact e249
                have e256 : n_253 8 = nI k4 := by rw [en_253, pk_un (by omega)]; exact e250
                have e257 : n_253 2 = nI (k168 + 1) := by rw [en_253, pk_un (by omega)]; exact e251
                have e258 : n_253 (14 * k168 + 123) = nI 0 := by rw [en_253, pk_us]
                refine pm_iincX (v := nI 14) (loc' := [some (.ref (B + 54)), some (.int za), some (.int zb), some (.int zc), some (.int zd), some (.int (nI 1)), some (.int (nI k168)), some (.int (nI 14))]) hG dX12_person_137 rfl (nI_1 _) (by decide) (pm_c1b rfl) rfl ?_
                refine pm_goto (tgt := 121) hG dX12_person_140 rfl ?_
                refine pm_iloadi hG dX12_person_121 rfl ?_
                refine pm_bipush (v := nI 14) hG dX12_person_123 (by decide) ?_
                refine pm_icmpN_ge (tgt := 143) hG dX12_person_125 rfl (by omega) (by omega) (fun _ => ?_) (fun q => absurd q (by omega))
                refine pm_aloadn hG dX12_person_143 rfl ?_
                refine pm_iloadi hG dX12_person_144 rfl ?_
                refine pm_iconst (v := nI 0) hG dX12_person_146 (by decide) ?_
                refine pm_iloadn hG dX12_person_147 rfl ?_
                refine pm_top (v := nI k3) ek3 ?_
                refine pm_callV (As := [.int (nI k168), .int (nI 0), .int (nI k3)]) (rest := []) hG hR dX12_person_148 (lkX12_97 _ rfl) okV_X12_sets rfl rfl (m_sets (d := 2) (e := 14 * k168 + 110) (by omega) (by omega) (by omega)) rfl rfl hdd (Nat.le_refl _) (Nat.le_refl _) (by decide) (pm_kv (fun σ' cnt' hq => ?_))
                obtain ⟨rfl, rfl⟩ := hq
                obtain ⟨n_259, en_259⟩ : ∃ f : Nat → Int32, f = upd n_253 (14 * k168 + 110) (nI k3) := ⟨_, rfl⟩
                rw [← en_259]
                have hnn_259 := KI.w en_259 hnn_253 (okv_f (show kd (14 * k168 + 110) = (0, 0, false) from (kd_P (k := k168) (c := 0) (by omega) (by omega) (by decide))))
                have hrn_259 := NRx.w en_259 hrn_253 (by rw [(show kd (14 * k168 + 110) = (0, 0, false) from (kd_P (k := k168) (c := 0) (by omega) (by omega) (by decide)))])
                have e260 : n_259 0 = nI kc0 := by rw [en_259, pk_un (by omega)]; exact e254
                have e261 : n_259 6 = nI kc6 := by rw [en_259, pk_un (by omega)]; exact e255
                have e262 : n_259 8 = nI k4 := by rw [en_259, pk_un (by omega)]; exact e256
                have e263 : n_259 2 = nI (k168 + 1) := by rw [en_259, pk_un (by omega)]; exact e257
                have e264 : n_259 (14 * k168 + 110) = nI k3 := by rw [en_259, pk_us]
                refine pm_aloadn hG dX12_person_151 rfl ?_
                refine pm_iloadi hG dX12_person_152 rfl ?_
                refine pm_iconst (v := nI 1) hG dX12_person_154 (by decide) ?_
                refine pm_iloadn hG dX12_person_155 rfl ?_
                refine pm_callV (As := [.int (nI k168), .int (nI 1), .int zb]) (rest := []) hG hR dX12_person_156 (lkX12_97 _ rfl) okV_X12_sets rfl rfl (m_sets (d := 2) (e := 14 * k168 + 111) (by omega) (by omega) (by omega)) rfl rfl hdd (Nat.le_refl _) (Nat.le_refl _) (by decide) (pm_kv (fun σ' cnt' hq => ?_))
                obtain ⟨rfl, rfl⟩ := hq
                obtain ⟨n_265, en_265⟩ : ∃ f : Nat → Int32, f = upd n_259 (14 * k168 + 111) zb := ⟨_, rfl⟩
                rw [← en_265]
                have hnn_265 := KI.w en_265 hnn_259 (okv_f (show kd (14 * k168 + 111) = (0, 0, false) from (kd_P (k := k168) (c := 1) (by omega) (by omega) (by decide))))
                have hrn_265 := NRx.w en_265 hrn_259 (by rw [(show kd (14 * k168 + 111) = (0, 0, false) from (kd_P (k := k168) (c := 1) (by omega) (by omega) (by decide)))])
                have e266 : n_265 0 = nI kc0 := by rw [en_265, pk_un (by omega)]; exact e260
                have e267 : n_265 6 = nI kc6 := by rw [en_265, pk_un (by omega)]; exact e261
                have e268 : n_265 8 = nI k4 := by rw [en_265, pk_un (by omega)]; exact e262
                have e269 : n_265 2 = nI (k168 + 1) := by rw [en_265, pk_un (by omega)]; exact e263
                have e270 : n_265 (14 * k168 + 111) = zb := by rw [en_265, pk_us]
                refine pm_aloadn hG dX12_person_159 rfl ?_
                refine pm_iloadi hG dX12_person_160 rfl ?_
                refine pm_iconst (v := nI 2) hG dX12_person_162 (by decide) ?_
                refine pm_iloadn hG dX12_person_163 rfl ?_
                refine pm_top (v := nI k10) ek10 ?_
                refine pm_bipush (v := nI 100) hG dX12_person_164 (by decide) ?_
                refine pm_idivN hG dX12_person_166 (by omega) (by decide) (by decide) ?_
                refine pm_iconst (v := nI 1) hG dX12_person_167 (by decide) ?_
                refine pm_isub hG dX12_person_168 ?_
                refine pm_top (v := (-1)) ek12 ?_
                refine pm_callV (As := [.int (nI k168), .int (nI 2), .int (-1)]) (rest := []) hG hR dX12_person_169 (lkX12_97 _ rfl) okV_X12_sets rfl rfl (m_sets (d := 2) (e := 14 * k168 + 112) (by omega) (by omega) (by omega)) rfl rfl hdd (Nat.le_refl _) (Nat.le_refl _) (by decide) (pm_kv (fun σ' cnt' hq => ?_))
                obtain ⟨rfl, rfl⟩ := hq
                obtain ⟨n_271, en_271⟩ : ∃ f : Nat → Int32, f = upd n_265 (14 * k168 + 112) (-1) := ⟨_, rfl⟩
                rw [← en_271]
                have hnn_271 := KI.w en_271 hnn_265 (okv_m (show kd (14 * k168 + 112) = (2, 20, false) from (kd_P (k := k168) (c := 2) (by omega) (by omega) (by decide))))
                have hrn_271 := NRx.w en_271 hrn_265 (by rw [(show kd (14 * k168 + 112) = (2, 20, false) from (kd_P (k := k168) (c := 2) (by omega) (by omega) (by decide)))])
                have e272 : n_271 0 = nI kc0 := by rw [en_271, pk_un (by omega)]; exact e266
                have e273 : n_271 6 = nI kc6 := by rw [en_271, pk_un (by omega)]; exact e267
                have e274 : n_271 8 = nI k4 := by rw [en_271, pk_un (by omega)]; exact e268
                have e275 : n_271 2 = nI (k168 + 1) := by rw [en_271, pk_un (by omega)]; exact e269
                have e276 : n_271 (14 * k168 + 112) = (-1) := by rw [en_271, pk_us]
                refine pm_aloadn hG dX12_person_172 rfl ?_
                refine pm_iloadi hG dX12_person_173 rfl ?_
                refine pm_iconst (v := nI 3) hG dX12_person_175 (by decide) ?_
                refine pm_iloadn hG dX12_person_176 rfl ?_
                refine pm_top (v := nI k10) ek10 ?_
                refine pm_bipush (v := nI 100) hG dX12_person_177 (by decide) ?_
                refine pm_iremM hG dX12_person_179 (by omega) (by decide) (by decide) ?_
                refine pm_iconst (v := nI 1) hG dX12_person_180 (by decide) ?_
                refine pm_isub hG dX12_person_181 ?_
                refine pm_top (v := nI k16) ek16 ?_
                refine pm_callV (As := [.int (nI k168), .int (nI 3), .int (nI k16)]) (rest := []) hG hR dX12_person_182 (lkX12_97 _ rfl) okV_X12_sets rfl rfl (m_sets (d := 2) (e := 14 * k168 + 113) (by omega) (by omega) (by omega)) rfl rfl hdd (Nat.le_refl _) (Nat.le_refl _) (by decide) (pm_kv (fun σ' cnt' hq => ?_))
                obtain ⟨rfl, rfl⟩ := hq
                obtain ⟨n_277, en_277⟩ : ∃ f : Nat → Int32, f = upd n_271 (14 * k168 + 113) (nI k16) := ⟨_, rfl⟩
                rw [← en_277]
                have hnn_277 := KI.w en_277 hnn_271 (okv_o (show kd (14 * k168 + 113) = (2, 20, false) from (kd_P (k := k168) (c := 3) (by omega) (by omega) (by decide))) (by omega))
                have hrn_277 := NRx.w en_277 hrn_271 (by rw [(show kd (14 * k168 + 113) = (2, 20, false) from (kd_P (k := k168) (c := 3) (by omega) (by omega) (by decide)))])
                have e278 : n_277 0 = nI kc0 := by rw [en_277, pk_un (by omega)]; exact e272
                have e279 : n_277 6 = nI kc6 := by rw [en_277, pk_un (by omega)]; exact e273
                have e280 : n_277 8 = nI k4 := by rw [en_277, pk_un (by omega)]; exact e274
                have e281 : n_277 2 = nI (k168 + 1) := by rw [en_277, pk_un (by omega)]; exact e275
                have e282 : n_277 (14 * k168 + 113) = nI k16 := by rw [en_277, pk_us]
                refine pm_aloadn hG dX12_person_185 rfl ?_
                refine pm_iloadi hG dX12_person_186 rfl ?_
                refine pm_iconst (v := nI 4) hG dX12_person_188 (by decide) ?_
                refine pm_iloadi hG dX12_person_189 rfl ?_
                refine pm_top (v := nI k167) ek167 ?_
                refine pm_callV (As := [.int (nI k168), .int (nI 4), .int (nI k167)]) (rest := []) hG hR dX12_person_191 (lkX12_97 _ rfl) okV_X12_sets rfl rfl (m_sets (d := 2) (e := 14 * k168 + 114) (by omega) (by omega) (by omega)) rfl rfl hdd (Nat.le_refl _) (Nat.le_refl _) (by decide) (pm_kv (fun σ' cnt' hq => ?_))
                obtain ⟨rfl, rfl⟩ := hq
                obtain ⟨n_283, en_283⟩ : ∃ f : Nat → Int32, f = upd n_277 (14 * k168 + 114) (nI k167) := ⟨_, rfl⟩
                rw [← en_283]
                have hnn_283 := KI.w en_283 hnn_277 (okv_o (show kd (14 * k168 + 114) = (2, 10, false) from (kd_P (k := k168) (c := 4) (by omega) (by omega) (by decide))) (by omega))
                have hrn_283 := NRx.w en_283 hrn_277 (by rw [(show kd (14 * k168 + 114) = (2, 10, false) from (kd_P (k := k168) (c := 4) (by omega) (by omega) (by decide)))])
                have e284 : n_283 0 = nI kc0 := by rw [en_283, pk_un (by omega)]; exact e278
                have e285 : n_283 6 = nI kc6 := by rw [en_283, pk_un (by omega)]; exact e279
                have e286 : n_283 8 = nI k4 := by rw [en_283, pk_un (by omega)]; exact e280
                have e287 : n_283 2 = nI (k168 + 1) := by rw [en_283, pk_un (by omega)]; exact e281
                have e288 : n_283 (14 * k168 + 114) = nI k167 := by rw [en_283, pk_us]
                refine pm_aloadn hG dX12_person_194 rfl ?_
                refine pm_iloadi hG dX12_person_195 rfl ?_
                refine pm_bipush (v := nI 9) hG dX12_person_197 (by decide) ?_
                refine pm_iconst (v := (-1)) hG dX12_person_199 (by decide) ?_
                refine pm_callV (As := [.int (nI k168), .int (nI 9), .int (-1)]) (rest := []) hG hR dX12_person_200 (lkX12_97 _ rfl) okV_X12_sets rfl rfl (m_sets (d := 2) (e := 14 * k168 + 119) (by omega) (by omega) (by omega)) rfl rfl hdd (Nat.le_refl _) (Nat.le_refl _) (by decide) (pm_kv (fun σ' cnt' hq => ?_))
                obtain ⟨rfl, rfl⟩ := hq
                obtain ⟨n_289, en_289⟩ : ∃ f : Nat → Int32, f = upd n_283 (14 * k168 + 119) (-1) := ⟨_, rfl⟩
                rw [← en_289]
                have hnn_289 := KI.w en_289 hnn_283 (okv_m (show kd (14 * k168 + 119) = (2, 2001, false) from (kd_P (k := k168) (c := 9) (by omega) (by omega) (by decide))))
                have hrn_289 := NRx.w en_289 hrn_283 (by rw [(show kd (14 * k168 + 119) = (2, 2001, false) from (kd_P (k := k168) (c := 9) (by omega) (by omega) (by decide)))])
                have e290 : n_289 0 = nI kc0 := by rw [en_289, pk_un (by omega)]; exact e284
                have e291 : n_289 6 = nI kc6 := by rw [en_289, pk_un (by omega)]; exact e285
                have e292 : n_289 8 = nI k4 := by rw [en_289, pk_un (by omega)]; exact e286
                have e293 : n_289 2 = nI (k168 + 1) := by rw [en_289, pk_un (by omega)]; exact e287
                have e294 : n_289 (14 * k168 + 119) = (-1) := by rw [en_289, pk_us]
                refine pm_aloadn hG dX12_person_203 rfl ?_
                refine pm_iloadi hG dX12_person_204 rfl ?_
                refine pm_bipush (v := nI 10) hG dX12_person_206 (by decide) ?_
                refine pm_iconst (v := (-1)) hG dX12_person_208 (by decide) ?_
                refine pm_callV (As := [.int (nI k168), .int (nI 10), .int (-1)]) (rest := []) hG hR dX12_person_209 (lkX12_97 _ rfl) okV_X12_sets rfl rfl (m_sets (d := 2) (e := 14 * k168 + 120) (by omega) (by omega) (by omega)) rfl rfl hdd (Nat.le_refl _) (Nat.le_refl _) (by decide) (pm_kv (fun σ' cnt' hq => ?_))
                obtain ⟨rfl, rfl⟩ := hq
                obtain ⟨n_295, en_295⟩ : ∃ f : Nat → Int32, f = upd n_289 (14 * k168 + 120) (-1) := ⟨_, rfl⟩
                rw [← en_295]
                have hnn_295 := KI.w en_295 hnn_289 (okv_f (show kd (14 * k168 + 120) = (0, 0, false) from (kd_P (k := k168) (c := 10) (by omega) (by omega) (by decide))))
                have hrn_295 := NRx.w en_295 hrn_289 (by rw [(show kd (14 * k168 + 120) = (0, 0, false) from (kd_P (k := k168) (c := 10) (by omega) (by omega) (by decide)))])
                have e296 : n_295 0 = nI kc0 := by rw [en_295, pk_un (by omega)]; exact e290
                have e297 : n_295 6 = nI kc6 := by rw [en_295, pk_un (by omega)]; exact e291
                have e298 : n_295 8 = nI k4 := by rw [en_295, pk_un (by omega)]; exact e292
                have e299 : n_295 2 = nI (k168 + 1) := by rw [en_295, pk_un (by omega)]; exact e293
                have e300 : n_295 (14 * k168 + 120) = (-1) := by rw [en_295, pk_us]
                refine pm_aloadn hG dX12_person_212 rfl ?_
                refine pm_iloadi hG dX12_person_213 rfl ?_
                refine pm_bipush (v := nI 12) hG dX12_person_215 (by decide) ?_
                refine pm_iconst (v := nI 1) hG dX12_person_217 (by decide) ?_
                refine pm_callV (As := [.int (nI k168), .int (nI 12), .int (nI 1)]) (rest := []) hG hR dX12_person_218 (lkX12_97 _ rfl) okV_X12_sets rfl rfl (m_sets (d := 2) (e := 14 * k168 + 122) (by omega) (by omega) (by omega)) rfl rfl hdd (Nat.le_refl _) (Nat.le_refl _) (by decide) (pm_kv (fun σ' cnt' hq => ?_))
                obtain ⟨rfl, rfl⟩ := hq
                obtain ⟨n_301, en_301⟩ : ∃ f : Nat → Int32, f = upd n_295 (14 * k168 + 122) (nI 1) := ⟨_, rfl⟩
                rw [← en_301]
                have hnn_301 := KI.w en_301 hnn_295 (okv_f (show kd (14 * k168 + 122) = (0, 0, false) from (kd_P (k := k168) (c := 12) (by omega) (by omega) (by decide))))
                have hrn_301 := NRx.w en_301 hrn_295 (by rw [(show kd (14 * k168 + 122) = (0, 0, false) from (kd_P (k := k168) (c := 12) (by omega) (by omega) (by decide)))])
                have e302 : n_301 0 = nI kc0 := by rw [en_301, pk_un (by omega)]; exact e296
                have e303 : n_301 6 = nI kc6 := by rw [en_301, pk_un (by omega)]; exact e297
                have e304 : n_301 8 = nI k4 := by rw [en_301, pk_un (by omega)]; exact e298
                have e305 : n_301 2 = nI (k168 + 1) := by rw [en_301, pk_un (by omega)]; exact e299
                have e306 : n_301 (14 * k168 + 122) = nI 1 := by rw [en_301, pk_us]
                refine pm_iloadi hG dX12_person_221 rfl ?_
                exact pm_iret hG hF dX12_person_223 rfl (Nat.le_refl _) (Nat.le_refl _) ⟨_, rfl, ⟨_, _, _, rfl, hnn_301, hrn_301, e302.trans ekc0.symm, e303.trans ekc6.symm⟩, rfl⟩
              · refine pm_aloadn hG dX12_person_102 rfl ?_
                refine pm_iconst (v := nI 4) hG dX12_person_103 (by decide) ?_
                refine pm_callV (As := [.int (nI 4)]) (rest := []) hG hR dX12_person_104 (lkX12_80 _ rfl) okV_X12_finds rfl rfl (m_finds (d := 2) (by decide) hn hz (by omega)) rfl rfl hdd (Nat.le_refl _) (Nat.le_refl _) (by decide) (pm_ki (fun v307 σ' cnt' hq => ?_))
                obtain ⟨⟨I308, A308, rfl⟩, rfl, fv307⟩ := hq
                exact pm_iret hG hF dX12_person_107 rfl (Nat.le_refl _) (Nat.le_refl _) ⟨_, rfl, ⟨_, _, _, rfl, hn, hr, ekc0.trans ekc0.symm, ekc6.trans ekc6.symm⟩, rfl⟩
            · refine pm_ifN_eq (tgt := 73) hG dX12_person_66 rfl (by omega) (fun _ => ?_) (fun q => absurd q (by omega))
              refine pm_iconst (v := nI 0) hG dX12_person_73 (by decide) ?_
              refine pm_istoreXi (loc' := [some (.ref (B + 54)), some (.int za), some (.int zb), some (.int zc), some (.int zd), some (.int (nI 0)), none, none]) hG dX12_person_74 (by decide) (pm_c1b rfl) rfl ?_
              refine pm_iloadi hG dX12_person_76 rfl ?_
              refine pm_ifN_ne (tgt := 87) hG dX12_person_78 rfl (by omega) (fun q => absurd q (by omega)) (fun _ => ?_)
              refine pm_aloadn hG dX12_person_81 rfl ?_
              refine pm_iconst (v := nI 1) hG dX12_person_82 (by decide) ?_
              refine pm_callV (As := [.int (nI 1)]) (rest := []) hG hR dX12_person_83 (lkX12_80 _ rfl) okV_X12_finds rfl rfl (m_finds (d := 2) (by decide) hn hz (by omega)) rfl rfl hdd (Nat.le_refl _) (Nat.le_refl _) (by decide) (pm_ki (fun v309 σ' cnt' hq => ?_))
              obtain ⟨⟨I310, A310, rfl⟩, rfl, fv309⟩ := hq
              exact pm_iret hG hF dX12_person_86 rfl (Nat.le_refl _) (Nat.le_refl _) ⟨_, rfl, ⟨_, _, _, rfl, hn, hr, ekc0.trans ekc0.symm, ekc6.trans ekc6.symm⟩, rfl⟩
        · refine pm_ifN_eq (tgt := 73) hG dX12_person_42 rfl (by omega) (fun q => absurd q (by omega)) (fun _ => ?_)
          refine pm_aloadn hG dX12_person_45 rfl ?_
          refine pm_iloadn hG dX12_person_46 rfl ?_
          refine pm_top (v := nI k10) ek10 ?_
          refine pm_bipush (v := nI 100) hG dX12_person_47 (by decide) ?_
          refine pm_iremM hG dX12_person_49 (by omega) (by decide) (by decide) ?_
          refine pm_iconst (v := nI 1) hG dX12_person_50 (by decide) ?_
          refine pm_isub hG dX12_person_51 ?_
          refine pm_iconst (v := nI 0) hG dX12_person_52 (by decide) ?_
          refine pm_iloadn hG dX12_person_53 rfl ?_
          refine pm_callV (As := [.int ((nI ((k10 % 100))) - (nI 1)), .int (nI 0), .int zb]) (rest := []) hG hR dX12_person_54 (lkX12_94 _ rfl) okV_X12_isParent rfl rfl (m_isParent (d := 2) (by decide) hn hz) rfl rfl hdd (Nat.le_refl _) (Nat.le_refl _) (by decide) (pm_ki (fun v311 σ' cnt' hq => ?_))
          obtain ⟨rfl, rfl, hq⟩ := hq
          rcases hq with rfl | ⟨rfl, ek312 | ⟨k312, hk312, ek312⟩⟩
          · refine pm_ifN_eq (tgt := 73) hG dX12_person_57 rfl (by omega) (fun _ => ?_) (fun q => absurd q (by omega))
            refine pm_iconst (v := nI 0) hG dX12_person_73 (by decide) ?_
            refine pm_istoreXi (loc' := [some (.ref (B + 54)), some (.int za), some (.int zb), some (.int zc), some (.int zd), some (.int (nI 0)), none, none]) hG dX12_person_74 (by decide) (pm_c1b rfl) rfl ?_
            refine pm_iloadi hG dX12_person_76 rfl ?_
            refine pm_ifN_ne (tgt := 87) hG dX12_person_78 rfl (by omega) (fun q => absurd q (by omega)) (fun _ => ?_)
            refine pm_aloadn hG dX12_person_81 rfl ?_
            refine pm_iconst (v := nI 1) hG dX12_person_82 (by decide) ?_
            refine pm_callV (As := [.int (nI 1)]) (rest := []) hG hR dX12_person_83 (lkX12_80 _ rfl) okV_X12_finds rfl rfl (m_finds (d := 2) (by decide) hn hz (by omega)) rfl rfl hdd (Nat.le_refl _) (Nat.le_refl _) (by decide) (pm_ki (fun v313 σ' cnt' hq => ?_))
            obtain ⟨⟨I314, A314, rfl⟩, rfl, fv313⟩ := hq
            exact pm_iret hG hF dX12_person_86 rfl (Nat.le_refl _) (Nat.le_refl _) ⟨_, rfl, ⟨_, _, _, rfl, hn, hr, ekc0.trans ekc0.symm, ekc6.trans ekc6.symm⟩, rfl⟩
          · refine pm_ifN_eq (tgt := 73) hG dX12_person_57 rfl (by omega) (fun q => absurd q (by omega)) (fun _ => ?_)
            refine pm_aloadn hG dX12_person_60 rfl ?_
            refine pm_iloadi hG dX12_person_61 rfl ?_
            refine pm_callV (As := [.int zd]) (rest := []) hG hR dX12_person_63 (lkX12_84 _ rfl) okV_X12_isTown rfl rfl (m_isTown (d := 2) (by decide) ekc0 (by omega)) rfl rfl hdd (Nat.le_refl _) (Nat.le_refl _) (by decide) (pm_ki (fun v315 σ' cnt' hq => ?_))
            obtain ⟨hq, rfl, rfl⟩ := hq
            rcases hq with ⟨rfl, k317, hk317, ek317⟩ | ⟨rfl, ntk317⟩
            · refine pm_ifN_eq (tgt := 73) hG dX12_person_66 rfl (by omega) (fun q => absurd q (by omega)) (fun _ => ?_)
              refine pm_iconst (v := nI 1) hG dX12_person_69 (by decide) ?_
              refine pm_goto (tgt := 74) hG dX12_person_70 rfl ?_
              refine pm_istoreXi (loc' := [some (.ref (B + 54)), some (.int za), some (.int zb), some (.int zc), some (.int zd), some (.int (nI 1)), none, none]) hG dX12_person_74 (by decide) (pm_c1b rfl) rfl ?_
              refine pm_iloadi hG dX12_person_76 rfl ?_
              refine pm_ifN_ne (tgt := 87) hG dX12_person_78 rfl (by omega) (fun _ => ?_) (fun q => absurd q (by omega))
              refine pm_aloadn hG dX12_person_87 rfl ?_
              refine pm_getf hG dX12_person_88 (flX12_7 _ rfl) rfl rfl ?_
              refine pm_iconst (v := nI 2) hG dX12_person_91 (by decide) ?_
              refine pm_ialdN hG dX12_person_92 rfl (by decide) (by omega) ?_
              obtain ⟨k318, hk318, ek318⟩ := KI.nat hn (show kd 2 = (1, 21, true) by decide)
              refine pm_top (v := nI k318) ek318 ?_
              refine pm_istoreXi (loc' := [some (.ref (B + 54)), some (.int za), some (.int zb), some (.int zc), some (.int zd), some (.int (nI 1)), some (.int (nI k318)), none]) hG dX12_person_93 (by decide) (pm_c1b rfl) rfl ?_
              refine pm_iloadi hG dX12_person_95 rfl ?_
              refine pm_bipush (v := nI 20) hG dX12_person_97 (by decide) ?_
              refine pm_icmpN_ne (tgt := 108) hG dX12_person_99 rfl (by omega) (by omega) (fun c319 => ?_) (fun c319 => ?_)
              · refine pm_aloadn hG dX12_person_108 rfl ?_
                refine pm_getf hG dX12_person_109 (flX12_7 _ rfl) rfl rfl ?_
                refine pm_iconst (v := nI 2) hG dX12_person_112 (by decide) ?_
                refine pm_dup2 hG dX12_person_113 rfl rfl ?_
                refine pm_ialdN hG dX12_person_114 rfl (by decide) (by omega) ?_
                refine pm_top (v := nI k318) ek318 ?_
                refine pm_iconst (v := nI 1) hG dX12_person_115 (by decide) ?_
                refine pm_iaddN (c := k318 + 1) hG dX12_person_116 (by omega) ?_
                refine pm_iastN hG dX12_person_117 rfl (by decide) (by omega) ?_
                refine mdn_now (fun n_320 en_320 => ?_)
                have hnn_320 := KI.w en_320 hn (okv_n (show kd 2 = (1, 21, true) by decide) (by omega))
                have hrn_320 := NRx.pers en_320 hr ekc0 (by omega) ek318 (by omega)
                have e321 : n_320 0 = nI kc0 := by rw [en_320, pk_un (by omega)]; exact ekc0
                have e322 : n_320 6 = nI kc6 := by rw [en_320, pk_un (by omega)]; exact ekc6
                have e323 : n_320 8 = nI k4 := by rw [en_320, pk_un (by omega)]; exact ek4
                have e324 : n_320 2 = nI (k318 + 1) := by rw [en_320, pk_us]
                refine pm_iconst (v := nI 0) hG dX12_person_118 (by decide) ?_
                refine pm_istoreXi (loc' := [some (.ref (B + 54)), some (.int za), some (.int zb), some (.int zc), some (.int zd), some (.int (nI 1)), some (.int (nI k318)), some (.int (nI 0))]) hG dX12_person_119 (by decide) (pm_c1b rfl) rfl ?_
                refine pm_iloadi hG dX12_person_121 rfl ?_
                refine pm_bipush (v := nI 14) hG dX12_person_123 (by decide) ?_
                refine pm_icmpN_ge (tgt := 143) hG dX12_person_125 rfl (by omega) (by omega) (fun q => absurd q (by omega)) (fun _ => ?_)
                refine pm_aloadn hG dX12_person_128 rfl ?_
                refine pm_iloadi hG dX12_person_129 rfl ?_
                refine pm_iloadi hG dX12_person_131 rfl ?_
                refine pm_iconst (v := nI 0) hG dX12_person_133 (by decide) ?_
                refine pm_callV (As := [.int (nI k318), .int (nI 0), .int (nI 0)]) (rest := []) hG hR dX12_person_134 (lkX12_97 _ rfl) okV_X12_sets rfl rfl (m_sets (d := 2) (e := 14 * k318 + 110) (by omega) (by omega) (by omega)) rfl rfl hdd (Nat.le_refl _) (Nat.le_refl _) (by decide) (pm_kv (fun σ' cnt' hq => ?_))
                obtain ⟨rfl, rfl⟩ := hq
                obtain ⟨n_325, en_325⟩ : ∃ f : Nat → Int32, f = upd n_320 (14 * k318 + 110) (nI 0) := ⟨_, rfl⟩
                rw [← en_325]
                have hnn_325 := KI.w en_325 hnn_320 (okv_f (show kd (14 * k318 + 110) = (0, 0, false) from (kd_P (k := k318) (c := 0) (by omega) (by omega) (by decide))))
                have hrn_325 := NRx.w en_325 hrn_320 (by rw [(show kd (14 * k318 + 110) = (0, 0, false) from (kd_P (k := k318) (c := 0) (by omega) (by omega) (by decide)))])
                have e326 : n_325 0 = nI kc0 := by rw [en_325, pk_un (by omega)]; exact e321
                have e327 : n_325 6 = nI kc6 := by rw [en_325, pk_un (by omega)]; exact e322
                have e328 : n_325 8 = nI k4 := by rw [en_325, pk_un (by omega)]; exact e323
                have e329 : n_325 2 = nI (k318 + 1) := by rw [en_325, pk_un (by omega)]; exact e324
                have e330 : n_325 (14 * k318 + 110) = nI 0 := by rw [en_325, pk_us]
                refine pm_iincX (v := nI 1) (loc' := [some (.ref (B + 54)), some (.int za), some (.int zb), some (.int zc), some (.int zd), some (.int (nI 1)), some (.int (nI k318)), some (.int (nI 1))]) hG dX12_person_137 rfl (nI_1 _) (by decide) (pm_c1b rfl) rfl ?_
                refine pm_goto (tgt := 121) hG dX12_person_140 rfl ?_
                refine pm_iloadi hG dX12_person_121 rfl ?_
                refine pm_bipush (v := nI 14) hG dX12_person_123 (by decide) ?_
                refine pm_icmpN_ge (tgt := 143) hG dX12_person_125 rfl (by omega) (by omega) (fun q => absurd q (by omega)) (fun _ => ?_)
                refine pm_aloadn hG dX12_person_128 rfl ?_
                refine pm_iloadi hG dX12_person_129 rfl ?_
                refine pm_iloadi hG dX12_person_131 rfl ?_
                refine pm_iconst (v := nI 0) hG dX12_person_133 (by decide) ?_
                refine pm_callV (As := [.int (nI k318), .int (nI 1), .int (nI 0)]) (rest := []) hG hR dX12_person_134 (lkX12_97 _ rfl) okV_X12_sets rfl rfl (m_sets (d := 2) (e := 14 * k318 + 111) (by omega) (by omega) (by omega)) rfl rfl hdd (Nat.le_refl _) (Nat.le_refl _) (by decide) (pm_kv (fun σ' cnt' hq => ?_))
                obtain ⟨rfl, rfl⟩ := hq
                obtain ⟨n_331, en_331⟩ : ∃ f : Nat → Int32, f = upd n_325 (14 * k318 + 111) (nI 0) := ⟨_, rfl⟩
                rw [← en_331]
                have hnn_331 := KI.w en_331 hnn_325 (okv_f (show kd (14 * k318 + 111) = (0, 0, false) from (kd_P (k := k318) (c := 1) (by omega) (by omega) (by decide))))
                have hrn_331 := NRx.w en_331 hrn_325 (by rw [(show kd (14 * k318 + 111) = (0, 0, false) from (kd_P (k := k318) (c := 1) (by omega) (by omega) (by decide)))])
                have e332 : n_331 0 = nI kc0 := by rw [en_331, pk_un (by omega)]; exact e326
                have e333 : n_331 6 = nI kc6 := by rw [en_331, pk_un (by omega)]; exact e327
                have e334 : n_331 8 = nI k4 := by rw [en_331, pk_un (by omega)]; exact e328
                have e335 : n_331 2 = nI (k318 + 1) := by rw [en_331, pk_un (by omega)]; exact e329
                have e336 : n_331 (14 * k318 + 111) = nI 0 := by rw [en_331, pk_us]
                refine pm_iincX (v := nI 2) (loc' := [some (.ref (B + 54)), some (.int za), some (.int zb), some (.int zc), some (.int zd), some (.int (nI 1)), some (.int (nI k318)), some (.int (nI 2))]) hG dX12_person_137 rfl (nI_1 _) (by decide) (pm_c1b rfl) rfl ?_
                refine pm_goto (tgt := 121) hG dX12_person_140 rfl ?_
                refine pm_iloadi hG dX12_person_121 rfl ?_
                refine pm_bipush (v := nI 14) hG dX12_person_123 (by decide) ?_
                refine pm_icmpN_ge (tgt := 143) hG dX12_person_125 rfl (by omega) (by omega) (fun q => absurd q (by omega)) (fun _ => ?_)
                refine pm_aloadn hG dX12_person_128 rfl ?_
                refine pm_iloadi hG dX12_person_129 rfl ?_
                refine pm_iloadi hG dX12_person_131 rfl ?_
                refine pm_iconst (v := nI 0) hG dX12_person_133 (by decide) ?_
                refine pm_callV (As := [.int (nI k318), .int (nI 2), .int (nI 0)]) (rest := []) hG hR dX12_person_134 (lkX12_97 _ rfl) okV_X12_sets rfl rfl (m_sets (d := 2) (e := 14 * k318 + 112) (by omega) (by omega) (by omega)) rfl rfl hdd (Nat.le_refl _) (Nat.le_refl _) (by decide) (pm_kv (fun σ' cnt' hq => ?_))
                obtain ⟨rfl, rfl⟩ := hq
                obtain ⟨n_337, en_337⟩ : ∃ f : Nat → Int32, f = upd n_331 (14 * k318 + 112) (nI 0) := ⟨_, rfl⟩
                rw [← en_337]
                have hnn_337 := KI.w en_337 hnn_331 (okv_o (show kd (14 * k318 + 112) = (2, 20, false) from (kd_P (k := k318) (c := 2) (by omega) (by omega) (by decide))) (by omega))
                have hrn_337 := NRx.w en_337 hrn_331 (by rw [(show kd (14 * k318 + 112) = (2, 20, false) from (kd_P (k := k318) (c := 2) (by omega) (by omega) (by decide)))])
                have e338 : n_337 0 = nI kc0 := by rw [en_337, pk_un (by omega)]; exact e332
                have e339 : n_337 6 = nI kc6 := by rw [en_337, pk_un (by omega)]; exact e333
                have e340 : n_337 8 = nI k4 := by rw [en_337, pk_un (by omega)]; exact e334
                have e341 : n_337 2 = nI (k318 + 1) := by rw [en_337, pk_un (by omega)]; exact e335
                have e342 : n_337 (14 * k318 + 112) = nI 0 := by rw [en_337, pk_us]
                refine pm_iincX (v := nI 3) (loc' := [some (.ref (B + 54)), some (.int za), some (.int zb), some (.int zc), some (.int zd), some (.int (nI 1)), some (.int (nI k318)), some (.int (nI 3))]) hG dX12_person_137 rfl (nI_1 _) (by decide) (pm_c1b rfl) rfl ?_
                refine pm_goto (tgt := 121) hG dX12_person_140 rfl ?_
                refine pm_iloadi hG dX12_person_121 rfl ?_
                refine pm_bipush (v := nI 14) hG dX12_person_123 (by decide) ?_
                refine pm_icmpN_ge (tgt := 143) hG dX12_person_125 rfl (by omega) (by omega) (fun q => absurd q (by omega)) (fun _ => ?_)
                refine pm_aloadn hG dX12_person_128 rfl ?_
                refine pm_iloadi hG dX12_person_129 rfl ?_
                refine pm_iloadi hG dX12_person_131 rfl ?_
                refine pm_iconst (v := nI 0) hG dX12_person_133 (by decide) ?_
                refine pm_callV (As := [.int (nI k318), .int (nI 3), .int (nI 0)]) (rest := []) hG hR dX12_person_134 (lkX12_97 _ rfl) okV_X12_sets rfl rfl (m_sets (d := 2) (e := 14 * k318 + 113) (by omega) (by omega) (by omega)) rfl rfl hdd (Nat.le_refl _) (Nat.le_refl _) (by decide) (pm_kv (fun σ' cnt' hq => ?_))
                obtain ⟨rfl, rfl⟩ := hq
                obtain ⟨n_343, en_343⟩ : ∃ f : Nat → Int32, f = upd n_337 (14 * k318 + 113) (nI 0) := ⟨_, rfl⟩
                rw [← en_343]
                have hnn_343 := KI.w en_343 hnn_337 (okv_o (show kd (14 * k318 + 113) = (2, 20, false) from (kd_P (k := k318) (c := 3) (by omega) (by omega) (by decide))) (by omega))
                have hrn_343 := NRx.w en_343 hrn_337 (by rw [(show kd (14 * k318 + 113) = (2, 20, false) from (kd_P (k := k318) (c := 3) (by omega) (by omega) (by decide)))])
                have e344 : n_343 0 = nI kc0 := by rw [en_343, pk_un (by omega)]; exact e338
                have e345 : n_343 6 = nI kc6 := by rw [en_343, pk_un (by omega)]; exact e339
                have e346 : n_343 8 = nI k4 := by rw [en_343, pk_un (by omega)]; exact e340
                have e347 : n_343 2 = nI (k318 + 1) := by rw [en_343, pk_un (by omega)]; exact e341
                have e348 : n_343 (14 * k318 + 113) = nI 0 := by rw [en_343, pk_us]
                refine pm_iincX (v := nI 4) (loc' := [some (.ref (B + 54)), some (.int za), some (.int zb), some (.int zc), some (.int zd), some (.int (nI 1)), some (.int (nI k318)), some (.int (nI 4))]) hG dX12_person_137 rfl (nI_1 _) (by decide) (pm_c1b rfl) rfl ?_
                refine pm_goto (tgt := 121) hG dX12_person_140 rfl ?_
                refine pm_iloadi hG dX12_person_121 rfl ?_
                refine pm_bipush (v := nI 14) hG dX12_person_123 (by decide) ?_
                refine pm_icmpN_ge (tgt := 143) hG dX12_person_125 rfl (by omega) (by omega) (fun q => absurd q (by omega)) (fun _ => ?_)
                refine pm_aloadn hG dX12_person_128 rfl ?_
                refine pm_iloadi hG dX12_person_129 rfl ?_
                refine pm_iloadi hG dX12_person_131 rfl ?_
                refine pm_iconst (v := nI 0) hG dX12_person_133 (by decide) ?_
                refine pm_callV (As := [.int (nI k318), .int (nI 4), .int (nI 0)]) (rest := []) hG hR dX12_person_134 (lkX12_97 _ rfl) okV_X12_sets rfl rfl (m_sets (d := 2) (e := 14 * k318 + 114) (by omega) (by omega) (by omega)) rfl rfl hdd (Nat.le_refl _) (Nat.le_refl _) (by decide) (pm_kv (fun σ' cnt' hq => ?_))
                obtain ⟨rfl, rfl⟩ := hq
                obtain ⟨n_349, en_349⟩ : ∃ f : Nat → Int32, f = upd n_343 (14 * k318 + 114) (nI 0) := ⟨_, rfl⟩
                rw [← en_349]
                have hnn_349 := KI.w en_349 hnn_343 (okv_o (show kd (14 * k318 + 114) = (2, 10, false) from (kd_P (k := k318) (c := 4) (by omega) (by omega) (by decide))) (by omega))
                have hrn_349 := NRx.w en_349 hrn_343 (by rw [(show kd (14 * k318 + 114) = (2, 10, false) from (kd_P (k := k318) (c := 4) (by omega) (by omega) (by decide)))])
                have e350 : n_349 0 = nI kc0 := by rw [en_349, pk_un (by omega)]; exact e344
                have e351 : n_349 6 = nI kc6 := by rw [en_349, pk_un (by omega)]; exact e345
                have e352 : n_349 8 = nI k4 := by rw [en_349, pk_un (by omega)]; exact e346
                have e353 : n_349 2 = nI (k318 + 1) := by rw [en_349, pk_un (by omega)]; exact e347
                have e354 : n_349 (14 * k318 + 114) = nI 0 := by rw [en_349, pk_us]
                refine pm_iincX (v := nI 5) (loc' := [some (.ref (B + 54)), some (.int za), some (.int zb), some (.int zc), some (.int zd), some (.int (nI 1)), some (.int (nI k318)), some (.int (nI 5))]) hG dX12_person_137 rfl (nI_1 _) (by decide) (pm_c1b rfl) rfl ?_
                refine pm_goto (tgt := 121) hG dX12_person_140 rfl ?_
                refine pm_iloadi hG dX12_person_121 rfl ?_
                refine pm_bipush (v := nI 14) hG dX12_person_123 (by decide) ?_
                refine pm_icmpN_ge (tgt := 143) hG dX12_person_125 rfl (by omega) (by omega) (fun q => absurd q (by omega)) (fun _ => ?_)
                refine pm_aloadn hG dX12_person_128 rfl ?_
                refine pm_iloadi hG dX12_person_129 rfl ?_
                refine pm_iloadi hG dX12_person_131 rfl ?_
                refine pm_iconst (v := nI 0) hG dX12_person_133 (by decide) ?_
                refine pm_callV (As := [.int (nI k318), .int (nI 5), .int (nI 0)]) (rest := []) hG hR dX12_person_134 (lkX12_97 _ rfl) okV_X12_sets rfl rfl (m_sets (d := 2) (e := 14 * k318 + 115) (by omega) (by omega) (by omega)) rfl rfl hdd (Nat.le_refl _) (Nat.le_refl _) (by decide) (pm_kv (fun σ' cnt' hq => ?_))
                obtain ⟨rfl, rfl⟩ := hq
                obtain ⟨n_355, en_355⟩ : ∃ f : Nat → Int32, f = upd n_349 (14 * k318 + 115) (nI 0) := ⟨_, rfl⟩
                rw [← en_355]
                have hnn_355 := KI.w en_355 hnn_349 (okv_n (show kd (14 * k318 + 115) = (1, 10, false) from (kd_P (k := k318) (c := 5) (by omega) (by omega) (by decide))) (by omega))
                have hrn_355 := NRx.w en_355 hrn_349 (by rw [(show kd (14 * k318 + 115) = (1, 10, false) from (kd_P (k := k318) (c := 5) (by omega) (by omega) (by decide)))])
                have e356 : n_355 0 = nI kc0 := by rw [en_355, pk_un (by omega)]; exact e350
                have e357 : n_355 6 = nI kc6 := by rw [en_355, pk_un (by omega)]; exact e351
                have e358 : n_355 8 = nI k4 := by rw [en_355, pk_un (by omega)]; exact e352
                have e359 : n_355 2 = nI (k318 + 1) := by rw [en_355, pk_un (by omega)]; exact e353
                have e360 : n_355 (14 * k318 + 115) = nI 0 := by rw [en_355, pk_us]
                refine pm_iincX (v := nI 6) (loc' := [some (.ref (B + 54)), some (.int za), some (.int zb), some (.int zc), some (.int zd), some (.int (nI 1)), some (.int (nI k318)), some (.int (nI 6))]) hG dX12_person_137 rfl (nI_1 _) (by decide) (pm_c1b rfl) rfl ?_
                refine pm_goto (tgt := 121) hG dX12_person_140 rfl ?_
                refine pm_iloadi hG dX12_person_121 rfl ?_
                refine pm_bipush (v := nI 14) hG dX12_person_123 (by decide) ?_
                refine pm_icmpN_ge (tgt := 143) hG dX12_person_125 rfl (by omega) (by omega) (fun q => absurd q (by omega)) (fun _ => ?_)
                refine pm_aloadn hG dX12_person_128 rfl ?_
                refine pm_iloadi hG dX12_person_129 rfl ?_
                refine pm_iloadi hG dX12_person_131 rfl ?_
                refine pm_iconst (v := nI 0) hG dX12_person_133 (by decide) ?_
                refine pm_callV (As := [.int (nI k318), .int (nI 6), .int (nI 0)]) (rest := []) hG hR dX12_person_134 (lkX12_97 _ rfl) okV_X12_sets rfl rfl (m_sets (d := 2) (e := 14 * k318 + 116) (by omega) (by omega) (by omega)) rfl rfl hdd (Nat.le_refl _) (Nat.le_refl _) (by decide) (pm_kv (fun σ' cnt' hq => ?_))
                obtain ⟨rfl, rfl⟩ := hq
                obtain ⟨n_361, en_361⟩ : ∃ f : Nat → Int32, f = upd n_355 (14 * k318 + 116) (nI 0) := ⟨_, rfl⟩
                rw [← en_361]
                have hnn_361 := KI.w en_361 hnn_355 (okv_f (show kd (14 * k318 + 116) = (0, 0, false) from (kd_P (k := k318) (c := 6) (by omega) (by omega) (by decide))))
                have hrn_361 := NRx.w en_361 hrn_355 (by rw [(show kd (14 * k318 + 116) = (0, 0, false) from (kd_P (k := k318) (c := 6) (by omega) (by omega) (by decide)))])
                have e362 : n_361 0 = nI kc0 := by rw [en_361, pk_un (by omega)]; exact e356
                have e363 : n_361 6 = nI kc6 := by rw [en_361, pk_un (by omega)]; exact e357
                have e364 : n_361 8 = nI k4 := by rw [en_361, pk_un (by omega)]; exact e358
                have e365 : n_361 2 = nI (k318 + 1) := by rw [en_361, pk_un (by omega)]; exact e359
                have e366 : n_361 (14 * k318 + 116) = nI 0 := by rw [en_361, pk_us]
                refine pm_iincX (v := nI 7) (loc' := [some (.ref (B + 54)), some (.int za), some (.int zb), some (.int zc), some (.int zd), some (.int (nI 1)), some (.int (nI k318)), some (.int (nI 7))]) hG dX12_person_137 rfl (nI_1 _) (by decide) (pm_c1b rfl) rfl ?_
                refine pm_goto (tgt := 121) hG dX12_person_140 rfl ?_
                refine pm_iloadi hG dX12_person_121 rfl ?_
                refine pm_bipush (v := nI 14) hG dX12_person_123 (by decide) ?_
                refine pm_icmpN_ge (tgt := 143) hG dX12_person_125 rfl (by omega) (by omega) (fun q => absurd q (by omega)) (fun _ => ?_)
                refine pm_aloadn hG dX12_person_128 rfl ?_
                refine pm_iloadi hG dX12_person_129 rfl ?_
                refine pm_iloadi hG dX12_person_131 rfl ?_
                refine pm_iconst (v := nI 0) hG dX12_person_133 (by decide) ?_
                refine pm_callV (As := [.int (nI k318), .int (nI 7), .int (nI 0)]) (rest := []) hG hR dX12_person_134 (lkX12_97 _ rfl) okV_X12_sets rfl rfl (m_sets (d := 2) (e := 14 * k318 + 117) (by omega) (by omega) (by omega)) rfl rfl hdd (Nat.le_refl _) (Nat.le_refl _) (by decide) (pm_kv (fun σ' cnt' hq => ?_))
                obtain ⟨rfl, rfl⟩ := hq
                obtain ⟨n_367, en_367⟩ : ∃ f : Nat → Int32, f = upd n_361 (14 * k318 + 117) (nI 0) := ⟨_, rfl⟩
                rw [← en_367]
                have hnn_367 := KI.w en_367 hnn_361 (okv_f (show kd (14 * k318 + 117) = (0, 0, false) from (kd_P (k := k318) (c := 7) (by omega) (by omega) (by decide))))
                have hrn_367 := NRx.w en_367 hrn_361 (by rw [(show kd (14 * k318 + 117) = (0, 0, false) from (kd_P (k := k318) (c := 7) (by omega) (by omega) (by decide)))])
                have e368 : n_367 0 = nI kc0 := by rw [en_367, pk_un (by omega)]; exact e362
                have e369 : n_367 6 = nI kc6 := by rw [en_367, pk_un (by omega)]; exact e363
                have e370 : n_367 8 = nI k4 := by rw [en_367, pk_un (by omega)]; exact e364
                have e371 : n_367 2 = nI (k318 + 1) := by rw [en_367, pk_un (by omega)]; exact e365
                have e372 : n_367 (14 * k318 + 117) = nI 0 := by rw [en_367, pk_us]
                refine pm_iincX (v := nI 8) (loc' := [some (.ref (B + 54)), some (.int za), some (.int zb), some (.int zc), some (.int zd), some (.int (nI 1)), some (.int (nI k318)), some (.int (nI 8))]) hG dX12_person_137 rfl (nI_1 _) (by decide) (pm_c1b rfl) rfl ?_
                refine pm_goto (tgt := 121) hG dX12_person_140 rfl ?_
                refine pm_iloadi hG dX12_person_121 rfl ?_
                refine pm_bipush (v := nI 14) hG dX12_person_123 (by decide) ?_
                refine pm_icmpN_ge (tgt := 143) hG dX12_person_125 rfl (by omega) (by omega) (fun q => absurd q (by omega)) (fun _ => ?_)
                refine pm_aloadn hG dX12_person_128 rfl ?_
                refine pm_iloadi hG dX12_person_129 rfl ?_
                refine pm_iloadi hG dX12_person_131 rfl ?_
                refine pm_iconst (v := nI 0) hG dX12_person_133 (by decide) ?_
                refine pm_callV (As := [.int (nI k318), .int (nI 8), .int (nI 0)]) (rest := []) hG hR dX12_person_134 (lkX12_97 _ rfl) okV_X12_sets rfl rfl (m_sets (d := 2) (e := 14 * k318 + 118) (by omega) (by omega) (by omega)) rfl rfl hdd (Nat.le_refl _) (Nat.le_refl _) (by decide) (pm_kv (fun σ' cnt' hq => ?_))
                obtain ⟨rfl, rfl⟩ := hq
                obtain ⟨n_373, en_373⟩ : ∃ f : Nat → Int32, f = upd n_367 (14 * k318 + 118) (nI 0) := ⟨_, rfl⟩
                rw [← en_373]
                have hnn_373 := KI.w en_373 hnn_367 (okv_f (show kd (14 * k318 + 118) = (0, 0, false) from (kd_P (k := k318) (c := 8) (by omega) (by omega) (by decide))))
                have hrn_373 := NRx.w en_373 hrn_367 (by rw [(show kd (14 * k318 + 118) = (0, 0, false) from (kd_P (k := k318) (c := 8) (by omega) (by omega) (by decide)))])
                have e374 : n_373 0 = nI kc0 := by rw [en_373, pk_un (by omega)]; exact e368
                have e375 : n_373 6 = nI kc6 := by rw [en_373, pk_un (by omega)]; exact e369
                have e376 : n_373 8 = nI k4 := by rw [en_373, pk_un (by omega)]; exact e370
                have e377 : n_373 2 = nI (k318 + 1) := by rw [en_373, pk_un (by omega)]; exact e371
                have e378 : n_373 (14 * k318 + 118) = nI 0 := by rw [en_373, pk_us]
                refine pm_iincX (v := nI 9) (loc' := [some (.ref (B + 54)), some (.int za), some (.int zb), some (.int zc), some (.int zd), some (.int (nI 1)), some (.int (nI k318)), some (.int (nI 9))]) hG dX12_person_137 rfl (nI_1 _) (by decide) (pm_c1b rfl) rfl ?_
                refine pm_goto (tgt := 121) hG dX12_person_140 rfl ?_
                refine pm_iloadi hG dX12_person_121 rfl ?_
                refine pm_bipush (v := nI 14) hG dX12_person_123 (by decide) ?_
                refine pm_icmpN_ge (tgt := 143) hG dX12_person_125 rfl (by omega) (by omega) (fun q => absurd q (by omega)) (fun _ => ?_)
                refine pm_aloadn hG dX12_person_128 rfl ?_
                refine pm_iloadi hG dX12_person_129 rfl ?_
                refine pm_iloadi hG dX12_person_131 rfl ?_
                refine pm_iconst (v := nI 0) hG dX12_person_133 (by decide) ?_
                refine pm_callV (As := [.int (nI k318), .int (nI 9), .int (nI 0)]) (rest := []) hG hR dX12_person_134 (lkX12_97 _ rfl) okV_X12_sets rfl rfl (m_sets (d := 2) (e := 14 * k318 + 119) (by omega) (by omega) (by omega)) rfl rfl hdd (Nat.le_refl _) (Nat.le_refl _) (by decide) (pm_kv (fun σ' cnt' hq => ?_))
                obtain ⟨rfl, rfl⟩ := hq
                obtain ⟨n_379, en_379⟩ : ∃ f : Nat → Int32, f = upd n_373 (14 * k318 + 119) (nI 0) := ⟨_, rfl⟩
                rw [← en_379]
                have hnn_379 := KI.w en_379 hnn_373 (okv_o (show kd (14 * k318 + 119) = (2, 2001, false) from (kd_P (k := k318) (c := 9) (by omega) (by omega) (by decide))) (by omega))
                have hrn_379 := NRx.w en_379 hrn_373 (by rw [(show kd (14 * k318 + 119) = (2, 2001, false) from (kd_P (k := k318) (c := 9) (by omega) (by omega) (by decide)))])
                have e380 : n_379 0 = nI kc0 := by rw [en_379, pk_un (by omega)]; exact e374
                have e381 : n_379 6 = nI kc6 := by rw [en_379, pk_un (by omega)]; exact e375
                have e382 : n_379 8 = nI k4 := by rw [en_379, pk_un (by omega)]; exact e376
                have e383 : n_379 2 = nI (k318 + 1) := by rw [en_379, pk_un (by omega)]; exact e377
                have e384 : n_379 (14 * k318 + 119) = nI 0 := by rw [en_379, pk_us]
                refine pm_iincX (v := nI 10) (loc' := [some (.ref (B + 54)), some (.int za), some (.int zb), some (.int zc), some (.int zd), some (.int (nI 1)), some (.int (nI k318)), some (.int (nI 10))]) hG dX12_person_137 rfl (nI_1 _) (by decide) (pm_c1b rfl) rfl ?_
                refine pm_goto (tgt := 121) hG dX12_person_140 rfl ?_
                refine pm_iloadi hG dX12_person_121 rfl ?_
                refine pm_bipush (v := nI 14) hG dX12_person_123 (by decide) ?_
                refine pm_icmpN_ge (tgt := 143) hG dX12_person_125 rfl (by omega) (by omega) (fun q => absurd q (by omega)) (fun _ => ?_)
                refine pm_aloadn hG dX12_person_128 rfl ?_
                refine pm_iloadi hG dX12_person_129 rfl ?_
                refine pm_iloadi hG dX12_person_131 rfl ?_
                refine pm_iconst (v := nI 0) hG dX12_person_133 (by decide) ?_
                refine pm_callV (As := [.int (nI k318), .int (nI 10), .int (nI 0)]) (rest := []) hG hR dX12_person_134 (lkX12_97 _ rfl) okV_X12_sets rfl rfl (m_sets (d := 2) (e := 14 * k318 + 120) (by omega) (by omega) (by omega)) rfl rfl hdd (Nat.le_refl _) (Nat.le_refl _) (by decide) (pm_kv (fun σ' cnt' hq => ?_))
                obtain ⟨rfl, rfl⟩ := hq
                obtain ⟨n_385, en_385⟩ : ∃ f : Nat → Int32, f = upd n_379 (14 * k318 + 120) (nI 0) := ⟨_, rfl⟩
                rw [← en_385]
                have hnn_385 := KI.w en_385 hnn_379 (okv_f (show kd (14 * k318 + 120) = (0, 0, false) from (kd_P (k := k318) (c := 10) (by omega) (by omega) (by decide))))
                have hrn_385 := NRx.w en_385 hrn_379 (by rw [(show kd (14 * k318 + 120) = (0, 0, false) from (kd_P (k := k318) (c := 10) (by omega) (by omega) (by decide)))])
                have e386 : n_385 0 = nI kc0 := by rw [en_385, pk_un (by omega)]; exact e380
                have e387 : n_385 6 = nI kc6 := by rw [en_385, pk_un (by omega)]; exact e381
                have e388 : n_385 8 = nI k4 := by rw [en_385, pk_un (by omega)]; exact e382
                have e389 : n_385 2 = nI (k318 + 1) := by rw [en_385, pk_un (by omega)]; exact e383
                have e390 : n_385 (14 * k318 + 120) = nI 0 := by rw [en_385, pk_us]
                refine pm_iincX (v := nI 11) (loc' := [some (.ref (B + 54)), some (.int za), some (.int zb), some (.int zc), some (.int zd), some (.int (nI 1)), some (.int (nI k318)), some (.int (nI 11))]) hG dX12_person_137 rfl (nI_1 _) (by decide) (pm_c1b rfl) rfl ?_
                refine pm_goto (tgt := 121) hG dX12_person_140 rfl ?_
                refine pm_iloadi hG dX12_person_121 rfl ?_
                refine pm_bipush (v := nI 14) hG dX12_person_123 (by decide) ?_
                refine pm_icmpN_ge (tgt := 143) hG dX12_person_125 rfl (by omega) (by omega) (fun q => absurd q (by omega)) (fun _ => ?_)
                refine pm_aloadn hG dX12_person_128 rfl ?_
                refine pm_iloadi hG dX12_person_129 rfl ?_
                refine pm_iloadi hG dX12_person_131 rfl ?_
                refine pm_iconst (v := nI 0) hG dX12_person_133 (by decide) ?_
                refine pm_callV (As := [.int (nI k318), .int (nI 11), .int (nI 0)]) (rest := []) hG hR dX12_person_134 (lkX12_97 _ rfl) okV_X12_sets rfl rfl (m_sets (d := 2) (e := 14 * k318 + 121) (by omega) (by omega) (by omega)) rfl rfl hdd (Nat.le_refl _) (Nat.le_refl _) (by decide) (pm_kv (fun σ' cnt' hq => ?_))
                obtain ⟨rfl, rfl⟩ := hq
                obtain ⟨n_391, en_391⟩ : ∃ f : Nat → Int32, f = upd n_385 (14 * k318 + 121) (nI 0) := ⟨_, rfl⟩
                rw [← en_391]
                have hnn_391 := KI.w en_391 hnn_385 (okv_n (show kd (14 * k318 + 121) = (1, 2, true) from (kd_P (k := k318) (c := 11) (by omega) (by omega) (by decide))) (by omega))
                have hrn_391 := NRx.unseat (p := k318) en_391 hrn_385 (by omega)
                have e392 : n_391 0 = nI kc0 := by rw [en_391, pk_un (by omega)]; exact e386
                have e393 : n_391 6 = nI kc6 := by rw [en_391, pk_un (by omega)]; exact e387
                have e394 : n_391 8 = nI k4 := by rw [en_391, pk_un (by omega)]; exact e388
                have e395 : n_391 2 = nI (k318 + 1) := by rw [en_391, pk_un (by omega)]; exact e389
                have e396 : n_391 (14 * k318 + 121) = nI 0 := by rw [en_391, pk_us]
                refine pm_iincX (v := nI 12) (loc' := [some (.ref (B + 54)), some (.int za), some (.int zb), some (.int zc), some (.int zd), some (.int (nI 1)), some (.int (nI k318)), some (.int (nI 12))]) hG dX12_person_137 rfl (nI_1 _) (by decide) (pm_c1b rfl) rfl ?_
                refine pm_goto (tgt := 121) hG dX12_person_140 rfl ?_
                refine pm_iloadi hG dX12_person_121 rfl ?_
                refine pm_bipush (v := nI 14) hG dX12_person_123 (by decide) ?_
                refine pm_icmpN_ge (tgt := 143) hG dX12_person_125 rfl (by omega) (by omega) (fun q => absurd q (by omega)) (fun _ => ?_)
                refine pm_aloadn hG dX12_person_128 rfl ?_
                refine pm_iloadi hG dX12_person_129 rfl ?_
                refine pm_iloadi hG dX12_person_131 rfl ?_
                refine pm_iconst (v := nI 0) hG dX12_person_133 (by decide) ?_
                refine pm_callV (As := [.int (nI k318), .int (nI 12), .int (nI 0)]) (rest := []) hG hR dX12_person_134 (lkX12_97 _ rfl) okV_X12_sets rfl rfl (m_sets (d := 2) (e := 14 * k318 + 122) (by omega) (by omega) (by omega)) rfl rfl hdd (Nat.le_refl _) (Nat.le_refl _) (by decide) (pm_kv (fun σ' cnt' hq => ?_))
                obtain ⟨rfl, rfl⟩ := hq
                obtain ⟨n_397, en_397⟩ : ∃ f : Nat → Int32, f = upd n_391 (14 * k318 + 122) (nI 0) := ⟨_, rfl⟩
                rw [← en_397]
                have hnn_397 := KI.w en_397 hnn_391 (okv_f (show kd (14 * k318 + 122) = (0, 0, false) from (kd_P (k := k318) (c := 12) (by omega) (by omega) (by decide))))
                have hrn_397 := NRx.w en_397 hrn_391 (by rw [(show kd (14 * k318 + 122) = (0, 0, false) from (kd_P (k := k318) (c := 12) (by omega) (by omega) (by decide)))])
                have e398 : n_397 0 = nI kc0 := by rw [en_397, pk_un (by omega)]; exact e392
                have e399 : n_397 6 = nI kc6 := by rw [en_397, pk_un (by omega)]; exact e393
                have e400 : n_397 8 = nI k4 := by rw [en_397, pk_un (by omega)]; exact e394
                have e401 : n_397 2 = nI (k318 + 1) := by rw [en_397, pk_un (by omega)]; exact e395
                have e402 : n_397 (14 * k318 + 122) = nI 0 := by rw [en_397, pk_us]
                refine pm_iincX (v := nI 13) (loc' := [some (.ref (B + 54)), some (.int za), some (.int zb), some (.int zc), some (.int zd), some (.int (nI 1)), some (.int (nI k318)), some (.int (nI 13))]) hG dX12_person_137 rfl (nI_1 _) (by decide) (pm_c1b rfl) rfl ?_
                refine pm_goto (tgt := 121) hG dX12_person_140 rfl ?_
                refine pm_iloadi hG dX12_person_121 rfl ?_
                refine pm_bipush (v := nI 14) hG dX12_person_123 (by decide) ?_
                refine pm_icmpN_ge (tgt := 143) hG dX12_person_125 rfl (by omega) (by omega) (fun q => absurd q (by omega)) (fun _ => ?_)
                refine pm_aloadn hG dX12_person_128 rfl ?_
                refine pm_iloadi hG dX12_person_129 rfl ?_
                refine pm_iloadi hG dX12_person_131 rfl ?_
                refine pm_iconst (v := nI 0) hG dX12_person_133 (by decide) ?_
                refine pm_callV (As := [.int (nI k318), .int (nI 13), .int (nI 0)]) (rest := []) hG hR dX12_person_134 (lkX12_97 _ rfl) okV_X12_sets rfl rfl (m_sets (d := 2) (e := 14 * k318 + 123) (by omega) (by omega) (by omega)) rfl rfl hdd (Nat.le_refl _) (Nat.le_refl _) (by decide) (pm_kv (fun σ' cnt' hq => ?_))
                obtain ⟨rfl, rfl⟩ := hq
                obtain ⟨n_403, en_403⟩ : ∃ f : Nat → Int32, f = upd n_397 (14 * k318 + 123) (nI 0) := ⟨_, rfl⟩
                rw [← en_403]
                have hnn_403 := KI.w en_403 hnn_397 (okv_f (show kd (14 * k318 + 123) = (0, 0, false) from (kd_P (k := k318) (c := 13) (by omega) (by omega) (by decide))))
                have hrn_403 := NRx.w en_403 hrn_397 (by rw [(show kd (14 * k318 + 123) = (0, 0, false) from (kd_P (k := k318) (c := 13) (by omega) (by omega) (by decide)))])
                have e404 : n_403 0 = nI kc0 := by rw [en_403, pk_un (by omega)]; exact e398
                have e405 : n_403 6 = nI kc6 := by rw [en_403, pk_un (by omega)]; exact e399
                have e406 : n_403 8 = nI k4 := by rw [en_403, pk_un (by omega)]; exact e400
                have e407 : n_403 2 = nI (k318 + 1) := by rw [en_403, pk_un (by omega)]; exact e401
                have e408 : n_403 (14 * k318 + 123) = nI 0 := by rw [en_403, pk_us]
                refine pm_iincX (v := nI 14) (loc' := [some (.ref (B + 54)), some (.int za), some (.int zb), some (.int zc), some (.int zd), some (.int (nI 1)), some (.int (nI k318)), some (.int (nI 14))]) hG dX12_person_137 rfl (nI_1 _) (by decide) (pm_c1b rfl) rfl ?_
                refine pm_goto (tgt := 121) hG dX12_person_140 rfl ?_
                refine pm_iloadi hG dX12_person_121 rfl ?_
                refine pm_bipush (v := nI 14) hG dX12_person_123 (by decide) ?_
                refine pm_icmpN_ge (tgt := 143) hG dX12_person_125 rfl (by omega) (by omega) (fun _ => ?_) (fun q => absurd q (by omega))
                refine pm_aloadn hG dX12_person_143 rfl ?_
                refine pm_iloadi hG dX12_person_144 rfl ?_
                refine pm_iconst (v := nI 0) hG dX12_person_146 (by decide) ?_
                refine pm_iloadn hG dX12_person_147 rfl ?_
                refine pm_top (v := nI k3) ek3 ?_
                refine pm_callV (As := [.int (nI k318), .int (nI 0), .int (nI k3)]) (rest := []) hG hR dX12_person_148 (lkX12_97 _ rfl) okV_X12_sets rfl rfl (m_sets (d := 2) (e := 14 * k318 + 110) (by omega) (by omega) (by omega)) rfl rfl hdd (Nat.le_refl _) (Nat.le_refl _) (by decide) (pm_kv (fun σ' cnt' hq => ?_))
                obtain ⟨rfl, rfl⟩ := hq
                obtain ⟨n_409, en_409⟩ : ∃ f : Nat → Int32, f = upd n_403 (14 * k318 + 110) (nI k3) := ⟨_, rfl⟩
                rw [← en_409]
                have hnn_409 := KI.w en_409 hnn_403 (okv_f (show kd (14 * k318 + 110) = (0, 0, false) from (kd_P (k := k318) (c := 0) (by omega) (by omega) (by decide))))
                have hrn_409 := NRx.w en_409 hrn_403 (by rw [(show kd (14 * k318 + 110) = (0, 0, false) from (kd_P (k := k318) (c := 0) (by omega) (by omega) (by decide)))])
                have e410 : n_409 0 = nI kc0 := by rw [en_409, pk_un (by omega)]; exact e404
                have e411 : n_409 6 = nI kc6 := by rw [en_409, pk_un (by omega)]; exact e405
                have e412 : n_409 8 = nI k4 := by rw [en_409, pk_un (by omega)]; exact e406
                have e413 : n_409 2 = nI (k318 + 1) := by rw [en_409, pk_un (by omega)]; exact e407
                have e414 : n_409 (14 * k318 + 110) = nI k3 := by rw [en_409, pk_us]
                refine pm_aloadn hG dX12_person_151 rfl ?_
                refine pm_iloadi hG dX12_person_152 rfl ?_
                refine pm_iconst (v := nI 1) hG dX12_person_154 (by decide) ?_
                refine pm_iloadn hG dX12_person_155 rfl ?_
                refine pm_callV (As := [.int (nI k318), .int (nI 1), .int zb]) (rest := []) hG hR dX12_person_156 (lkX12_97 _ rfl) okV_X12_sets rfl rfl (m_sets (d := 2) (e := 14 * k318 + 111) (by omega) (by omega) (by omega)) rfl rfl hdd (Nat.le_refl _) (Nat.le_refl _) (by decide) (pm_kv (fun σ' cnt' hq => ?_))
                obtain ⟨rfl, rfl⟩ := hq
                obtain ⟨n_415, en_415⟩ : ∃ f : Nat → Int32, f = upd n_409 (14 * k318 + 111) zb := ⟨_, rfl⟩
                rw [← en_415]
                have hnn_415 := KI.w en_415 hnn_409 (okv_f (show kd (14 * k318 + 111) = (0, 0, false) from (kd_P (k := k318) (c := 1) (by omega) (by omega) (by decide))))
                have hrn_415 := NRx.w en_415 hrn_409 (by rw [(show kd (14 * k318 + 111) = (0, 0, false) from (kd_P (k := k318) (c := 1) (by omega) (by omega) (by decide)))])
                have e416 : n_415 0 = nI kc0 := by rw [en_415, pk_un (by omega)]; exact e410
                have e417 : n_415 6 = nI kc6 := by rw [en_415, pk_un (by omega)]; exact e411
                have e418 : n_415 8 = nI k4 := by rw [en_415, pk_un (by omega)]; exact e412
                have e419 : n_415 2 = nI (k318 + 1) := by rw [en_415, pk_un (by omega)]; exact e413
                have e420 : n_415 (14 * k318 + 111) = zb := by rw [en_415, pk_us]
                refine pm_aloadn hG dX12_person_159 rfl ?_
                refine pm_iloadi hG dX12_person_160 rfl ?_
                refine pm_iconst (v := nI 2) hG dX12_person_162 (by decide) ?_
                refine pm_iloadn hG dX12_person_163 rfl ?_
                refine pm_top (v := nI k10) ek10 ?_
                refine pm_bipush (v := nI 100) hG dX12_person_164 (by decide) ?_
                refine pm_idivN hG dX12_person_166 (by omega) (by decide) (by decide) ?_
                refine pm_iconst (v := nI 1) hG dX12_person_167 (by decide) ?_
                refine pm_isub hG dX12_person_168 ?_
                refine pm_top (v := nI k12) ek12 ?_
                refine pm_callV (As := [.int (nI k318), .int (nI 2), .int (nI k12)]) (rest := []) hG hR dX12_person_169 (lkX12_97 _ rfl) okV_X12_sets rfl rfl (m_sets (d := 2) (e := 14 * k318 + 112) (by omega) (by omega) (by omega)) rfl rfl hdd (Nat.le_refl _) (Nat.le_refl _) (by decide) (pm_kv (fun σ' cnt' hq => ?_))
                obtain ⟨rfl, rfl⟩ := hq
                obtain ⟨n_421, en_421⟩ : ∃ f : Nat → Int32, f = upd n_415 (14 * k318 + 112) (nI k12) := ⟨_, rfl⟩
                rw [← en_421]
                have hnn_421 := KI.w en_421 hnn_415 (okv_o (show kd (14 * k318 + 112) = (2, 20, false) from (kd_P (k := k318) (c := 2) (by omega) (by omega) (by decide))) (by omega))
                have hrn_421 := NRx.w en_421 hrn_415 (by rw [(show kd (14 * k318 + 112) = (2, 20, false) from (kd_P (k := k318) (c := 2) (by omega) (by omega) (by decide)))])
                have e422 : n_421 0 = nI kc0 := by rw [en_421, pk_un (by omega)]; exact e416
                have e423 : n_421 6 = nI kc6 := by rw [en_421, pk_un (by omega)]; exact e417
                have e424 : n_421 8 = nI k4 := by rw [en_421, pk_un (by omega)]; exact e418
                have e425 : n_421 2 = nI (k318 + 1) := by rw [en_421, pk_un (by omega)]; exact e419
                have e426 : n_421 (14 * k318 + 112) = nI k12 := by rw [en_421, pk_us]
                refine pm_aloadn hG dX12_person_172 rfl ?_
                refine pm_iloadi hG dX12_person_173 rfl ?_
                refine pm_iconst (v := nI 3) hG dX12_person_175 (by decide) ?_
                refine pm_iloadn hG dX12_person_176 rfl ?_
                refine pm_top (v := nI k10) ek10 ?_
                refine pm_bipush (v := nI 100) hG dX12_person_177 (by decide) ?_
                refine pm_iremM hG dX12_person_179 (by omega) (by decide) (by decide) ?_
                refine pm_iconst (v := nI 1) hG dX12_person_180 (by decide) ?_
                refine pm_isub hG dX12_person_181 ?_
                refine pm_top (v := (-1)) ek312 ?_
                refine pm_callV (As := [.int (nI k318), .int (nI 3), .int (-1)]) (rest := []) hG hR dX12_person_182 (lkX12_97 _ rfl) okV_X12_sets rfl rfl (m_sets (d := 2) (e := 14 * k318 + 113) (by omega) (by omega) (by omega)) rfl rfl hdd (Nat.le_refl _) (Nat.le_refl _) (by decide) (pm_kv (fun σ' cnt' hq => ?_))
                obtain ⟨rfl, rfl⟩ := hq
                obtain ⟨n_427, en_427⟩ : ∃ f : Nat → Int32, f = upd n_421 (14 * k318 + 113) (-1) := ⟨_, rfl⟩
                rw [← en_427]
                have hnn_427 := KI.w en_427 hnn_421 (okv_m (show kd (14 * k318 + 113) = (2, 20, false) from (kd_P (k := k318) (c := 3) (by omega) (by omega) (by decide))))
                have hrn_427 := NRx.w en_427 hrn_421 (by rw [(show kd (14 * k318 + 113) = (2, 20, false) from (kd_P (k := k318) (c := 3) (by omega) (by omega) (by decide)))])
                have e428 : n_427 0 = nI kc0 := by rw [en_427, pk_un (by omega)]; exact e422
                have e429 : n_427 6 = nI kc6 := by rw [en_427, pk_un (by omega)]; exact e423
                have e430 : n_427 8 = nI k4 := by rw [en_427, pk_un (by omega)]; exact e424
                have e431 : n_427 2 = nI (k318 + 1) := by rw [en_427, pk_un (by omega)]; exact e425
                have e432 : n_427 (14 * k318 + 113) = (-1) := by rw [en_427, pk_us]
                refine pm_aloadn hG dX12_person_185 rfl ?_
                refine pm_iloadi hG dX12_person_186 rfl ?_
                refine pm_iconst (v := nI 4) hG dX12_person_188 (by decide) ?_
                refine pm_iloadi hG dX12_person_189 rfl ?_
                refine pm_top (v := nI k317) ek317 ?_
                refine pm_callV (As := [.int (nI k318), .int (nI 4), .int (nI k317)]) (rest := []) hG hR dX12_person_191 (lkX12_97 _ rfl) okV_X12_sets rfl rfl (m_sets (d := 2) (e := 14 * k318 + 114) (by omega) (by omega) (by omega)) rfl rfl hdd (Nat.le_refl _) (Nat.le_refl _) (by decide) (pm_kv (fun σ' cnt' hq => ?_))
                obtain ⟨rfl, rfl⟩ := hq
                obtain ⟨n_433, en_433⟩ : ∃ f : Nat → Int32, f = upd n_427 (14 * k318 + 114) (nI k317) := ⟨_, rfl⟩
                rw [← en_433]
                have hnn_433 := KI.w en_433 hnn_427 (okv_o (show kd (14 * k318 + 114) = (2, 10, false) from (kd_P (k := k318) (c := 4) (by omega) (by omega) (by decide))) (by omega))
                have hrn_433 := NRx.w en_433 hrn_427 (by rw [(show kd (14 * k318 + 114) = (2, 10, false) from (kd_P (k := k318) (c := 4) (by omega) (by omega) (by decide)))])
                have e434 : n_433 0 = nI kc0 := by rw [en_433, pk_un (by omega)]; exact e428
                have e435 : n_433 6 = nI kc6 := by rw [en_433, pk_un (by omega)]; exact e429
                have e436 : n_433 8 = nI k4 := by rw [en_433, pk_un (by omega)]; exact e430
                have e437 : n_433 2 = nI (k318 + 1) := by rw [en_433, pk_un (by omega)]; exact e431
                have e438 : n_433 (14 * k318 + 114) = nI k317 := by rw [en_433, pk_us]
                refine pm_aloadn hG dX12_person_194 rfl ?_
                refine pm_iloadi hG dX12_person_195 rfl ?_
                refine pm_bipush (v := nI 9) hG dX12_person_197 (by decide) ?_
                refine pm_iconst (v := (-1)) hG dX12_person_199 (by decide) ?_
                refine pm_callV (As := [.int (nI k318), .int (nI 9), .int (-1)]) (rest := []) hG hR dX12_person_200 (lkX12_97 _ rfl) okV_X12_sets rfl rfl (m_sets (d := 2) (e := 14 * k318 + 119) (by omega) (by omega) (by omega)) rfl rfl hdd (Nat.le_refl _) (Nat.le_refl _) (by decide) (pm_kv (fun σ' cnt' hq => ?_))
                obtain ⟨rfl, rfl⟩ := hq
                obtain ⟨n_439, en_439⟩ : ∃ f : Nat → Int32, f = upd n_433 (14 * k318 + 119) (-1) := ⟨_, rfl⟩
                rw [← en_439]
                have hnn_439 := KI.w en_439 hnn_433 (okv_m (show kd (14 * k318 + 119) = (2, 2001, false) from (kd_P (k := k318) (c := 9) (by omega) (by omega) (by decide))))
                have hrn_439 := NRx.w en_439 hrn_433 (by rw [(show kd (14 * k318 + 119) = (2, 2001, false) from (kd_P (k := k318) (c := 9) (by omega) (by omega) (by decide)))])
                have e440 : n_439 0 = nI kc0 := by rw [en_439, pk_un (by omega)]; exact e434
                have e441 : n_439 6 = nI kc6 := by rw [en_439, pk_un (by omega)]; exact e435
                have e442 : n_439 8 = nI k4 := by rw [en_439, pk_un (by omega)]; exact e436
                have e443 : n_439 2 = nI (k318 + 1) := by rw [en_439, pk_un (by omega)]; exact e437
                have e444 : n_439 (14 * k318 + 119) = (-1) := by rw [en_439, pk_us]
                refine pm_aloadn hG dX12_person_203 rfl ?_
                refine pm_iloadi hG dX12_person_204 rfl ?_
                refine pm_bipush (v := nI 10) hG dX12_person_206 (by decide) ?_
                refine pm_iconst (v := (-1)) hG dX12_person_208 (by decide) ?_
                refine pm_callV (As := [.int (nI k318), .int (nI 10), .int (-1)]) (rest := []) hG hR dX12_person_209 (lkX12_97 _ rfl) okV_X12_sets rfl rfl (m_sets (d := 2) (e := 14 * k318 + 120) (by omega) (by omega) (by omega)) rfl rfl hdd (Nat.le_refl _) (Nat.le_refl _) (by decide) (pm_kv (fun σ' cnt' hq => ?_))
                obtain ⟨rfl, rfl⟩ := hq
                obtain ⟨n_445, en_445⟩ : ∃ f : Nat → Int32, f = upd n_439 (14 * k318 + 120) (-1) := ⟨_, rfl⟩
                rw [← en_445]
                have hnn_445 := KI.w en_445 hnn_439 (okv_f (show kd (14 * k318 + 120) = (0, 0, false) from (kd_P (k := k318) (c := 10) (by omega) (by omega) (by decide))))
                have hrn_445 := NRx.w en_445 hrn_439 (by rw [(show kd (14 * k318 + 120) = (0, 0, false) from (kd_P (k := k318) (c := 10) (by omega) (by omega) (by decide)))])
                have e446 : n_445 0 = nI kc0 := by rw [en_445, pk_un (by omega)]; exact e440
                have e447 : n_445 6 = nI kc6 := by rw [en_445, pk_un (by omega)]; exact e441
                have e448 : n_445 8 = nI k4 := by rw [en_445, pk_un (by omega)]; exact e442
                have e449 : n_445 2 = nI (k318 + 1) := by rw [en_445, pk_un (by omega)]; exact e443
                have e450 : n_445 (14 * k318 + 120) = (-1) := by rw [en_445, pk_us]
                refine pm_aloadn hG dX12_person_212 rfl ?_
                refine pm_iloadi hG dX12_person_213 rfl ?_
                refine pm_bipush (v := nI 12) hG dX12_person_215 (by decide) ?_
                refine pm_iconst (v := nI 1) hG dX12_person_217 (by decide) ?_
                refine pm_callV (As := [.int (nI k318), .int (nI 12), .int (nI 1)]) (rest := []) hG hR dX12_person_218 (lkX12_97 _ rfl) okV_X12_sets rfl rfl (m_sets (d := 2) (e := 14 * k318 + 122) (by omega) (by omega) (by omega)) rfl rfl hdd (Nat.le_refl _) (Nat.le_refl _) (by decide) (pm_kv (fun σ' cnt' hq => ?_))
                obtain ⟨rfl, rfl⟩ := hq
                obtain ⟨n_451, en_451⟩ : ∃ f : Nat → Int32, f = upd n_445 (14 * k318 + 122) (nI 1) := ⟨_, rfl⟩
                rw [← en_451]
                have hnn_451 := KI.w en_451 hnn_445 (okv_f (show kd (14 * k318 + 122) = (0, 0, false) from (kd_P (k := k318) (c := 12) (by omega) (by omega) (by decide))))
                have hrn_451 := NRx.w en_451 hrn_445 (by rw [(show kd (14 * k318 + 122) = (0, 0, false) from (kd_P (k := k318) (c := 12) (by omega) (by omega) (by decide)))])
                have e452 : n_451 0 = nI kc0 := by rw [en_451, pk_un (by omega)]; exact e446
                have e453 : n_451 6 = nI kc6 := by rw [en_451, pk_un (by omega)]; exact e447
                have e454 : n_451 8 = nI k4 := by rw [en_451, pk_un (by omega)]; exact e448
                have e455 : n_451 2 = nI (k318 + 1) := by rw [en_451, pk_un (by omega)]; exact e449
                have e456 : n_451 (14 * k318 + 122) = nI 1 := by rw [en_451, pk_us]
                refine pm_iloadi hG dX12_person_221 rfl ?_
                exact pm_iret hG hF dX12_person_223 rfl (Nat.le_refl _) (Nat.le_refl _) ⟨_, rfl, ⟨_, _, _, rfl, hnn_451, hrn_451, e452.trans ekc0.symm, e453.trans ekc6.symm⟩, rfl⟩
              · refine pm_aloadn hG dX12_person_102 rfl ?_
                refine pm_iconst (v := nI 4) hG dX12_person_103 (by decide) ?_
                refine pm_callV (As := [.int (nI 4)]) (rest := []) hG hR dX12_person_104 (lkX12_80 _ rfl) okV_X12_finds rfl rfl (m_finds (d := 2) (by decide) hn hz (by omega)) rfl rfl hdd (Nat.le_refl _) (Nat.le_refl _) (by decide) (pm_ki (fun v457 σ' cnt' hq => ?_))
                obtain ⟨⟨I458, A458, rfl⟩, rfl, fv457⟩ := hq
                exact pm_iret hG hF dX12_person_107 rfl (Nat.le_refl _) (Nat.le_refl _) ⟨_, rfl, ⟨_, _, _, rfl, hn, hr, ekc0.trans ekc0.symm, ekc6.trans ekc6.symm⟩, rfl⟩
            · refine pm_ifN_eq (tgt := 73) hG dX12_person_66 rfl (by omega) (fun _ => ?_) (fun q => absurd q (by omega))
              refine pm_iconst (v := nI 0) hG dX12_person_73 (by decide) ?_
              refine pm_istoreXi (loc' := [some (.ref (B + 54)), some (.int za), some (.int zb), some (.int zc), some (.int zd), some (.int (nI 0)), none, none]) hG dX12_person_74 (by decide) (pm_c1b rfl) rfl ?_
              refine pm_iloadi hG dX12_person_76 rfl ?_
              refine pm_ifN_ne (tgt := 87) hG dX12_person_78 rfl (by omega) (fun q => absurd q (by omega)) (fun _ => ?_)
              refine pm_aloadn hG dX12_person_81 rfl ?_
              refine pm_iconst (v := nI 1) hG dX12_person_82 (by decide) ?_
              refine pm_callV (As := [.int (nI 1)]) (rest := []) hG hR dX12_person_83 (lkX12_80 _ rfl) okV_X12_finds rfl rfl (m_finds (d := 2) (by decide) hn hz (by omega)) rfl rfl hdd (Nat.le_refl _) (Nat.le_refl _) (by decide) (pm_ki (fun v459 σ' cnt' hq => ?_))
              obtain ⟨⟨I460, A460, rfl⟩, rfl, fv459⟩ := hq
              exact pm_iret hG hF dX12_person_86 rfl (Nat.le_refl _) (Nat.le_refl _) ⟨_, rfl, ⟨_, _, _, rfl, hn, hr, ekc0.trans ekc0.symm, ekc6.trans ekc6.symm⟩, rfl⟩
          · refine pm_ifN_eq (tgt := 73) hG dX12_person_57 rfl (by omega) (fun q => absurd q (by omega)) (fun _ => ?_)
            refine pm_aloadn hG dX12_person_60 rfl ?_
            refine pm_iloadi hG dX12_person_61 rfl ?_
            refine pm_callV (As := [.int zd]) (rest := []) hG hR dX12_person_63 (lkX12_84 _ rfl) okV_X12_isTown rfl rfl (m_isTown (d := 2) (by decide) ekc0 (by omega)) rfl rfl hdd (Nat.le_refl _) (Nat.le_refl _) (by decide) (pm_ki (fun v461 σ' cnt' hq => ?_))
            obtain ⟨hq, rfl, rfl⟩ := hq
            rcases hq with ⟨rfl, k463, hk463, ek463⟩ | ⟨rfl, ntk463⟩
            · refine pm_ifN_eq (tgt := 73) hG dX12_person_66 rfl (by omega) (fun q => absurd q (by omega)) (fun _ => ?_)
              refine pm_iconst (v := nI 1) hG dX12_person_69 (by decide) ?_
              refine pm_goto (tgt := 74) hG dX12_person_70 rfl ?_
              refine pm_istoreXi (loc' := [some (.ref (B + 54)), some (.int za), some (.int zb), some (.int zc), some (.int zd), some (.int (nI 1)), none, none]) hG dX12_person_74 (by decide) (pm_c1b rfl) rfl ?_
              refine pm_iloadi hG dX12_person_76 rfl ?_
              refine pm_ifN_ne (tgt := 87) hG dX12_person_78 rfl (by omega) (fun _ => ?_) (fun q => absurd q (by omega))
              refine pm_aloadn hG dX12_person_87 rfl ?_
              refine pm_getf hG dX12_person_88 (flX12_7 _ rfl) rfl rfl ?_
              refine pm_iconst (v := nI 2) hG dX12_person_91 (by decide) ?_
              refine pm_ialdN hG dX12_person_92 rfl (by decide) (by omega) ?_
              obtain ⟨k464, hk464, ek464⟩ := KI.nat hn (show kd 2 = (1, 21, true) by decide)
              refine pm_top (v := nI k464) ek464 ?_
              refine pm_istoreXi (loc' := [some (.ref (B + 54)), some (.int za), some (.int zb), some (.int zc), some (.int zd), some (.int (nI 1)), some (.int (nI k464)), none]) hG dX12_person_93 (by decide) (pm_c1b rfl) rfl ?_
              refine pm_iloadi hG dX12_person_95 rfl ?_
              refine pm_bipush (v := nI 20) hG dX12_person_97 (by decide) ?_
              refine pm_icmpN_ne (tgt := 108) hG dX12_person_99 rfl (by omega) (by omega) (fun c465 => ?_) (fun c465 => ?_)
              · refine pm_aloadn hG dX12_person_108 rfl ?_
                refine pm_getf hG dX12_person_109 (flX12_7 _ rfl) rfl rfl ?_
                refine pm_iconst (v := nI 2) hG dX12_person_112 (by decide) ?_
                refine pm_dup2 hG dX12_person_113 rfl rfl ?_
                refine pm_ialdN hG dX12_person_114 rfl (by decide) (by omega) ?_
                refine pm_top (v := nI k464) ek464 ?_
                refine pm_iconst (v := nI 1) hG dX12_person_115 (by decide) ?_
                refine pm_iaddN (c := k464 + 1) hG dX12_person_116 (by omega) ?_
                refine pm_iastN hG dX12_person_117 rfl (by decide) (by omega) ?_
                refine mdn_now (fun n_466 en_466 => ?_)
                have hnn_466 := KI.w en_466 hn (okv_n (show kd 2 = (1, 21, true) by decide) (by omega))
                have hrn_466 := NRx.pers en_466 hr ekc0 (by omega) ek464 (by omega)
                have e467 : n_466 0 = nI kc0 := by rw [en_466, pk_un (by omega)]; exact ekc0
                have e468 : n_466 6 = nI kc6 := by rw [en_466, pk_un (by omega)]; exact ekc6
                have e469 : n_466 8 = nI k4 := by rw [en_466, pk_un (by omega)]; exact ek4
                have e470 : n_466 2 = nI (k464 + 1) := by rw [en_466, pk_us]
                refine pm_iconst (v := nI 0) hG dX12_person_118 (by decide) ?_
                refine pm_istoreXi (loc' := [some (.ref (B + 54)), some (.int za), some (.int zb), some (.int zc), some (.int zd), some (.int (nI 1)), some (.int (nI k464)), some (.int (nI 0))]) hG dX12_person_119 (by decide) (pm_c1b rfl) rfl ?_
                refine pm_iloadi hG dX12_person_121 rfl ?_
                refine pm_bipush (v := nI 14) hG dX12_person_123 (by decide) ?_
                refine pm_icmpN_ge (tgt := 143) hG dX12_person_125 rfl (by omega) (by omega) (fun q => absurd q (by omega)) (fun _ => ?_)
                refine pm_aloadn hG dX12_person_128 rfl ?_
                refine pm_iloadi hG dX12_person_129 rfl ?_
                refine pm_iloadi hG dX12_person_131 rfl ?_
                refine pm_iconst (v := nI 0) hG dX12_person_133 (by decide) ?_
                refine pm_callV (As := [.int (nI k464), .int (nI 0), .int (nI 0)]) (rest := []) hG hR dX12_person_134 (lkX12_97 _ rfl) okV_X12_sets rfl rfl (m_sets (d := 2) (e := 14 * k464 + 110) (by omega) (by omega) (by omega)) rfl rfl hdd (Nat.le_refl _) (Nat.le_refl _) (by decide) (pm_kv (fun σ' cnt' hq => ?_))
                obtain ⟨rfl, rfl⟩ := hq
                obtain ⟨n_471, en_471⟩ : ∃ f : Nat → Int32, f = upd n_466 (14 * k464 + 110) (nI 0) := ⟨_, rfl⟩
                rw [← en_471]
                have hnn_471 := KI.w en_471 hnn_466 (okv_f (show kd (14 * k464 + 110) = (0, 0, false) from (kd_P (k := k464) (c := 0) (by omega) (by omega) (by decide))))
                have hrn_471 := NRx.w en_471 hrn_466 (by rw [(show kd (14 * k464 + 110) = (0, 0, false) from (kd_P (k := k464) (c := 0) (by omega) (by omega) (by decide)))])
                have e472 : n_471 0 = nI kc0 := by rw [en_471, pk_un (by omega)]; exact e467
                have e473 : n_471 6 = nI kc6 := by rw [en_471, pk_un (by omega)]; exact e468
                have e474 : n_471 8 = nI k4 := by rw [en_471, pk_un (by omega)]; exact e469
                have e475 : n_471 2 = nI (k464 + 1) := by rw [en_471, pk_un (by omega)]; exact e470
                have e476 : n_471 (14 * k464 + 110) = nI 0 := by rw [en_471, pk_us]
                refine pm_iincX (v := nI 1) (loc' := [some (.ref (B + 54)), some (.int za), some (.int zb), some (.int zc), some (.int zd), some (.int (nI 1)), some (.int (nI k464)), some (.int (nI 1))]) hG dX12_person_137 rfl (nI_1 _) (by decide) (pm_c1b rfl) rfl ?_
                refine pm_goto (tgt := 121) hG dX12_person_140 rfl ?_
                refine pm_iloadi hG dX12_person_121 rfl ?_
                refine pm_bipush (v := nI 14) hG dX12_person_123 (by decide) ?_
                refine pm_icmpN_ge (tgt := 143) hG dX12_person_125 rfl (by omega) (by omega) (fun q => absurd q (by omega)) (fun _ => ?_)
                refine pm_aloadn hG dX12_person_128 rfl ?_
                refine pm_iloadi hG dX12_person_129 rfl ?_
                refine pm_iloadi hG dX12_person_131 rfl ?_
                refine pm_iconst (v := nI 0) hG dX12_person_133 (by decide) ?_
                refine pm_callV (As := [.int (nI k464), .int (nI 1), .int (nI 0)]) (rest := []) hG hR dX12_person_134 (lkX12_97 _ rfl) okV_X12_sets rfl rfl (m_sets (d := 2) (e := 14 * k464 + 111) (by omega) (by omega) (by omega)) rfl rfl hdd (Nat.le_refl _) (Nat.le_refl _) (by decide) (pm_kv (fun σ' cnt' hq => ?_))
                obtain ⟨rfl, rfl⟩ := hq
                obtain ⟨n_477, en_477⟩ : ∃ f : Nat → Int32, f = upd n_471 (14 * k464 + 111) (nI 0) := ⟨_, rfl⟩
                rw [← en_477]
                have hnn_477 := KI.w en_477 hnn_471 (okv_f (show kd (14 * k464 + 111) = (0, 0, false) from (kd_P (k := k464) (c := 1) (by omega) (by omega) (by decide))))
                have hrn_477 := NRx.w en_477 hrn_471 (by rw [(show kd (14 * k464 + 111) = (0, 0, false) from (kd_P (k := k464) (c := 1) (by omega) (by omega) (by decide)))])
                have e478 : n_477 0 = nI kc0 := by rw [en_477, pk_un (by omega)]; exact e472
                have e479 : n_477 6 = nI kc6 := by rw [en_477, pk_un (by omega)]; exact e473
                have e480 : n_477 8 = nI k4 := by rw [en_477, pk_un (by omega)]; exact e474
                have e481 : n_477 2 = nI (k464 + 1) := by rw [en_477, pk_un (by omega)]; exact e475
                have e482 : n_477 (14 * k464 + 111) = nI 0 := by rw [en_477, pk_us]
                refine pm_iincX (v := nI 2) (loc' := [some (.ref (B + 54)), some (.int za), some (.int zb), some (.int zc), some (.int zd), some (.int (nI 1)), some (.int (nI k464)), some (.int (nI 2))]) hG dX12_person_137 rfl (nI_1 _) (by decide) (pm_c1b rfl) rfl ?_
                refine pm_goto (tgt := 121) hG dX12_person_140 rfl ?_
                refine pm_iloadi hG dX12_person_121 rfl ?_
                refine pm_bipush (v := nI 14) hG dX12_person_123 (by decide) ?_
                refine pm_icmpN_ge (tgt := 143) hG dX12_person_125 rfl (by omega) (by omega) (fun q => absurd q (by omega)) (fun _ => ?_)
                refine pm_aloadn hG dX12_person_128 rfl ?_
                refine pm_iloadi hG dX12_person_129 rfl ?_
                refine pm_iloadi hG dX12_person_131 rfl ?_
                refine pm_iconst (v := nI 0) hG dX12_person_133 (by decide) ?_
                refine pm_callV (As := [.int (nI k464), .int (nI 2), .int (nI 0)]) (rest := []) hG hR dX12_person_134 (lkX12_97 _ rfl) okV_X12_sets rfl rfl (m_sets (d := 2) (e := 14 * k464 + 112) (by omega) (by omega) (by omega)) rfl rfl hdd (Nat.le_refl _) (Nat.le_refl _) (by decide) (pm_kv (fun σ' cnt' hq => ?_))
                obtain ⟨rfl, rfl⟩ := hq
                obtain ⟨n_483, en_483⟩ : ∃ f : Nat → Int32, f = upd n_477 (14 * k464 + 112) (nI 0) := ⟨_, rfl⟩
                rw [← en_483]
                have hnn_483 := KI.w en_483 hnn_477 (okv_o (show kd (14 * k464 + 112) = (2, 20, false) from (kd_P (k := k464) (c := 2) (by omega) (by omega) (by decide))) (by omega))
                have hrn_483 := NRx.w en_483 hrn_477 (by rw [(show kd (14 * k464 + 112) = (2, 20, false) from (kd_P (k := k464) (c := 2) (by omega) (by omega) (by decide)))])
                have e484 : n_483 0 = nI kc0 := by rw [en_483, pk_un (by omega)]; exact e478
                have e485 : n_483 6 = nI kc6 := by rw [en_483, pk_un (by omega)]; exact e479
                have e486 : n_483 8 = nI k4 := by rw [en_483, pk_un (by omega)]; exact e480
                have e487 : n_483 2 = nI (k464 + 1) := by rw [en_483, pk_un (by omega)]; exact e481
                have e488 : n_483 (14 * k464 + 112) = nI 0 := by rw [en_483, pk_us]
                refine pm_iincX (v := nI 3) (loc' := [some (.ref (B + 54)), some (.int za), some (.int zb), some (.int zc), some (.int zd), some (.int (nI 1)), some (.int (nI k464)), some (.int (nI 3))]) hG dX12_person_137 rfl (nI_1 _) (by decide) (pm_c1b rfl) rfl ?_
                refine pm_goto (tgt := 121) hG dX12_person_140 rfl ?_
                refine pm_iloadi hG dX12_person_121 rfl ?_
                refine pm_bipush (v := nI 14) hG dX12_person_123 (by decide) ?_
                refine pm_icmpN_ge (tgt := 143) hG dX12_person_125 rfl (by omega) (by omega) (fun q => absurd q (by omega)) (fun _ => ?_)
                refine pm_aloadn hG dX12_person_128 rfl ?_
                refine pm_iloadi hG dX12_person_129 rfl ?_
                refine pm_iloadi hG dX12_person_131 rfl ?_
                refine pm_iconst (v := nI 0) hG dX12_person_133 (by decide) ?_
                refine pm_callV (As := [.int (nI k464), .int (nI 3), .int (nI 0)]) (rest := []) hG hR dX12_person_134 (lkX12_97 _ rfl) okV_X12_sets rfl rfl (m_sets (d := 2) (e := 14 * k464 + 113) (by omega) (by omega) (by omega)) rfl rfl hdd (Nat.le_refl _) (Nat.le_refl _) (by decide) (pm_kv (fun σ' cnt' hq => ?_))
                obtain ⟨rfl, rfl⟩ := hq
                obtain ⟨n_489, en_489⟩ : ∃ f : Nat → Int32, f = upd n_483 (14 * k464 + 113) (nI 0) := ⟨_, rfl⟩
                rw [← en_489]
                have hnn_489 := KI.w en_489 hnn_483 (okv_o (show kd (14 * k464 + 113) = (2, 20, false) from (kd_P (k := k464) (c := 3) (by omega) (by omega) (by decide))) (by omega))
                have hrn_489 := NRx.w en_489 hrn_483 (by rw [(show kd (14 * k464 + 113) = (2, 20, false) from (kd_P (k := k464) (c := 3) (by omega) (by omega) (by decide)))])
                have e490 : n_489 0 = nI kc0 := by rw [en_489, pk_un (by omega)]; exact e484
                have e491 : n_489 6 = nI kc6 := by rw [en_489, pk_un (by omega)]; exact e485
                have e492 : n_489 8 = nI k4 := by rw [en_489, pk_un (by omega)]; exact e486
                have e493 : n_489 2 = nI (k464 + 1) := by rw [en_489, pk_un (by omega)]; exact e487
                have e494 : n_489 (14 * k464 + 113) = nI 0 := by rw [en_489, pk_us]
                refine pm_iincX (v := nI 4) (loc' := [some (.ref (B + 54)), some (.int za), some (.int zb), some (.int zc), some (.int zd), some (.int (nI 1)), some (.int (nI k464)), some (.int (nI 4))]) hG dX12_person_137 rfl (nI_1 _) (by decide) (pm_c1b rfl) rfl ?_
                refine pm_goto (tgt := 121) hG dX12_person_140 rfl ?_
                refine pm_iloadi hG dX12_person_121 rfl ?_
                refine pm_bipush (v := nI 14) hG dX12_person_123 (by decide) ?_
                refine pm_icmpN_ge (tgt := 143) hG dX12_person_125 rfl (by omega) (by omega) (fun q => absurd q (by omega)) (fun _ => ?_)
                refine pm_aloadn hG dX12_person_128 rfl ?_
                refine pm_iloadi hG dX12_person_129 rfl ?_
                refine pm_iloadi hG dX12_person_131 rfl ?_
                refine pm_iconst (v := nI 0) hG dX12_person_133 (by decide) ?_
                refine pm_callV (As := [.int (nI k464), .int (nI 4), .int (nI 0)]) (rest := []) hG hR dX12_person_134 (lkX12_97 _ rfl) okV_X12_sets rfl rfl (m_sets (d := 2) (e := 14 * k464 + 114) (by omega) (by omega) (by omega)) rfl rfl hdd (Nat.le_refl _) (Nat.le_refl _) (by decide) (pm_kv (fun σ' cnt' hq => ?_))
                obtain ⟨rfl, rfl⟩ := hq
                obtain ⟨n_495, en_495⟩ : ∃ f : Nat → Int32, f = upd n_489 (14 * k464 + 114) (nI 0) := ⟨_, rfl⟩
                rw [← en_495]
                have hnn_495 := KI.w en_495 hnn_489 (okv_o (show kd (14 * k464 + 114) = (2, 10, false) from (kd_P (k := k464) (c := 4) (by omega) (by omega) (by decide))) (by omega))
                have hrn_495 := NRx.w en_495 hrn_489 (by rw [(show kd (14 * k464 + 114) = (2, 10, false) from (kd_P (k := k464) (c := 4) (by omega) (by omega) (by decide)))])
                have e496 : n_495 0 = nI kc0 := by rw [en_495, pk_un (by omega)]; exact e490
                have e497 : n_495 6 = nI kc6 := by rw [en_495, pk_un (by omega)]; exact e491
                have e498 : n_495 8 = nI k4 := by rw [en_495, pk_un (by omega)]; exact e492
                have e499 : n_495 2 = nI (k464 + 1) := by rw [en_495, pk_un (by omega)]; exact e493
                have e500 : n_495 (14 * k464 + 114) = nI 0 := by rw [en_495, pk_us]
                refine pm_iincX (v := nI 5) (loc' := [some (.ref (B + 54)), some (.int za), some (.int zb), some (.int zc), some (.int zd), some (.int (nI 1)), some (.int (nI k464)), some (.int (nI 5))]) hG dX12_person_137 rfl (nI_1 _) (by decide) (pm_c1b rfl) rfl ?_
                refine pm_goto (tgt := 121) hG dX12_person_140 rfl ?_
                refine pm_iloadi hG dX12_person_121 rfl ?_
                refine pm_bipush (v := nI 14) hG dX12_person_123 (by decide) ?_
                refine pm_icmpN_ge (tgt := 143) hG dX12_person_125 rfl (by omega) (by omega) (fun q => absurd q (by omega)) (fun _ => ?_)
                refine pm_aloadn hG dX12_person_128 rfl ?_
                refine pm_iloadi hG dX12_person_129 rfl ?_
                refine pm_iloadi hG dX12_person_131 rfl ?_
                refine pm_iconst (v := nI 0) hG dX12_person_133 (by decide) ?_
                refine pm_callV (As := [.int (nI k464), .int (nI 5), .int (nI 0)]) (rest := []) hG hR dX12_person_134 (lkX12_97 _ rfl) okV_X12_sets rfl rfl (m_sets (d := 2) (e := 14 * k464 + 115) (by omega) (by omega) (by omega)) rfl rfl hdd (Nat.le_refl _) (Nat.le_refl _) (by decide) (pm_kv (fun σ' cnt' hq => ?_))
                obtain ⟨rfl, rfl⟩ := hq
                obtain ⟨n_501, en_501⟩ : ∃ f : Nat → Int32, f = upd n_495 (14 * k464 + 115) (nI 0) := ⟨_, rfl⟩
                rw [← en_501]
                have hnn_501 := KI.w en_501 hnn_495 (okv_n (show kd (14 * k464 + 115) = (1, 10, false) from (kd_P (k := k464) (c := 5) (by omega) (by omega) (by decide))) (by omega))
                have hrn_501 := NRx.w en_501 hrn_495 (by rw [(show kd (14 * k464 + 115) = (1, 10, false) from (kd_P (k := k464) (c := 5) (by omega) (by omega) (by decide)))])
                have e502 : n_501 0 = nI kc0 := by rw [en_501, pk_un (by omega)]; exact e496
                have e503 : n_501 6 = nI kc6 := by rw [en_501, pk_un (by omega)]; exact e497
                have e504 : n_501 8 = nI k4 := by rw [en_501, pk_un (by omega)]; exact e498
                have e505 : n_501 2 = nI (k464 + 1) := by rw [en_501, pk_un (by omega)]; exact e499
                have e506 : n_501 (14 * k464 + 115) = nI 0 := by rw [en_501, pk_us]
                refine pm_iincX (v := nI 6) (loc' := [some (.ref (B + 54)), some (.int za), some (.int zb), some (.int zc), some (.int zd), some (.int (nI 1)), some (.int (nI k464)), some (.int (nI 6))]) hG dX12_person_137 rfl (nI_1 _) (by decide) (pm_c1b rfl) rfl ?_
                refine pm_goto (tgt := 121) hG dX12_person_140 rfl ?_
                refine pm_iloadi hG dX12_person_121 rfl ?_
                refine pm_bipush (v := nI 14) hG dX12_person_123 (by decide) ?_
                refine pm_icmpN_ge (tgt := 143) hG dX12_person_125 rfl (by omega) (by omega) (fun q => absurd q (by omega)) (fun _ => ?_)
                refine pm_aloadn hG dX12_person_128 rfl ?_
                refine pm_iloadi hG dX12_person_129 rfl ?_
                refine pm_iloadi hG dX12_person_131 rfl ?_
                refine pm_iconst (v := nI 0) hG dX12_person_133 (by decide) ?_
                refine pm_callV (As := [.int (nI k464), .int (nI 6), .int (nI 0)]) (rest := []) hG hR dX12_person_134 (lkX12_97 _ rfl) okV_X12_sets rfl rfl (m_sets (d := 2) (e := 14 * k464 + 116) (by omega) (by omega) (by omega)) rfl rfl hdd (Nat.le_refl _) (Nat.le_refl _) (by decide) (pm_kv (fun σ' cnt' hq => ?_))
                obtain ⟨rfl, rfl⟩ := hq
                obtain ⟨n_507, en_507⟩ : ∃ f : Nat → Int32, f = upd n_501 (14 * k464 + 116) (nI 0) := ⟨_, rfl⟩
                rw [← en_507]
                have hnn_507 := KI.w en_507 hnn_501 (okv_f (show kd (14 * k464 + 116) = (0, 0, false) from (kd_P (k := k464) (c := 6) (by omega) (by omega) (by decide))))
                have hrn_507 := NRx.w en_507 hrn_501 (by rw [(show kd (14 * k464 + 116) = (0, 0, false) from (kd_P (k := k464) (c := 6) (by omega) (by omega) (by decide)))])
                have e508 : n_507 0 = nI kc0 := by rw [en_507, pk_un (by omega)]; exact e502
                have e509 : n_507 6 = nI kc6 := by rw [en_507, pk_un (by omega)]; exact e503
                have e510 : n_507 8 = nI k4 := by rw [en_507, pk_un (by omega)]; exact e504
                have e511 : n_507 2 = nI (k464 + 1) := by rw [en_507, pk_un (by omega)]; exact e505
                have e512 : n_507 (14 * k464 + 116) = nI 0 := by rw [en_507, pk_us]
                refine pm_iincX (v := nI 7) (loc' := [some (.ref (B + 54)), some (.int za), some (.int zb), some (.int zc), some (.int zd), some (.int (nI 1)), some (.int (nI k464)), some (.int (nI 7))]) hG dX12_person_137 rfl (nI_1 _) (by decide) (pm_c1b rfl) rfl ?_
                refine pm_goto (tgt := 121) hG dX12_person_140 rfl ?_
                refine pm_iloadi hG dX12_person_121 rfl ?_
                refine pm_bipush (v := nI 14) hG dX12_person_123 (by decide) ?_
                refine pm_icmpN_ge (tgt := 143) hG dX12_person_125 rfl (by omega) (by omega) (fun q => absurd q (by omega)) (fun _ => ?_)
                refine pm_aloadn hG dX12_person_128 rfl ?_
                refine pm_iloadi hG dX12_person_129 rfl ?_
                refine pm_iloadi hG dX12_person_131 rfl ?_
                refine pm_iconst (v := nI 0) hG dX12_person_133 (by decide) ?_
                refine pm_callV (As := [.int (nI k464), .int (nI 7), .int (nI 0)]) (rest := []) hG hR dX12_person_134 (lkX12_97 _ rfl) okV_X12_sets rfl rfl (m_sets (d := 2) (e := 14 * k464 + 117) (by omega) (by omega) (by omega)) rfl rfl hdd (Nat.le_refl _) (Nat.le_refl _) (by decide) (pm_kv (fun σ' cnt' hq => ?_))
                obtain ⟨rfl, rfl⟩ := hq
                obtain ⟨n_513, en_513⟩ : ∃ f : Nat → Int32, f = upd n_507 (14 * k464 + 117) (nI 0) := ⟨_, rfl⟩
                rw [← en_513]
                have hnn_513 := KI.w en_513 hnn_507 (okv_f (show kd (14 * k464 + 117) = (0, 0, false) from (kd_P (k := k464) (c := 7) (by omega) (by omega) (by decide))))
                have hrn_513 := NRx.w en_513 hrn_507 (by rw [(show kd (14 * k464 + 117) = (0, 0, false) from (kd_P (k := k464) (c := 7) (by omega) (by omega) (by decide)))])
                have e514 : n_513 0 = nI kc0 := by rw [en_513, pk_un (by omega)]; exact e508
                have e515 : n_513 6 = nI kc6 := by rw [en_513, pk_un (by omega)]; exact e509
                have e516 : n_513 8 = nI k4 := by rw [en_513, pk_un (by omega)]; exact e510
                have e517 : n_513 2 = nI (k464 + 1) := by rw [en_513, pk_un (by omega)]; exact e511
                have e518 : n_513 (14 * k464 + 117) = nI 0 := by rw [en_513, pk_us]
                refine pm_iincX (v := nI 8) (loc' := [some (.ref (B + 54)), some (.int za), some (.int zb), some (.int zc), some (.int zd), some (.int (nI 1)), some (.int (nI k464)), some (.int (nI 8))]) hG dX12_person_137 rfl (nI_1 _) (by decide) (pm_c1b rfl) rfl ?_
                refine pm_goto (tgt := 121) hG dX12_person_140 rfl ?_
                refine pm_iloadi hG dX12_person_121 rfl ?_
                refine pm_bipush (v := nI 14) hG dX12_person_123 (by decide) ?_
                refine pm_icmpN_ge (tgt := 143) hG dX12_person_125 rfl (by omega) (by omega) (fun q => absurd q (by omega)) (fun _ => ?_)
                refine pm_aloadn hG dX12_person_128 rfl ?_
                refine pm_iloadi hG dX12_person_129 rfl ?_
                refine pm_iloadi hG dX12_person_131 rfl ?_
                refine pm_iconst (v := nI 0) hG dX12_person_133 (by decide) ?_
                refine pm_callV (As := [.int (nI k464), .int (nI 8), .int (nI 0)]) (rest := []) hG hR dX12_person_134 (lkX12_97 _ rfl) okV_X12_sets rfl rfl (m_sets (d := 2) (e := 14 * k464 + 118) (by omega) (by omega) (by omega)) rfl rfl hdd (Nat.le_refl _) (Nat.le_refl _) (by decide) (pm_kv (fun σ' cnt' hq => ?_))
                obtain ⟨rfl, rfl⟩ := hq
                obtain ⟨n_519, en_519⟩ : ∃ f : Nat → Int32, f = upd n_513 (14 * k464 + 118) (nI 0) := ⟨_, rfl⟩
                rw [← en_519]
                have hnn_519 := KI.w en_519 hnn_513 (okv_f (show kd (14 * k464 + 118) = (0, 0, false) from (kd_P (k := k464) (c := 8) (by omega) (by omega) (by decide))))
                have hrn_519 := NRx.w en_519 hrn_513 (by rw [(show kd (14 * k464 + 118) = (0, 0, false) from (kd_P (k := k464) (c := 8) (by omega) (by omega) (by decide)))])
                have e520 : n_519 0 = nI kc0 := by rw [en_519, pk_un (by omega)]; exact e514
                have e521 : n_519 6 = nI kc6 := by rw [en_519, pk_un (by omega)]; exact e515
                have e522 : n_519 8 = nI k4 := by rw [en_519, pk_un (by omega)]; exact e516
                have e523 : n_519 2 = nI (k464 + 1) := by rw [en_519, pk_un (by omega)]; exact e517
                have e524 : n_519 (14 * k464 + 118) = nI 0 := by rw [en_519, pk_us]
                refine pm_iincX (v := nI 9) (loc' := [some (.ref (B + 54)), some (.int za), some (.int zb), some (.int zc), some (.int zd), some (.int (nI 1)), some (.int (nI k464)), some (.int (nI 9))]) hG dX12_person_137 rfl (nI_1 _) (by decide) (pm_c1b rfl) rfl ?_
                refine pm_goto (tgt := 121) hG dX12_person_140 rfl ?_
                refine pm_iloadi hG dX12_person_121 rfl ?_
                refine pm_bipush (v := nI 14) hG dX12_person_123 (by decide) ?_
                refine pm_icmpN_ge (tgt := 143) hG dX12_person_125 rfl (by omega) (by omega) (fun q => absurd q (by omega)) (fun _ => ?_)
                refine pm_aloadn hG dX12_person_128 rfl ?_
                refine pm_iloadi hG dX12_person_129 rfl ?_
                refine pm_iloadi hG dX12_person_131 rfl ?_
                refine pm_iconst (v := nI 0) hG dX12_person_133 (by decide) ?_
                refine pm_callV (As := [.int (nI k464), .int (nI 9), .int (nI 0)]) (rest := []) hG hR dX12_person_134 (lkX12_97 _ rfl) okV_X12_sets rfl rfl (m_sets (d := 2) (e := 14 * k464 + 119) (by omega) (by omega) (by omega)) rfl rfl hdd (Nat.le_refl _) (Nat.le_refl _) (by decide) (pm_kv (fun σ' cnt' hq => ?_))
                obtain ⟨rfl, rfl⟩ := hq
                obtain ⟨n_525, en_525⟩ : ∃ f : Nat → Int32, f = upd n_519 (14 * k464 + 119) (nI 0) := ⟨_, rfl⟩
                rw [← en_525]
                have hnn_525 := KI.w en_525 hnn_519 (okv_o (show kd (14 * k464 + 119) = (2, 2001, false) from (kd_P (k := k464) (c := 9) (by omega) (by omega) (by decide))) (by omega))
                have hrn_525 := NRx.w en_525 hrn_519 (by rw [(show kd (14 * k464 + 119) = (2, 2001, false) from (kd_P (k := k464) (c := 9) (by omega) (by omega) (by decide)))])
                have e526 : n_525 0 = nI kc0 := by rw [en_525, pk_un (by omega)]; exact e520
                have e527 : n_525 6 = nI kc6 := by rw [en_525, pk_un (by omega)]; exact e521
                have e528 : n_525 8 = nI k4 := by rw [en_525, pk_un (by omega)]; exact e522
                have e529 : n_525 2 = nI (k464 + 1) := by rw [en_525, pk_un (by omega)]; exact e523
                have e530 : n_525 (14 * k464 + 119) = nI 0 := by rw [en_525, pk_us]
                refine pm_iincX (v := nI 10) (loc' := [some (.ref (B + 54)), some (.int za), some (.int zb), some (.int zc), some (.int zd), some (.int (nI 1)), some (.int (nI k464)), some (.int (nI 10))]) hG dX12_person_137 rfl (nI_1 _) (by decide) (pm_c1b rfl) rfl ?_
                refine pm_goto (tgt := 121) hG dX12_person_140 rfl ?_
                refine pm_iloadi hG dX12_person_121 rfl ?_
                refine pm_bipush (v := nI 14) hG dX12_person_123 (by decide) ?_
                refine pm_icmpN_ge (tgt := 143) hG dX12_person_125 rfl (by omega) (by omega) (fun q => absurd q (by omega)) (fun _ => ?_)
                refine pm_aloadn hG dX12_person_128 rfl ?_
                refine pm_iloadi hG dX12_person_129 rfl ?_
                refine pm_iloadi hG dX12_person_131 rfl ?_
                refine pm_iconst (v := nI 0) hG dX12_person_133 (by decide) ?_
                refine pm_callV (As := [.int (nI k464), .int (nI 10), .int (nI 0)]) (rest := []) hG hR dX12_person_134 (lkX12_97 _ rfl) okV_X12_sets rfl rfl (m_sets (d := 2) (e := 14 * k464 + 120) (by omega) (by omega) (by omega)) rfl rfl hdd (Nat.le_refl _) (Nat.le_refl _) (by decide) (pm_kv (fun σ' cnt' hq => ?_))
                obtain ⟨rfl, rfl⟩ := hq
                obtain ⟨n_531, en_531⟩ : ∃ f : Nat → Int32, f = upd n_525 (14 * k464 + 120) (nI 0) := ⟨_, rfl⟩
                rw [← en_531]
                have hnn_531 := KI.w en_531 hnn_525 (okv_f (show kd (14 * k464 + 120) = (0, 0, false) from (kd_P (k := k464) (c := 10) (by omega) (by omega) (by decide))))
                have hrn_531 := NRx.w en_531 hrn_525 (by rw [(show kd (14 * k464 + 120) = (0, 0, false) from (kd_P (k := k464) (c := 10) (by omega) (by omega) (by decide)))])
                have e532 : n_531 0 = nI kc0 := by rw [en_531, pk_un (by omega)]; exact e526
                have e533 : n_531 6 = nI kc6 := by rw [en_531, pk_un (by omega)]; exact e527
                have e534 : n_531 8 = nI k4 := by rw [en_531, pk_un (by omega)]; exact e528
                have e535 : n_531 2 = nI (k464 + 1) := by rw [en_531, pk_un (by omega)]; exact e529
                have e536 : n_531 (14 * k464 + 120) = nI 0 := by rw [en_531, pk_us]
                refine pm_iincX (v := nI 11) (loc' := [some (.ref (B + 54)), some (.int za), some (.int zb), some (.int zc), some (.int zd), some (.int (nI 1)), some (.int (nI k464)), some (.int (nI 11))]) hG dX12_person_137 rfl (nI_1 _) (by decide) (pm_c1b rfl) rfl ?_
                refine pm_goto (tgt := 121) hG dX12_person_140 rfl ?_
                refine pm_iloadi hG dX12_person_121 rfl ?_
                refine pm_bipush (v := nI 14) hG dX12_person_123 (by decide) ?_
                refine pm_icmpN_ge (tgt := 143) hG dX12_person_125 rfl (by omega) (by omega) (fun q => absurd q (by omega)) (fun _ => ?_)
                refine pm_aloadn hG dX12_person_128 rfl ?_
                refine pm_iloadi hG dX12_person_129 rfl ?_
                refine pm_iloadi hG dX12_person_131 rfl ?_
                refine pm_iconst (v := nI 0) hG dX12_person_133 (by decide) ?_
                refine pm_callV (As := [.int (nI k464), .int (nI 11), .int (nI 0)]) (rest := []) hG hR dX12_person_134 (lkX12_97 _ rfl) okV_X12_sets rfl rfl (m_sets (d := 2) (e := 14 * k464 + 121) (by omega) (by omega) (by omega)) rfl rfl hdd (Nat.le_refl _) (Nat.le_refl _) (by decide) (pm_kv (fun σ' cnt' hq => ?_))
                obtain ⟨rfl, rfl⟩ := hq
                obtain ⟨n_537, en_537⟩ : ∃ f : Nat → Int32, f = upd n_531 (14 * k464 + 121) (nI 0) := ⟨_, rfl⟩
                rw [← en_537]
                have hnn_537 := KI.w en_537 hnn_531 (okv_n (show kd (14 * k464 + 121) = (1, 2, true) from (kd_P (k := k464) (c := 11) (by omega) (by omega) (by decide))) (by omega))
                have hrn_537 := NRx.unseat (p := k464) en_537 hrn_531 (by omega)
                have e538 : n_537 0 = nI kc0 := by rw [en_537, pk_un (by omega)]; exact e532
                have e539 : n_537 6 = nI kc6 := by rw [en_537, pk_un (by omega)]; exact e533
                have e540 : n_537 8 = nI k4 := by rw [en_537, pk_un (by omega)]; exact e534
                have e541 : n_537 2 = nI (k464 + 1) := by rw [en_537, pk_un (by omega)]; exact e535
                have e542 : n_537 (14 * k464 + 121) = nI 0 := by rw [en_537, pk_us]
                refine pm_iincX (v := nI 12) (loc' := [some (.ref (B + 54)), some (.int za), some (.int zb), some (.int zc), some (.int zd), some (.int (nI 1)), some (.int (nI k464)), some (.int (nI 12))]) hG dX12_person_137 rfl (nI_1 _) (by decide) (pm_c1b rfl) rfl ?_
                refine pm_goto (tgt := 121) hG dX12_person_140 rfl ?_
                refine pm_iloadi hG dX12_person_121 rfl ?_
                refine pm_bipush (v := nI 14) hG dX12_person_123 (by decide) ?_
                refine pm_icmpN_ge (tgt := 143) hG dX12_person_125 rfl (by omega) (by omega) (fun q => absurd q (by omega)) (fun _ => ?_)
                refine pm_aloadn hG dX12_person_128 rfl ?_
                refine pm_iloadi hG dX12_person_129 rfl ?_
                refine pm_iloadi hG dX12_person_131 rfl ?_
                refine pm_iconst (v := nI 0) hG dX12_person_133 (by decide) ?_
                refine pm_callV (As := [.int (nI k464), .int (nI 12), .int (nI 0)]) (rest := []) hG hR dX12_person_134 (lkX12_97 _ rfl) okV_X12_sets rfl rfl (m_sets (d := 2) (e := 14 * k464 + 122) (by omega) (by omega) (by omega)) rfl rfl hdd (Nat.le_refl _) (Nat.le_refl _) (by decide) (pm_kv (fun σ' cnt' hq => ?_))
                obtain ⟨rfl, rfl⟩ := hq
                obtain ⟨n_543, en_543⟩ : ∃ f : Nat → Int32, f = upd n_537 (14 * k464 + 122) (nI 0) := ⟨_, rfl⟩
                rw [← en_543]
                have hnn_543 := KI.w en_543 hnn_537 (okv_f (show kd (14 * k464 + 122) = (0, 0, false) from (kd_P (k := k464) (c := 12) (by omega) (by omega) (by decide))))
                have hrn_543 := NRx.w en_543 hrn_537 (by rw [(show kd (14 * k464 + 122) = (0, 0, false) from (kd_P (k := k464) (c := 12) (by omega) (by omega) (by decide)))])
                have e544 : n_543 0 = nI kc0 := by rw [en_543, pk_un (by omega)]; exact e538
                have e545 : n_543 6 = nI kc6 := by rw [en_543, pk_un (by omega)]; exact e539
                have e546 : n_543 8 = nI k4 := by rw [en_543, pk_un (by omega)]; exact e540
                have e547 : n_543 2 = nI (k464 + 1) := by rw [en_543, pk_un (by omega)]; exact e541
                have e548 : n_543 (14 * k464 + 122) = nI 0 := by rw [en_543, pk_us]
                refine pm_iincX (v := nI 13) (loc' := [some (.ref (B + 54)), some (.int za), some (.int zb), some (.int zc), some (.int zd), some (.int (nI 1)), some (.int (nI k464)), some (.int (nI 13))]) hG dX12_person_137 rfl (nI_1 _) (by decide) (pm_c1b rfl) rfl ?_
                refine pm_goto (tgt := 121) hG dX12_person_140 rfl ?_
                refine pm_iloadi hG dX12_person_121 rfl ?_
                refine pm_bipush (v := nI 14) hG dX12_person_123 (by decide) ?_
                refine pm_icmpN_ge (tgt := 143) hG dX12_person_125 rfl (by omega) (by omega) (fun q => absurd q (by omega)) (fun _ => ?_)
                refine pm_aloadn hG dX12_person_128 rfl ?_
                refine pm_iloadi hG dX12_person_129 rfl ?_
                refine pm_iloadi hG dX12_person_131 rfl ?_
                refine pm_iconst (v := nI 0) hG dX12_person_133 (by decide) ?_
                refine pm_callV (As := [.int (nI k464), .int (nI 13), .int (nI 0)]) (rest := []) hG hR dX12_person_134 (lkX12_97 _ rfl) okV_X12_sets rfl rfl (m_sets (d := 2) (e := 14 * k464 + 123) (by omega) (by omega) (by omega)) rfl rfl hdd (Nat.le_refl _) (Nat.le_refl _) (by decide) (pm_kv (fun σ' cnt' hq => ?_))
                obtain ⟨rfl, rfl⟩ := hq
                obtain ⟨n_549, en_549⟩ : ∃ f : Nat → Int32, f = upd n_543 (14 * k464 + 123) (nI 0) := ⟨_, rfl⟩
                rw [← en_549]
                have hnn_549 := KI.w en_549 hnn_543 (okv_f (show kd (14 * k464 + 123) = (0, 0, false) from (kd_P (k := k464) (c := 13) (by omega) (by omega) (by decide))))
                have hrn_549 := NRx.w en_549 hrn_543 (by rw [(show kd (14 * k464 + 123) = (0, 0, false) from (kd_P (k := k464) (c := 13) (by omega) (by omega) (by decide)))])
                have e550 : n_549 0 = nI kc0 := by rw [en_549, pk_un (by omega)]; exact e544
                have e551 : n_549 6 = nI kc6 := by rw [en_549, pk_un (by omega)]; exact e545
                have e552 : n_549 8 = nI k4 := by rw [en_549, pk_un (by omega)]; exact e546
                have e553 : n_549 2 = nI (k464 + 1) := by rw [en_549, pk_un (by omega)]; exact e547
                have e554 : n_549 (14 * k464 + 123) = nI 0 := by rw [en_549, pk_us]
                refine pm_iincX (v := nI 14) (loc' := [some (.ref (B + 54)), some (.int za), some (.int zb), some (.int zc), some (.int zd), some (.int (nI 1)), some (.int (nI k464)), some (.int (nI 14))]) hG dX12_person_137 rfl (nI_1 _) (by decide) (pm_c1b rfl) rfl ?_
                refine pm_goto (tgt := 121) hG dX12_person_140 rfl ?_
                refine pm_iloadi hG dX12_person_121 rfl ?_
                refine pm_bipush (v := nI 14) hG dX12_person_123 (by decide) ?_
                refine pm_icmpN_ge (tgt := 143) hG dX12_person_125 rfl (by omega) (by omega) (fun _ => ?_) (fun q => absurd q (by omega))
                refine pm_aloadn hG dX12_person_143 rfl ?_
                refine pm_iloadi hG dX12_person_144 rfl ?_
                refine pm_iconst (v := nI 0) hG dX12_person_146 (by decide) ?_
                refine pm_iloadn hG dX12_person_147 rfl ?_
                refine pm_top (v := nI k3) ek3 ?_
                refine pm_callV (As := [.int (nI k464), .int (nI 0), .int (nI k3)]) (rest := []) hG hR dX12_person_148 (lkX12_97 _ rfl) okV_X12_sets rfl rfl (m_sets (d := 2) (e := 14 * k464 + 110) (by omega) (by omega) (by omega)) rfl rfl hdd (Nat.le_refl _) (Nat.le_refl _) (by decide) (pm_kv (fun σ' cnt' hq => ?_))
                obtain ⟨rfl, rfl⟩ := hq
                obtain ⟨n_555, en_555⟩ : ∃ f : Nat → Int32, f = upd n_549 (14 * k464 + 110) (nI k3) := ⟨_, rfl⟩
                rw [← en_555]
                have hnn_555 := KI.w en_555 hnn_549 (okv_f (show kd (14 * k464 + 110) = (0, 0, false) from (kd_P (k := k464) (c := 0) (by omega) (by omega) (by decide))))
                have hrn_555 := NRx.w en_555 hrn_549 (by rw [(show kd (14 * k464 + 110) = (0, 0, false) from (kd_P (k := k464) (c := 0) (by omega) (by omega) (by decide)))])
                have e556 : n_555 0 = nI kc0 := by rw [en_555, pk_un (by omega)]; exact e550
                have e557 : n_555 6 = nI kc6 := by rw [en_555, pk_un (by omega)]; exact e551
                have e558 : n_555 8 = nI k4 := by rw [en_555, pk_un (by omega)]; exact e552
                have e559 : n_555 2 = nI (k464 + 1) := by rw [en_555, pk_un (by omega)]; exact e553
                have e560 : n_555 (14 * k464 + 110) = nI k3 := by rw [en_555, pk_us]
                refine pm_aloadn hG dX12_person_151 rfl ?_
                refine pm_iloadi hG dX12_person_152 rfl ?_
                refine pm_iconst (v := nI 1) hG dX12_person_154 (by decide) ?_
                refine pm_iloadn hG dX12_person_155 rfl ?_
                refine pm_callV (As := [.int (nI k464), .int (nI 1), .int zb]) (rest := []) hG hR dX12_person_156 (lkX12_97 _ rfl) okV_X12_sets rfl rfl (m_sets (d := 2) (e := 14 * k464 + 111) (by omega) (by omega) (by omega)) rfl rfl hdd (Nat.le_refl _) (Nat.le_refl _) (by decide) (pm_kv (fun σ' cnt' hq => ?_))
                obtain ⟨rfl, rfl⟩ := hq
                obtain ⟨n_561, en_561⟩ : ∃ f : Nat → Int32, f = upd n_555 (14 * k464 + 111) zb := ⟨_, rfl⟩
                rw [← en_561]
                have hnn_561 := KI.w en_561 hnn_555 (okv_f (show kd (14 * k464 + 111) = (0, 0, false) from (kd_P (k := k464) (c := 1) (by omega) (by omega) (by decide))))
                have hrn_561 := NRx.w en_561 hrn_555 (by rw [(show kd (14 * k464 + 111) = (0, 0, false) from (kd_P (k := k464) (c := 1) (by omega) (by omega) (by decide)))])
                have e562 : n_561 0 = nI kc0 := by rw [en_561, pk_un (by omega)]; exact e556
                have e563 : n_561 6 = nI kc6 := by rw [en_561, pk_un (by omega)]; exact e557
                have e564 : n_561 8 = nI k4 := by rw [en_561, pk_un (by omega)]; exact e558
                have e565 : n_561 2 = nI (k464 + 1) := by rw [en_561, pk_un (by omega)]; exact e559
                have e566 : n_561 (14 * k464 + 111) = zb := by rw [en_561, pk_us]
                refine pm_aloadn hG dX12_person_159 rfl ?_
                refine pm_iloadi hG dX12_person_160 rfl ?_
                refine pm_iconst (v := nI 2) hG dX12_person_162 (by decide) ?_
                refine pm_iloadn hG dX12_person_163 rfl ?_
                refine pm_top (v := nI k10) ek10 ?_
                refine pm_bipush (v := nI 100) hG dX12_person_164 (by decide) ?_
                refine pm_idivN hG dX12_person_166 (by omega) (by decide) (by decide) ?_
                refine pm_iconst (v := nI 1) hG dX12_person_167 (by decide) ?_
                refine pm_isub hG dX12_person_168 ?_
                refine pm_top (v := nI k12) ek12 ?_
                refine pm_callV (As := [.int (nI k464), .int (nI 2), .int (nI k12)]) (rest := []) hG hR dX12_person_169 (lkX12_97 _ rfl) okV_X12_sets rfl rfl (m_sets (d := 2) (e := 14 * k464 + 112) (by omega) (by omega) (by omega)) rfl rfl hdd (Nat.le_refl _) (Nat.le_refl _) (by decide) (pm_kv (fun σ' cnt' hq => ?_))
                obtain ⟨rfl, rfl⟩ := hq
                obtain ⟨n_567, en_567⟩ : ∃ f : Nat → Int32, f = upd n_561 (14 * k464 + 112) (nI k12) := ⟨_, rfl⟩
                rw [← en_567]
                have hnn_567 := KI.w en_567 hnn_561 (okv_o (show kd (14 * k464 + 112) = (2, 20, false) from (kd_P (k := k464) (c := 2) (by omega) (by omega) (by decide))) (by omega))
                have hrn_567 := NRx.w en_567 hrn_561 (by rw [(show kd (14 * k464 + 112) = (2, 20, false) from (kd_P (k := k464) (c := 2) (by omega) (by omega) (by decide)))])
                have e568 : n_567 0 = nI kc0 := by rw [en_567, pk_un (by omega)]; exact e562
                have e569 : n_567 6 = nI kc6 := by rw [en_567, pk_un (by omega)]; exact e563
                have e570 : n_567 8 = nI k4 := by rw [en_567, pk_un (by omega)]; exact e564
                have e571 : n_567 2 = nI (k464 + 1) := by rw [en_567, pk_un (by omega)]; exact e565
                have e572 : n_567 (14 * k464 + 112) = nI k12 := by rw [en_567, pk_us]
                refine pm_aloadn hG dX12_person_172 rfl ?_
                refine pm_iloadi hG dX12_person_173 rfl ?_
                refine pm_iconst (v := nI 3) hG dX12_person_175 (by decide) ?_
                refine pm_iloadn hG dX12_person_176 rfl ?_
                refine pm_top (v := nI k10) ek10 ?_
                refine pm_bipush (v := nI 100) hG dX12_person_177 (by decide) ?_
                refine pm_iremM hG dX12_person_179 (by omega) (by decide) (by decide) ?_
                refine pm_iconst (v := nI 1) hG dX12_person_180 (by decide) ?_
                refine pm_isub hG dX12_person_181 ?_
                refine pm_top (v := nI k312) ek312 ?_
                refine pm_callV (As := [.int (nI k464), .int (nI 3), .int (nI k312)]) (rest := []) hG hR dX12_person_182 (lkX12_97 _ rfl) okV_X12_sets rfl rfl (m_sets (d := 2) (e := 14 * k464 + 113) (by omega) (by omega) (by omega)) rfl rfl hdd (Nat.le_refl _) (Nat.le_refl _) (by decide) (pm_kv (fun σ' cnt' hq => ?_))
                obtain ⟨rfl, rfl⟩ := hq
                obtain ⟨n_573, en_573⟩ : ∃ f : Nat → Int32, f = upd n_567 (14 * k464 + 113) (nI k312) := ⟨_, rfl⟩
                rw [← en_573]
                have hnn_573 := KI.w en_573 hnn_567 (okv_o (show kd (14 * k464 + 113) = (2, 20, false) from (kd_P (k := k464) (c := 3) (by omega) (by omega) (by decide))) (by omega))
                have hrn_573 := NRx.w en_573 hrn_567 (by rw [(show kd (14 * k464 + 113) = (2, 20, false) from (kd_P (k := k464) (c := 3) (by omega) (by omega) (by decide)))])
                have e574 : n_573 0 = nI kc0 := by rw [en_573, pk_un (by omega)]; exact e568
                have e575 : n_573 6 = nI kc6 := by rw [en_573, pk_un (by omega)]; exact e569
                have e576 : n_573 8 = nI k4 := by rw [en_573, pk_un (by omega)]; exact e570
                have e577 : n_573 2 = nI (k464 + 1) := by rw [en_573, pk_un (by omega)]; exact e571
                have e578 : n_573 (14 * k464 + 113) = nI k312 := by rw [en_573, pk_us]
                refine pm_aloadn hG dX12_person_185 rfl ?_
                refine pm_iloadi hG dX12_person_186 rfl ?_
                refine pm_iconst (v := nI 4) hG dX12_person_188 (by decide) ?_
                refine pm_iloadi hG dX12_person_189 rfl ?_
                refine pm_top (v := nI k463) ek463 ?_
                refine pm_callV (As := [.int (nI k464), .int (nI 4), .int (nI k463)]) (rest := []) hG hR dX12_person_191 (lkX12_97 _ rfl) okV_X12_sets rfl rfl (m_sets (d := 2) (e := 14 * k464 + 114) (by omega) (by omega) (by omega)) rfl rfl hdd (Nat.le_refl _) (Nat.le_refl _) (by decide) (pm_kv (fun σ' cnt' hq => ?_))
                obtain ⟨rfl, rfl⟩ := hq
                obtain ⟨n_579, en_579⟩ : ∃ f : Nat → Int32, f = upd n_573 (14 * k464 + 114) (nI k463) := ⟨_, rfl⟩
                rw [← en_579]
                have hnn_579 := KI.w en_579 hnn_573 (okv_o (show kd (14 * k464 + 114) = (2, 10, false) from (kd_P (k := k464) (c := 4) (by omega) (by omega) (by decide))) (by omega))
                have hrn_579 := NRx.w en_579 hrn_573 (by rw [(show kd (14 * k464 + 114) = (2, 10, false) from (kd_P (k := k464) (c := 4) (by omega) (by omega) (by decide)))])
                have e580 : n_579 0 = nI kc0 := by rw [en_579, pk_un (by omega)]; exact e574
                have e581 : n_579 6 = nI kc6 := by rw [en_579, pk_un (by omega)]; exact e575
                have e582 : n_579 8 = nI k4 := by rw [en_579, pk_un (by omega)]; exact e576
                have e583 : n_579 2 = nI (k464 + 1) := by rw [en_579, pk_un (by omega)]; exact e577
                have e584 : n_579 (14 * k464 + 114) = nI k463 := by rw [en_579, pk_us]
                refine pm_aloadn hG dX12_person_194 rfl ?_
                refine pm_iloadi hG dX12_person_195 rfl ?_
                refine pm_bipush (v := nI 9) hG dX12_person_197 (by decide) ?_
                refine pm_iconst (v := (-1)) hG dX12_person_199 (by decide) ?_
                refine pm_callV (As := [.int (nI k464), .int (nI 9), .int (-1)]) (rest := []) hG hR dX12_person_200 (lkX12_97 _ rfl) okV_X12_sets rfl rfl (m_sets (d := 2) (e := 14 * k464 + 119) (by omega) (by omega) (by omega)) rfl rfl hdd (Nat.le_refl _) (Nat.le_refl _) (by decide) (pm_kv (fun σ' cnt' hq => ?_))
                obtain ⟨rfl, rfl⟩ := hq
                obtain ⟨n_585, en_585⟩ : ∃ f : Nat → Int32, f = upd n_579 (14 * k464 + 119) (-1) := ⟨_, rfl⟩
                rw [← en_585]
                have hnn_585 := KI.w en_585 hnn_579 (okv_m (show kd (14 * k464 + 119) = (2, 2001, false) from (kd_P (k := k464) (c := 9) (by omega) (by omega) (by decide))))
                have hrn_585 := NRx.w en_585 hrn_579 (by rw [(show kd (14 * k464 + 119) = (2, 2001, false) from (kd_P (k := k464) (c := 9) (by omega) (by omega) (by decide)))])
                have e586 : n_585 0 = nI kc0 := by rw [en_585, pk_un (by omega)]; exact e580
                have e587 : n_585 6 = nI kc6 := by rw [en_585, pk_un (by omega)]; exact e581
                have e588 : n_585 8 = nI k4 := by rw [en_585, pk_un (by omega)]; exact e582
                have e589 : n_585 2 = nI (k464 + 1) := by rw [en_585, pk_un (by omega)]; exact e583
                have e590 : n_585 (14 * k464 + 119) = (-1) := by rw [en_585, pk_us]
                refine pm_aloadn hG dX12_person_203 rfl ?_
                refine pm_iloadi hG dX12_person_204 rfl ?_
                refine pm_bipush (v := nI 10) hG dX12_person_206 (by decide) ?_
                refine pm_iconst (v := (-1)) hG dX12_person_208 (by decide) ?_
                refine pm_callV (As := [.int (nI k464), .int (nI 10), .int (-1)]) (rest := []) hG hR dX12_person_209 (lkX12_97 _ rfl) okV_X12_sets rfl rfl (m_sets (d := 2) (e := 14 * k464 + 120) (by omega) (by omega) (by omega)) rfl rfl hdd (Nat.le_refl _) (Nat.le_refl _) (by decide) (pm_kv (fun σ' cnt' hq => ?_))
                obtain ⟨rfl, rfl⟩ := hq
                obtain ⟨n_591, en_591⟩ : ∃ f : Nat → Int32, f = upd n_585 (14 * k464 + 120) (-1) := ⟨_, rfl⟩
                rw [← en_591]
                have hnn_591 := KI.w en_591 hnn_585 (okv_f (show kd (14 * k464 + 120) = (0, 0, false) from (kd_P (k := k464) (c := 10) (by omega) (by omega) (by decide))))
                have hrn_591 := NRx.w en_591 hrn_585 (by rw [(show kd (14 * k464 + 120) = (0, 0, false) from (kd_P (k := k464) (c := 10) (by omega) (by omega) (by decide)))])
                have e592 : n_591 0 = nI kc0 := by rw [en_591, pk_un (by omega)]; exact e586
                have e593 : n_591 6 = nI kc6 := by rw [en_591, pk_un (by omega)]; exact e587
                have e594 : n_591 8 = nI k4 := by rw [en_591, pk_un (by omega)]; exact e588
                have e595 : n_591 2 = nI (k464 + 1) := by rw [en_591, pk_un (by omega)]; exact e589
                have e596 : n_591 (14 * k464 + 120) = (-1) := by rw [en_591, pk_us]
                refine pm_aloadn hG dX12_person_212 rfl ?_
                refine pm_iloadi hG dX12_person_213 rfl ?_
                refine pm_bipush (v := nI 12) hG dX12_person_215 (by decide) ?_
                refine pm_iconst (v := nI 1) hG dX12_person_217 (by decide) ?_
                refine pm_callV (As := [.int (nI k464), .int (nI 12), .int (nI 1)]) (rest := []) hG hR dX12_person_218 (lkX12_97 _ rfl) okV_X12_sets rfl rfl (m_sets (d := 2) (e := 14 * k464 + 122) (by omega) (by omega) (by omega)) rfl rfl hdd (Nat.le_refl _) (Nat.le_refl _) (by decide) (pm_kv (fun σ' cnt' hq => ?_))
                obtain ⟨rfl, rfl⟩ := hq
                obtain ⟨n_597, en_597⟩ : ∃ f : Nat → Int32, f = upd n_591 (14 * k464 + 122) (nI 1) := ⟨_, rfl⟩
                rw [← en_597]
                have hnn_597 := KI.w en_597 hnn_591 (okv_f (show kd (14 * k464 + 122) = (0, 0, false) from (kd_P (k := k464) (c := 12) (by omega) (by omega) (by decide))))
                have hrn_597 := NRx.w en_597 hrn_591 (by rw [(show kd (14 * k464 + 122) = (0, 0, false) from (kd_P (k := k464) (c := 12) (by omega) (by omega) (by decide)))])
                have e598 : n_597 0 = nI kc0 := by rw [en_597, pk_un (by omega)]; exact e592
                have e599 : n_597 6 = nI kc6 := by rw [en_597, pk_un (by omega)]; exact e593
                have e600 : n_597 8 = nI k4 := by rw [en_597, pk_un (by omega)]; exact e594
                have e601 : n_597 2 = nI (k464 + 1) := by rw [en_597, pk_un (by omega)]; exact e595
                have e602 : n_597 (14 * k464 + 122) = nI 1 := by rw [en_597, pk_us]
                refine pm_iloadi hG dX12_person_221 rfl ?_
                exact pm_iret hG hF dX12_person_223 rfl (Nat.le_refl _) (Nat.le_refl _) ⟨_, rfl, ⟨_, _, _, rfl, hnn_597, hrn_597, e598.trans ekc0.symm, e599.trans ekc6.symm⟩, rfl⟩
              · refine pm_aloadn hG dX12_person_102 rfl ?_
                refine pm_iconst (v := nI 4) hG dX12_person_103 (by decide) ?_
                refine pm_callV (As := [.int (nI 4)]) (rest := []) hG hR dX12_person_104 (lkX12_80 _ rfl) okV_X12_finds rfl rfl (m_finds (d := 2) (by decide) hn hz (by omega)) rfl rfl hdd (Nat.le_refl _) (Nat.le_refl _) (by decide) (pm_ki (fun v603 σ' cnt' hq => ?_))
                obtain ⟨⟨I604, A604, rfl⟩, rfl, fv603⟩ := hq
                exact pm_iret hG hF dX12_person_107 rfl (Nat.le_refl _) (Nat.le_refl _) ⟨_, rfl, ⟨_, _, _, rfl, hn, hr, ekc0.trans ekc0.symm, ekc6.trans ekc6.symm⟩, rfl⟩
            · refine pm_ifN_eq (tgt := 73) hG dX12_person_66 rfl (by omega) (fun _ => ?_) (fun q => absurd q (by omega))
              refine pm_iconst (v := nI 0) hG dX12_person_73 (by decide) ?_
              refine pm_istoreXi (loc' := [some (.ref (B + 54)), some (.int za), some (.int zb), some (.int zc), some (.int zd), some (.int (nI 0)), none, none]) hG dX12_person_74 (by decide) (pm_c1b rfl) rfl ?_
              refine pm_iloadi hG dX12_person_76 rfl ?_
              refine pm_ifN_ne (tgt := 87) hG dX12_person_78 rfl (by omega) (fun q => absurd q (by omega)) (fun _ => ?_)
              refine pm_aloadn hG dX12_person_81 rfl ?_
              refine pm_iconst (v := nI 1) hG dX12_person_82 (by decide) ?_
              refine pm_callV (As := [.int (nI 1)]) (rest := []) hG hR dX12_person_83 (lkX12_80 _ rfl) okV_X12_finds rfl rfl (m_finds (d := 2) (by decide) hn hz (by omega)) rfl rfl hdd (Nat.le_refl _) (Nat.le_refl _) (by decide) (pm_ki (fun v605 σ' cnt' hq => ?_))
              obtain ⟨⟨I606, A606, rfl⟩, rfl, fv605⟩ := hq
              exact pm_iret hG hF dX12_person_86 rfl (Nat.le_refl _) (Nat.le_refl _) ⟨_, rfl, ⟨_, _, _, rfl, hn, hr, ekc0.trans ekc0.symm, ekc6.trans ekc6.symm⟩, rfl⟩
    · refine pm_ifN_eq (tgt := 73) hG dX12_person_23 rfl (by omega) (fun _ => ?_) (fun q => absurd q (by omega))
      refine pm_iconst (v := nI 0) hG dX12_person_73 (by decide) ?_
      refine pm_istoreXi (loc' := [some (.ref (B + 54)), some (.int za), some (.int zb), some (.int zc), some (.int zd), some (.int (nI 0)), none, none]) hG dX12_person_74 (by decide) (pm_c1b rfl) rfl ?_
      refine pm_iloadi hG dX12_person_76 rfl ?_
      refine pm_ifN_ne (tgt := 87) hG dX12_person_78 rfl (by omega) (fun q => absurd q (by omega)) (fun _ => ?_)
      refine pm_aloadn hG dX12_person_81 rfl ?_
      refine pm_iconst (v := nI 1) hG dX12_person_82 (by decide) ?_
      refine pm_callV (As := [.int (nI 1)]) (rest := []) hG hR dX12_person_83 (lkX12_80 _ rfl) okV_X12_finds rfl rfl (m_finds (d := 2) (by decide) hn hz (by omega)) rfl rfl hdd (Nat.le_refl _) (Nat.le_refl _) (by decide) (pm_ki (fun v607 σ' cnt' hq => ?_))
      obtain ⟨⟨I608, A608, rfl⟩, rfl, fv607⟩ := hq
      exact pm_iret hG hF dX12_person_86 rfl (Nat.le_refl _) (Nat.le_refl _) ⟨_, rfl, ⟨_, _, _, rfl, hn, hr, ekc0.trans ekc0.symm, ekc6.trans ekc6.symm⟩, rfl⟩
  · refine pm_ifN_eq (tgt := 73) hG dX12_person_6 rfl (by omega) (fun _ => ?_) (fun q => absurd q (by omega))
    refine pm_iconst (v := nI 0) hG dX12_person_73 (by decide) ?_
    refine pm_istoreXi (loc' := [some (.ref (B + 54)), some (.int za), some (.int zb), some (.int zc), some (.int zd), some (.int (nI 0)), none, none]) hG dX12_person_74 (by decide) (pm_c1b rfl) rfl ?_
    refine pm_iloadi hG dX12_person_76 rfl ?_
    refine pm_ifN_ne (tgt := 87) hG dX12_person_78 rfl (by omega) (fun q => absurd q (by omega)) (fun _ => ?_)
    refine pm_aloadn hG dX12_person_81 rfl ?_
    refine pm_iconst (v := nI 1) hG dX12_person_82 (by decide) ?_
    refine pm_callV (As := [.int (nI 1)]) (rest := []) hG hR dX12_person_83 (lkX12_80 _ rfl) okV_X12_finds rfl rfl (m_finds (d := 2) (by decide) hn hz (by omega)) rfl rfl hdd (Nat.le_refl _) (Nat.le_refl _) (by decide) (pm_ki (fun v609 σ' cnt' hq => ?_))
    obtain ⟨⟨I610, A610, rfl⟩, rfl, fv609⟩ := hq
    exact pm_iret hG hF dX12_person_86 rfl (Nat.le_refl _) (Nat.le_refl _) ⟨_, rfl, ⟨_, _, _, rfl, hn, hr, ekc0.trans ekc0.symm, ekc6.trans ekc6.symm⟩, rfl⟩
