set_option maxRecDepth 100000 in
set_option maxHeartbeats 4000000 in
theorem m_lend {d B cnt p0 t0 : Nat} {σ : pm_S} {I : Nat → Int32} {A : Nat → Nat → Int32} {n k z : Nat → Int32} {ac wt pl im : Int32} {y : Nat → Int32} {za zb zc : Int32} (hdd : 2 ≤ d) (hn : KI n) (hr : NR n) (hz : SZ z)  : pm_met mX12_lend d 0 0 B [.ref (B + 54), .int za, .int zb, .int zc] cnt (pm_mid σ (md_L B I A n k z ac wt pl (nI p0) (nI t0) im y)) (pm_Qi (fun v σ' cnt' => (∃ (I' : Nat → Int32) (A' : Nat → Nat → Int32) (n' : Nat → Int32), σ' = pm_mid σ (md_L B I' A' n' k z ac wt pl (nI p0) (nI t0) im y) ∧ KI n' ∧ NR n') ∧ cnt = cnt')) := by
  refine pm_enter 0 (by decide) (Nat.le_of_ble_eq_true rfl) rfl (fun G hG hR hF => ?_)
  refine pm_aloadn hG dX12_lend_0 rfl ?_
  refine pm_iloadn hG dX12_lend_1 rfl ?_
  obtain ⟨k1, hk1, ek1⟩ := KI.nat hn (show kd 3 = (1, 21, false) by decide)
  refine pm_callV (As := [.int za]) (rest := []) hG hR dX12_lend_2 (lkX12_132 _ rfl) okV_X12_isPower rfl rfl (m_isPower (d := 1) (by decide) ek1 (by omega)) rfl rfl hdd (Nat.le_refl _) (Nat.le_refl _) (by decide) (pm_ki (fun v2 σ' cnt' hq => ?_))
  obtain ⟨hq, rfl, rfl⟩ := hq
  rcases hq with ⟨rfl, k4, hk4, ek4⟩ | rfl
  · refine pm_ifN_eq (tgt := 41) hG dX12_lend_5 rfl (by omega) (fun q => absurd q (by omega)) (fun _ => ?_)
    refine pm_aloadn hG dX12_lend_8 rfl ?_
    refine pm_iloadn hG dX12_lend_9 rfl ?_
    obtain ⟨k5, hk5, ek5⟩ := KI.nat hn (show kd 2 = (1, 21, true) by decide)
    refine pm_callV (As := [.int zb]) (rest := []) hG hR dX12_lend_10 (lkX12_91 _ rfl) okV_X12_isPerson rfl rfl (m_isPerson (d := 1) (by decide) ek5 (by omega)) rfl rfl hdd (Nat.le_refl _) (Nat.le_refl _) (by decide) (pm_ki (fun v6 σ' cnt' hq => ?_))
    obtain ⟨hq, rfl, rfl⟩ := hq
    rcases hq with ⟨rfl, k8, hk8, ek8⟩ | rfl
    · refine pm_ifN_eq (tgt := 41) hG dX12_lend_13 rfl (by omega) (fun q => absurd q (by omega)) (fun _ => ?_)
      refine pm_aloadn hG dX12_lend_16 rfl ?_
      refine pm_iloadn hG dX12_lend_17 rfl ?_
      refine pm_top (v := nI k8) ek8 ?_
      rcases KI.opt hn (show kd (14 * k8 + 119) = (2, 2001, false) from (kd_P (k := k8) (c := 9) (by omega) (by omega) (by decide))) with ek9 | ⟨k9, hk9, ek9⟩
      · refine pm_callV (As := [.int (nI k8)]) (rest := []) hG hR dX12_lend_18 (lkX12_101 _ rfl) okV_X12_lives rfl rfl (m_lives1 (d := 1) (by decide) (by omega) (by omega : 14 * k8 + 119 = 14 * k8 + 119) ek9) rfl rfl hdd (Nat.le_refl _) (Nat.le_refl _) (by decide) (pm_ki (fun v10 σ' cnt' hq => ?_))
        obtain ⟨rfl, rfl, rfl⟩ := hq
        refine pm_ifN_eq (tgt := 41) hG dX12_lend_21 rfl (by omega) (fun q => absurd q (by omega)) (fun _ => ?_)
        refine pm_iloadn hG dX12_lend_24 rfl ?_
        refine pm_aloadn hG dX12_lend_25 rfl ?_
        refine pm_getf hG dX12_lend_26 (flX12_7 _ rfl) rfl rfl ?_
        refine pm_bipush (v := nI 8) hG dX12_lend_29 (by decide) ?_
        refine pm_ialdN hG dX12_lend_31 rfl (by decide) (by omega) ?_
        obtain ⟨k11, hk11, ek11⟩ := KI.nat hn (show kd 8 = (1, 2001, false) by decide)
        refine pm_top (v := nI k11) ek11 ?_
        refine pm_sipush (v := nI 2000) hG dX12_lend_32 (by decide) ?_
        refine pm_callS (As := [.int zc, .int (nI k11), .int (nI 2000)]) (rest := []) hG hR dX12_lend_35 (lkX12_68 _ rfl) okS_X12_in (m_in (d := 1)) rfl rfl hdd (Nat.le_refl _) (Nat.le_refl _) (by decide) (pm_ki (fun v12 σ' cnt' hq => ?_))
        obtain ⟨hq, rfl, rfl⟩ := hq
        rcases hq with ⟨rfl, ac13, bc13⟩ | ⟨rfl, c13⟩
        · obtain ⟨k14, hk14, ek14⟩ := in_nat (by omega) (by omega) ac13 bc13
          refine pm_ifN_ne (tgt := 47) hG dX12_lend_38 rfl (by omega) (fun _ => ?_) (fun q => absurd q (by omega))
          refine pm_aloadn hG dX12_lend_47 rfl ?_
          refine pm_iloadn hG dX12_lend_48 rfl ?_
          refine pm_top (v := nI k4) ek4 ?_
          refine pm_iconst (v := nI 0) hG dX12_lend_49 (by decide) ?_
          refine pm_callV (As := [.int (nI k4), .int (nI 0)]) (rest := []) hG hR dX12_lend_50 (lkX12_110 _ rfl) okV_X12_its rfl rfl (m_its (d := 1) (e := 6 * k4 + 390) (by omega) (by omega) (by omega)) rfl rfl hdd (Nat.le_refl _) (Nat.le_refl _) (by decide) (pm_ki (fun v15 σ' cnt' hq => ?_))
          obtain ⟨rfl, rfl, rfl⟩ := hq
          refine pm_gen (fun x16 ex16 => ?_)
          refine pm_iconst (v := nI 2) hG dX12_lend_53 (by decide) ?_
          refine pm_icmp_eq (tgt := 63) hG dX12_lend_54 rfl (fun c17 => ?_) (fun c17 => ?_)
          · refine pm_aloadn hG dX12_lend_63 rfl ?_
            refine pm_iloadn hG dX12_lend_64 rfl ?_
            refine pm_top (v := nI k4) ek4 ?_
            refine pm_iconst (v := nI 1) hG dX12_lend_65 (by decide) ?_
            refine pm_callV (As := [.int (nI k4), .int (nI 1)]) (rest := []) hG hR dX12_lend_66 (lkX12_110 _ rfl) okV_X12_its rfl rfl (m_its (d := 1) (e := 6 * k4 + 391) (by omega) (by omega) (by omega)) rfl rfl hdd (Nat.le_refl _) (Nat.le_refl _) (by decide) (pm_ki (fun v18 σ' cnt' hq => ?_))
            obtain ⟨rfl, rfl, rfl⟩ := hq
            rcases KI.opt hn (show kd (6 * k4 + 391) = (2, 20, false) from (kd_W (k := k4) (c := 1) (by omega) (by omega) (by decide))) with ek19 | ⟨k19, hk19, ek19⟩
            · refine pm_top (v := (-1)) ek19 ?_
              refine pm_if_lt (tgt := 91) hG dX12_lend_69 rfl (fun _ => ?_) (fun q => absurd q (by decide))
              refine pm_aloadn hG dX12_lend_91 rfl ?_
              refine pm_iconst (v := nI 3) hG dX12_lend_92 (by decide) ?_
              refine pm_callV (As := [.int (nI 3)]) (rest := []) hG hR dX12_lend_93 (lkX12_80 _ rfl) okV_X12_finds rfl rfl (m_finds (d := 1) (by decide) hn hz (by omega)) rfl rfl hdd (Nat.le_refl _) (Nat.le_refl _) (by decide) (pm_ki (fun v20 σ' cnt' hq => ?_))
              obtain ⟨⟨I21, A21, rfl⟩, rfl, fv20⟩ := hq
              exact pm_iret hG hF dX12_lend_96 rfl (Nat.le_refl _) (Nat.le_refl _) ⟨_, rfl, ⟨_, _, _, rfl, hn, hr⟩, rfl⟩
            · refine pm_top (v := nI k19) ek19 ?_
              refine pm_ifN_lt hG dX12_lend_69 rfl (by omega) ?_
              refine pm_aloadn hG dX12_lend_72 rfl ?_
              refine pm_iloadn hG dX12_lend_73 rfl ?_
              refine pm_top (v := nI k4) ek4 ?_
              refine pm_iconst (v := nI 2) hG dX12_lend_74 (by decide) ?_
              refine pm_callV (As := [.int (nI k4), .int (nI 2)]) (rest := []) hG hR dX12_lend_75 (lkX12_110 _ rfl) okV_X12_its rfl rfl (m_its (d := 1) (e := 6 * k4 + 392) (by omega) (by omega) (by omega)) rfl rfl hdd (Nat.le_refl _) (Nat.le_refl _) (by decide) (pm_ki (fun v22 σ' cnt' hq => ?_))
              obtain ⟨rfl, rfl, rfl⟩ := hq
              rcases KI.opt hn (show kd (6 * k4 + 392) = (2, 20, false) from (kd_W (k := k4) (c := 2) (by omega) (by omega) (by decide))) with ek23 | ⟨k23, hk23, ek23⟩
              · refine pm_top (v := (-1)) ek23 ?_
                refine pm_if_ge (tgt := 91) hG dX12_lend_78 rfl (fun q => absurd q (by decide)) (fun _ => ?_)
                refine pm_aloadn hG dX12_lend_81 rfl ?_
                refine pm_iloadn hG dX12_lend_82 rfl ?_
                refine pm_top (v := nI k4) ek4 ?_
                refine pm_iconst (v := nI 1) hG dX12_lend_83 (by decide) ?_
                refine pm_callV (As := [.int (nI k4), .int (nI 1)]) (rest := []) hG hR dX12_lend_84 (lkX12_110 _ rfl) okV_X12_its rfl rfl (m_its (d := 1) (e := 6 * k4 + 391) (by omega) (by omega) (by omega)) rfl rfl hdd (Nat.le_refl _) (Nat.le_refl _) (by decide) (pm_ki (fun v24 σ' cnt' hq => ?_))
                obtain ⟨rfl, rfl, rfl⟩ := hq
                refine pm_top (v := nI k19) ek19 ?_
                refine pm_iloadn hG dX12_lend_87 rfl ?_
                refine pm_top (v := nI k8) ek8 ?_
                refine pm_icmpN_ne (tgt := 97) hG dX12_lend_88 rfl (by omega) (by omega) (fun c25 => ?_) (fun c25 => ?_)
                · refine pm_aloadn hG dX12_lend_97 rfl ?_
                  refine pm_iloadn hG dX12_lend_98 rfl ?_
                  refine pm_top (v := nI k4) ek4 ?_
                  refine pm_iconst (v := nI 2) hG dX12_lend_99 (by decide) ?_
                  refine pm_iloadn hG dX12_lend_100 rfl ?_
                  refine pm_top (v := nI k8) ek8 ?_
                  refine pm_callV (As := [.int (nI k4), .int (nI 2), .int (nI k8)]) (rest := []) hG hR dX12_lend_101 (lkX12_113 _ rfl) okV_X12_makes rfl rfl (m_makes (d := 1) (e := 6 * k4 + 392) (by omega) (by omega) (by omega)) rfl rfl hdd (Nat.le_refl _) (Nat.le_refl _) (by decide) (pm_kv (fun σ' cnt' hq => ?_))
                  obtain ⟨rfl, rfl⟩ := hq
                  obtain ⟨n_26, en_26⟩ : ∃ f : Nat → Int32, f = upd n (6 * k4 + 392) (nI k8) := ⟨_, rfl⟩
                  rw [← en_26]
                  have hnn_26 := KI.w en_26 hn (okv_o (show kd (6 * k4 + 392) = (2, 20, false) from (kd_W (k := k4) (c := 2) (by omega) (by omega) (by decide))) (by omega))
                  have hrn_26 := NRx.w en_26 hr (by rw [(show kd (6 * k4 + 392) = (2, 20, false) from (kd_W (k := k4) (c := 2) (by omega) (by omega) (by decide)))])
                  have e27 : n_26 3 = nI k1 := by rw [en_26, pk_un (by omega)]; exact ek1
                  have e28 : n_26 2 = nI k5 := by rw [en_26, pk_un (by omega)]; exact ek5
                  have e29 : n_26 (14 * k8 + 119) = (-1) := by rw [en_26, pk_un (by omega)]; exact ek9
                  have e30 : n_26 8 = nI k11 := by rw [en_26, pk_un (by omega)]; exact ek11
                  have e31 : n_26 (6 * k4 + 390) = x16 := by rw [en_26, pk_un (by omega)]; exact ex16
                  have e32 : n_26 (6 * k4 + 391) = nI k19 := by rw [en_26, pk_un (by omega)]; exact ek19
                  have e33 : n_26 (6 * k4 + 392) = nI k8 := by rw [en_26, pk_us]
                  refine pm_aloadn hG dX12_lend_104 rfl ?_
                  refine pm_iloadn hG dX12_lend_105 rfl ?_
                  refine pm_top (v := nI k4) ek4 ?_
                  refine pm_iconst (v := nI 3) hG dX12_lend_106 (by decide) ?_
                  refine pm_iloadn hG dX12_lend_107 rfl ?_
                  refine pm_top (v := nI k14) ek14 ?_
                  refine pm_callV (As := [.int (nI k4), .int (nI 3), .int (nI k14)]) (rest := []) hG hR dX12_lend_108 (lkX12_113 _ rfl) okV_X12_makes rfl rfl (m_makes (d := 1) (e := 6 * k4 + 393) (by omega) (by omega) (by omega)) rfl rfl hdd (Nat.le_refl _) (Nat.le_refl _) (by decide) (pm_kv (fun σ' cnt' hq => ?_))
                  obtain ⟨rfl, rfl⟩ := hq
                  obtain ⟨n_34, en_34⟩ : ∃ f : Nat → Int32, f = upd n_26 (6 * k4 + 393) (nI k14) := ⟨_, rfl⟩
                  rw [← en_34]
                  have hnn_34 := KI.w en_34 hnn_26 (okv_f (show kd (6 * k4 + 393) = (0, 0, false) from (kd_W (k := k4) (c := 3) (by omega) (by omega) (by decide))))
                  have hrn_34 := NRx.w en_34 hrn_26 (by rw [(show kd (6 * k4 + 393) = (0, 0, false) from (kd_W (k := k4) (c := 3) (by omega) (by omega) (by decide)))])
                  have e35 : n_34 3 = nI k1 := by rw [en_34, pk_un (by omega)]; exact e27
                  have e36 : n_34 2 = nI k5 := by rw [en_34, pk_un (by omega)]; exact e28
                  have e37 : n_34 (14 * k8 + 119) = (-1) := by rw [en_34, pk_un (by omega)]; exact e29
                  have e38 : n_34 8 = nI k11 := by rw [en_34, pk_un (by omega)]; exact e30
                  have e39 : n_34 (6 * k4 + 390) = x16 := by rw [en_34, pk_un (by omega)]; exact e31
                  have e40 : n_34 (6 * k4 + 391) = nI k19 := by rw [en_34, pk_un (by omega)]; exact e32
                  have e41 : n_34 (6 * k4 + 392) = nI k8 := by rw [en_34, pk_un (by omega)]; exact e33
                  have e42 : n_34 (6 * k4 + 393) = nI k14 := by rw [en_34, pk_us]
                  refine pm_iconst (v := nI 1) hG dX12_lend_111 (by decide) ?_
                  exact pm_iret hG hF dX12_lend_112 rfl (Nat.le_refl _) (Nat.le_refl _) ⟨_, rfl, ⟨_, _, _, rfl, hnn_34, hrn_34⟩, rfl⟩
                · refine pm_aloadn hG dX12_lend_91 rfl ?_
                  refine pm_iconst (v := nI 3) hG dX12_lend_92 (by decide) ?_
                  refine pm_callV (As := [.int (nI 3)]) (rest := []) hG hR dX12_lend_93 (lkX12_80 _ rfl) okV_X12_finds rfl rfl (m_finds (d := 1) (by decide) hn hz (by omega)) rfl rfl hdd (Nat.le_refl _) (Nat.le_refl _) (by decide) (pm_ki (fun v43 σ' cnt' hq => ?_))
                  obtain ⟨⟨I44, A44, rfl⟩, rfl, fv43⟩ := hq
                  exact pm_iret hG hF dX12_lend_96 rfl (Nat.le_refl _) (Nat.le_refl _) ⟨_, rfl, ⟨_, _, _, rfl, hn, hr⟩, rfl⟩
              · refine pm_top (v := nI k23) ek23 ?_
                refine pm_ifN_ge (tgt := 91) hG dX12_lend_78 rfl (by omega) ?_
                refine pm_aloadn hG dX12_lend_91 rfl ?_
                refine pm_iconst (v := nI 3) hG dX12_lend_92 (by decide) ?_
                refine pm_callV (As := [.int (nI 3)]) (rest := []) hG hR dX12_lend_93 (lkX12_80 _ rfl) okV_X12_finds rfl rfl (m_finds (d := 1) (by decide) hn hz (by omega)) rfl rfl hdd (Nat.le_refl _) (Nat.le_refl _) (by decide) (pm_ki (fun v45 σ' cnt' hq => ?_))
                obtain ⟨⟨I46, A46, rfl⟩, rfl, fv45⟩ := hq
                exact pm_iret hG hF dX12_lend_96 rfl (Nat.le_refl _) (Nat.le_refl _) ⟨_, rfl, ⟨_, _, _, rfl, hn, hr⟩, rfl⟩
          · refine pm_aloadn hG dX12_lend_57 rfl ?_
            refine pm_iconst (v := nI 5) hG dX12_lend_58 (by decide) ?_
            refine pm_callV (As := [.int (nI 5)]) (rest := []) hG hR dX12_lend_59 (lkX12_80 _ rfl) okV_X12_finds rfl rfl (m_finds (d := 1) (by decide) hn hz (by omega)) rfl rfl hdd (Nat.le_refl _) (Nat.le_refl _) (by decide) (pm_ki (fun v47 σ' cnt' hq => ?_))
            obtain ⟨⟨I48, A48, rfl⟩, rfl, fv47⟩ := hq
            exact pm_iret hG hF dX12_lend_62 rfl (Nat.le_refl _) (Nat.le_refl _) ⟨_, rfl, ⟨_, _, _, rfl, hn, hr⟩, rfl⟩
        · refine pm_ifN_ne (tgt := 47) hG dX12_lend_38 rfl (by omega) (fun q => absurd q (by omega)) (fun _ => ?_)
          refine pm_aloadn hG dX12_lend_41 rfl ?_
          refine pm_iconst (v := nI 1) hG dX12_lend_42 (by decide) ?_
          refine pm_callV (As := [.int (nI 1)]) (rest := []) hG hR dX12_lend_43 (lkX12_80 _ rfl) okV_X12_finds rfl rfl (m_finds (d := 1) (by decide) hn hz (by omega)) rfl rfl hdd (Nat.le_refl _) (Nat.le_refl _) (by decide) (pm_ki (fun v49 σ' cnt' hq => ?_))
          obtain ⟨⟨I50, A50, rfl⟩, rfl, fv49⟩ := hq
          exact pm_iret hG hF dX12_lend_46 rfl (Nat.le_refl _) (Nat.le_refl _) ⟨_, rfl, ⟨_, _, _, rfl, hn, hr⟩, rfl⟩
      · refine pm_callV (As := [.int (nI k8)]) (rest := []) hG hR dX12_lend_18 (lkX12_101 _ rfl) okV_X12_lives rfl rfl (m_lives0 (d := 1) (by decide) (by omega) (by omega : 14 * k8 + 119 = 14 * k8 + 119) ek9 (by omega)) rfl rfl hdd (Nat.le_refl _) (Nat.le_refl _) (by decide) (pm_ki (fun v51 σ' cnt' hq => ?_))
        obtain ⟨rfl, rfl, rfl⟩ := hq
        refine pm_ifN_eq (tgt := 41) hG dX12_lend_21 rfl (by omega) (fun _ => ?_) (fun q => absurd q (by omega))
        refine pm_aloadn hG dX12_lend_41 rfl ?_
        refine pm_iconst (v := nI 1) hG dX12_lend_42 (by decide) ?_
        refine pm_callV (As := [.int (nI 1)]) (rest := []) hG hR dX12_lend_43 (lkX12_80 _ rfl) okV_X12_finds rfl rfl (m_finds (d := 1) (by decide) hn hz (by omega)) rfl rfl hdd (Nat.le_refl _) (Nat.le_refl _) (by decide) (pm_ki (fun v52 σ' cnt' hq => ?_))
        obtain ⟨⟨I53, A53, rfl⟩, rfl, fv52⟩ := hq
        exact pm_iret hG hF dX12_lend_46 rfl (Nat.le_refl _) (Nat.le_refl _) ⟨_, rfl, ⟨_, _, _, rfl, hn, hr⟩, rfl⟩
    · refine pm_ifN_eq (tgt := 41) hG dX12_lend_13 rfl (by omega) (fun _ => ?_) (fun q => absurd q (by omega))
      refine pm_aloadn hG dX12_lend_41 rfl ?_
      refine pm_iconst (v := nI 1) hG dX12_lend_42 (by decide) ?_
      refine pm_callV (As := [.int (nI 1)]) (rest := []) hG hR dX12_lend_43 (lkX12_80 _ rfl) okV_X12_finds rfl rfl (m_finds (d := 1) (by decide) hn hz (by omega)) rfl rfl hdd (Nat.le_refl _) (Nat.le_refl _) (by decide) (pm_ki (fun v54 σ' cnt' hq => ?_))
      obtain ⟨⟨I55, A55, rfl⟩, rfl, fv54⟩ := hq
      exact pm_iret hG hF dX12_lend_46 rfl (Nat.le_refl _) (Nat.le_refl _) ⟨_, rfl, ⟨_, _, _, rfl, hn, hr⟩, rfl⟩
  · refine pm_ifN_eq (tgt := 41) hG dX12_lend_5 rfl (by omega) (fun _ => ?_) (fun q => absurd q (by omega))
    refine pm_aloadn hG dX12_lend_41 rfl ?_
    refine pm_iconst (v := nI 1) hG dX12_lend_42 (by decide) ?_
    refine pm_callV (As := [.int (nI 1)]) (rest := []) hG hR dX12_lend_43 (lkX12_80 _ rfl) okV_X12_finds rfl rfl (m_finds (d := 1) (by decide) hn hz (by omega)) rfl rfl hdd (Nat.le_refl _) (Nat.le_refl _) (by decide) (pm_ki (fun v56 σ' cnt' hq => ?_))
    obtain ⟨⟨I57, A57, rfl⟩, rfl, fv56⟩ := hq
    exact pm_iret hG hF dX12_lend_46 rfl (Nat.le_refl _) (Nat.le_refl _) ⟨_, rfl, ⟨_, _, _, rfl, hn, hr⟩, rfl⟩
