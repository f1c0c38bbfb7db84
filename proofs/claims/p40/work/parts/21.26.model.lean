set_option maxRecDepth 100000 in
set_option maxHeartbeats 4000000 in
theorem m_seat {d B cnt p0 t0 : Nat} {σ : pm_S} {I : Nat → Int32} {A : Nat → Nat → Int32} {n k z : Nat → Int32} {ac wt pl im : Int32} {za zb : Int32} (hdd : 2 ≤ d) (hn : KI n) (hr : NR n) (hz : SZ z)  : pm_met mX12_seat d 0 0 B [.ref (B + 54), .int za, .int zb] cnt (pm_mid σ (md_L B I A n k z ac wt pl (nI p0) (nI t0) im)) (pm_Qi (fun v σ' cnt' => (∃ (I' : Nat → Int32) (A' : Nat → Nat → Int32) (n' : Nat → Int32), σ' = pm_mid σ (md_L B I' A' n' k z ac wt pl (nI p0) (nI t0) im) ∧ KI n' ∧ NR n' ∧ KS n' n) ∧ cnt = cnt')) := by
  refine pm_enter 0 (by decide) (Nat.le_of_ble_eq_true rfl) rfl (fun G hG hR hF => ?_)
  refine pm_aloadn hG dX12_seat_0 rfl ?_
  refine pm_iloadn hG dX12_seat_1 rfl ?_
  obtain ⟨k1, hk1, ek1⟩ := KI.nat hn (show kd 2 = (1, 21, true) by decide)
  refine pm_callV (As := [.int za]) (rest := []) hG hR dX12_seat_2 (lkX12_91 _ rfl) okV_X12_isPerson rfl rfl (m_isPerson (d := 1) (by decide) ek1 (by omega)) rfl rfl hdd (Nat.le_refl _) (Nat.le_refl _) (by decide) (pm_ki (fun v2 σ' cnt' hq => ?_))
  obtain ⟨hq, rfl, rfl⟩ := hq
  rcases hq with ⟨rfl, k4, hk4, ek4⟩ | rfl
  · refine pm_ifN_ne (tgt := 14) hG dX12_seat_5 rfl (by omega) (fun _ => ?_) (fun q => absurd q (by omega))
    refine pm_aloadn hG dX12_seat_14 rfl ?_
    refine pm_iloadn hG dX12_seat_15 rfl ?_
    refine pm_top (v := nI k4) ek4 ?_
    rcases KI.opt hn (show kd (14 * k4 + 119) = (2, 2001, false) from (kd_P (k := k4) (c := 9) (by omega) (by omega) (by decide))) with ek5 | ⟨k5, hk5, ek5⟩
    · refine pm_callV (As := [.int (nI k4)]) (rest := []) hG hR dX12_seat_16 (lkX12_101 _ rfl) okV_X12_lives rfl rfl (m_lives1 (d := 1) (by decide) (by omega) (by omega : 14 * k4 + 119 = 14 * k4 + 119) ek5) rfl rfl hdd (Nat.le_refl _) (Nat.le_refl _) (by decide) (pm_ki (fun v6 σ' cnt' hq => ?_))
      obtain ⟨rfl, rfl, rfl⟩ := hq
      refine pm_ifN_eq (tgt := 42) hG dX12_seat_19 rfl (by omega) (fun q => absurd q (by omega)) (fun _ => ?_)
      refine pm_aloadn hG dX12_seat_22 rfl ?_
      refine pm_iloadn hG dX12_seat_23 rfl ?_
      refine pm_top (v := nI k4) ek4 ?_
      refine pm_bipush (v := nI 11) hG dX12_seat_24 (by decide) ?_
      refine pm_callV (As := [.int (nI k4), .int (nI 11)]) (rest := []) hG hR dX12_seat_26 (lkX12_72 _ rfl) okV_X12_man rfl rfl (m_man (d := 1) (e := 14 * k4 + 121) (by omega) (by omega) (by omega)) rfl rfl hdd (Nat.le_refl _) (Nat.le_refl _) (by decide) (pm_ki (fun v7 σ' cnt' hq => ?_))
      obtain ⟨rfl, rfl, rfl⟩ := hq
      obtain ⟨k8, hk8, ek8⟩ := KI.nat hn (show kd (14 * k4 + 121) = (1, 2, true) from (kd_P (k := k4) (c := 11) (by omega) (by omega) (by decide)))
      refine pm_top (v := nI k8) ek8 ?_
      refine pm_iconst (v := nI 1) hG dX12_seat_29 (by decide) ?_
      refine pm_icmpN_ne (tgt := 37) hG dX12_seat_30 rfl (by omega) (by omega) (fun c9 => ?_) (fun c9 => ?_)
      · refine pm_iconst (v := nI 0) hG dX12_seat_37 (by decide) ?_
        refine pm_iloadn hG dX12_seat_38 rfl ?_
        refine pm_icmp_ne (tgt := 48) hG dX12_seat_39 rfl (fun c10 => ?_) (fun c10 => ?_)
        · refine pm_iloadn hG dX12_seat_48 rfl ?_
          refine pm_if_eq (tgt := 67) hG dX12_seat_49 rfl (fun c11 => ?_) (fun c11 => ?_)
          · refine pm_iloadn hG dX12_seat_67 rfl ?_
            refine pm_top (v := nI 0) c11 ?_
            refine pm_ifN_eq (tgt := 82) hG dX12_seat_68 rfl (by omega) (fun _ => ?_) (fun q => absurd q (by omega))
            refine pm_aloadn hG dX12_seat_82 rfl ?_
            refine pm_iloadn hG dX12_seat_83 rfl ?_
            refine pm_top (v := nI k4) ek4 ?_
            refine pm_callV (As := [.int (nI k4)]) (rest := []) hG hR dX12_seat_84 (lkX12_107 _ rfl) okV_X12_leaves rfl rfl (m_leaves (d := 1) (by decide) hn hr hz (by omega)) rfl rfl hdd (Nat.le_refl _) (Nat.le_refl _) (by decide) (pm_kv (fun σ' cnt' hq => ?_))
            obtain ⟨⟨n_13, rfl, hn13, hr13, hks13⟩, rfl⟩ := hq
            refine pm_aloadn hG dX12_seat_87 rfl ?_
            obtain ⟨k14, hk14, ek14⟩ := KI.nat hn13 (show kd 2 = (1, 21, true) by decide)
            refine pm_callV (As := []) (rest := []) hG hR dX12_seat_88 (lkX12_243 _ rfl) okV_X12_seatedMany rfl rfl (m_seatedMany (d := 1) (by decide) hn13 ek14 (by omega)) rfl rfl hdd (Nat.le_refl _) (Nat.le_refl _) (by decide) (pm_ki (fun v15 σ' cnt' hq => ?_))
            obtain ⟨rfl, rfl, rfl⟩ := hq
            have h16 : stN n_13 k14 ≤ 9 := Nat.le_trans (stN_mono (by omega)) hr13.2.2.1.1
            exact pm_iret hG hF dX12_seat_91 rfl (Nat.le_refl _) (Nat.le_refl _) ⟨_, rfl, ⟨_, _, _, rfl, hn13, hr13, (hks13.tr KS.rf)⟩, rfl⟩
          · refine pm_aloadn hG dX12_seat_52 rfl ?_
            refine pm_callV (As := []) (rest := []) hG hR dX12_seat_53 (lkX12_243 _ rfl) okV_X12_seatedMany rfl rfl (m_seatedMany (d := 1) (by decide) hn ek1 (by omega)) rfl rfl hdd (Nat.le_refl _) (Nat.le_refl _) (by decide) (pm_ki (fun v17 σ' cnt' hq => ?_))
            obtain ⟨rfl, rfl, rfl⟩ := hq
            have h18 : stN n k1 ≤ 9 := Nat.le_trans (stN_mono (by omega)) hr.2.2.1.1
            refine pm_bipush (v := nI 9) hG dX12_seat_56 (by decide) ?_
            refine pm_icmpN_ne (tgt := 67) hG dX12_seat_58 rfl (by omega) (by omega) (fun c19 => ?_) (fun c19 => ?_)
            · refine pm_iloadn hG dX12_seat_67 rfl ?_
              refine pm_if_eq (tgt := 82) hG dX12_seat_68 rfl (fun q => absurd q c11) (fun _ => ?_)
              refine pm_aloadn hG dX12_seat_71 rfl ?_
              refine pm_iloadn hG dX12_seat_72 rfl ?_
              refine pm_top (v := nI k4) ek4 ?_
              refine pm_bipush (v := nI 11) hG dX12_seat_73 (by decide) ?_
              refine pm_iconst (v := nI 1) hG dX12_seat_75 (by decide) ?_
              refine pm_callV (As := [.int (nI k4), .int (nI 11), .int (nI 1)]) (rest := []) hG hR dX12_seat_76 (lkX12_97 _ rfl) okV_X12_sets rfl rfl (m_sets (d := 1) (e := 14 * k4 + 121) (by omega) (by omega) (by omega)) rfl rfl hdd (Nat.le_refl _) (Nat.le_refl _) (by decide) (pm_kv (fun σ' cnt' hq => ?_))
              obtain ⟨rfl, rfl⟩ := hq
              obtain ⟨n_20, en_20⟩ : ∃ f : Nat → Int32, f = upd n (14 * k4 + 121) (nI 1) := ⟨_, rfl⟩
              rw [← en_20]
              have hnn_20 := KI.w en_20 hn (okv_n (show kd (14 * k4 + 121) = (1, 2, true) from (kd_P (k := k4) (c := 11) (by omega) (by omega) (by decide))) (by omega))
              have hrn_20 := NRx.seat (p := k4) (c := k1) en_20 hr ek1 (by omega) (by omega)
              have ksn_20 := KS.w en_20 KS.rf (by unfold tS; omega)
              have e21 : n_20 2 = nI k1 := by rw [en_20, pk_un (by omega)]; exact ek1
              have e22 : n_20 (14 * k4 + 119) = (-1) := by rw [en_20, pk_un (by omega)]; exact ek5
              have e23 : n_20 (14 * k4 + 121) = nI 1 := by rw [en_20, pk_us]
              refine pm_goto (tgt := 87) hG dX12_seat_79 rfl ?_
              refine pm_aloadn hG dX12_seat_87 rfl ?_
              refine pm_callV (As := []) (rest := []) hG hR dX12_seat_88 (lkX12_243 _ rfl) okV_X12_seatedMany rfl rfl (m_seatedMany (d := 1) (by decide) hnn_20 e21 (by omega)) rfl rfl hdd (Nat.le_refl _) (Nat.le_refl _) (by decide) (pm_ki (fun v24 σ' cnt' hq => ?_))
              obtain ⟨rfl, rfl, rfl⟩ := hq
              have h25 : stN n_20 k1 ≤ 9 := Nat.le_trans (stN_mono (by omega)) hrn_20.2.2.1.1
              exact pm_iret hG hF dX12_seat_91 rfl (Nat.le_refl _) (Nat.le_refl _) ⟨_, rfl, ⟨_, _, _, rfl, hnn_20, hrn_20, ksn_20⟩, rfl⟩
            · refine pm_aloadn hG dX12_seat_61 rfl ?_
              refine pm_iconst (v := nI 4) hG dX12_seat_62 (by decide) ?_
              refine pm_callV (As := [.int (nI 4)]) (rest := []) hG hR dX12_seat_63 (lkX12_80 _ rfl) okV_X12_finds rfl rfl (m_finds (d := 1) (by decide) hn hz (by omega)) rfl rfl hdd (Nat.le_refl _) (Nat.le_refl _) (by decide) (pm_ki (fun v26 σ' cnt' hq => ?_))
              obtain ⟨⟨I27, A27, rfl⟩, rfl, fv26⟩ := hq
              exact pm_iret hG hF dX12_seat_66 rfl (Nat.le_refl _) (Nat.le_refl _) ⟨_, rfl, ⟨_, _, _, rfl, hn, hr, KS.rf⟩, rfl⟩
        · refine pm_aloadn hG dX12_seat_42 rfl ?_
          refine pm_iconst (v := nI 3) hG dX12_seat_43 (by decide) ?_
          refine pm_callV (As := [.int (nI 3)]) (rest := []) hG hR dX12_seat_44 (lkX12_80 _ rfl) okV_X12_finds rfl rfl (m_finds (d := 1) (by decide) hn hz (by omega)) rfl rfl hdd (Nat.le_refl _) (Nat.le_refl _) (by decide) (pm_ki (fun v28 σ' cnt' hq => ?_))
          obtain ⟨⟨I29, A29, rfl⟩, rfl, fv28⟩ := hq
          exact pm_iret hG hF dX12_seat_47 rfl (Nat.le_refl _) (Nat.le_refl _) ⟨_, rfl, ⟨_, _, _, rfl, hn, hr, KS.rf⟩, rfl⟩
      · refine pm_iconst (v := nI 1) hG dX12_seat_33 (by decide) ?_
        refine pm_goto (tgt := 38) hG dX12_seat_34 rfl ?_
        refine pm_iloadn hG dX12_seat_38 rfl ?_
        refine pm_icmp_ne (tgt := 48) hG dX12_seat_39 rfl (fun c30 => ?_) (fun c30 => ?_)
        · refine pm_iloadn hG dX12_seat_48 rfl ?_
          refine pm_if_eq (tgt := 67) hG dX12_seat_49 rfl (fun c31 => ?_) (fun c31 => ?_)
          · refine pm_iloadn hG dX12_seat_67 rfl ?_
            refine pm_top (v := nI 0) c31 ?_
            refine pm_ifN_eq (tgt := 82) hG dX12_seat_68 rfl (by omega) (fun _ => ?_) (fun q => absurd q (by omega))
            refine pm_aloadn hG dX12_seat_82 rfl ?_
            refine pm_iloadn hG dX12_seat_83 rfl ?_
            refine pm_top (v := nI k4) ek4 ?_
            refine pm_callV (As := [.int (nI k4)]) (rest := []) hG hR dX12_seat_84 (lkX12_107 _ rfl) okV_X12_leaves rfl rfl (m_leaves (d := 1) (by decide) hn hr hz (by omega)) rfl rfl hdd (Nat.le_refl _) (Nat.le_refl _) (by decide) (pm_kv (fun σ' cnt' hq => ?_))
            obtain ⟨⟨n_33, rfl, hn33, hr33, hks33⟩, rfl⟩ := hq
            refine pm_aloadn hG dX12_seat_87 rfl ?_
            obtain ⟨k34, hk34, ek34⟩ := KI.nat hn33 (show kd 2 = (1, 21, true) by decide)
            refine pm_callV (As := []) (rest := []) hG hR dX12_seat_88 (lkX12_243 _ rfl) okV_X12_seatedMany rfl rfl (m_seatedMany (d := 1) (by decide) hn33 ek34 (by omega)) rfl rfl hdd (Nat.le_refl _) (Nat.le_refl _) (by decide) (pm_ki (fun v35 σ' cnt' hq => ?_))
            obtain ⟨rfl, rfl, rfl⟩ := hq
            have h36 : stN n_33 k34 ≤ 9 := Nat.le_trans (stN_mono (by omega)) hr33.2.2.1.1
            exact pm_iret hG hF dX12_seat_91 rfl (Nat.le_refl _) (Nat.le_refl _) ⟨_, rfl, ⟨_, _, _, rfl, hn33, hr33, (hks33.tr KS.rf)⟩, rfl⟩
          · refine pm_aloadn hG dX12_seat_52 rfl ?_
            refine pm_callV (As := []) (rest := []) hG hR dX12_seat_53 (lkX12_243 _ rfl) okV_X12_seatedMany rfl rfl (m_seatedMany (d := 1) (by decide) hn ek1 (by omega)) rfl rfl hdd (Nat.le_refl _) (Nat.le_refl _) (by decide) (pm_ki (fun v37 σ' cnt' hq => ?_))
            obtain ⟨rfl, rfl, rfl⟩ := hq
            have h38 : stN n k1 ≤ 9 := Nat.le_trans (stN_mono (by omega)) hr.2.2.1.1
            refine pm_bipush (v := nI 9) hG dX12_seat_56 (by decide) ?_
            refine pm_icmpN_ne (tgt := 67) hG dX12_seat_58 rfl (by omega) (by omega) (fun c39 => ?_) (fun c39 => ?_)
            · refine pm_iloadn hG dX12_seat_67 rfl ?_
              refine pm_if_eq (tgt := 82) hG dX12_seat_68 rfl (fun q => absurd q c31) (fun _ => ?_)
              refine pm_aloadn hG dX12_seat_71 rfl ?_
              refine pm_iloadn hG dX12_seat_72 rfl ?_
              refine pm_top (v := nI k4) ek4 ?_
              refine pm_bipush (v := nI 11) hG dX12_seat_73 (by decide) ?_
              refine pm_iconst (v := nI 1) hG dX12_seat_75 (by decide) ?_
              refine pm_callV (As := [.int (nI k4), .int (nI 11), .int (nI 1)]) (rest := []) hG hR dX12_seat_76 (lkX12_97 _ rfl) okV_X12_sets rfl rfl (m_sets (d := 1) (e := 14 * k4 + 121) (by omega) (by omega) (by omega)) rfl rfl hdd (Nat.le_refl _) (Nat.le_refl _) (by decide) (pm_kv (fun σ' cnt' hq => ?_))
              obtain ⟨rfl, rfl⟩ := hq
              obtain ⟨n_40, en_40⟩ : ∃ f : Nat → Int32, f = upd n (14 * k4 + 121) (nI 1) := ⟨_, rfl⟩
              rw [← en_40]
              have hnn_40 := KI.w en_40 hn (okv_n (show kd (14 * k4 + 121) = (1, 2, true) from (kd_P (k := k4) (c := 11) (by omega) (by omega) (by decide))) (by omega))
              have hrn_40 := NRx.seat (p := k4) (c := k1) en_40 hr ek1 (by omega) (by omega)
              have ksn_40 := KS.w en_40 KS.rf (by unfold tS; omega)
              have e41 : n_40 2 = nI k1 := by rw [en_40, pk_un (by omega)]; exact ek1
              have e42 : n_40 (14 * k4 + 119) = (-1) := by rw [en_40, pk_un (by omega)]; exact ek5
              have e43 : n_40 (14 * k4 + 121) = nI 1 := by rw [en_40, pk_us]
              refine pm_goto (tgt := 87) hG dX12_seat_79 rfl ?_
              refine pm_aloadn hG dX12_seat_87 rfl ?_
              refine pm_callV (As := []) (rest := []) hG hR dX12_seat_88 (lkX12_243 _ rfl) okV_X12_seatedMany rfl rfl (m_seatedMany (d := 1) (by decide) hnn_40 e41 (by omega)) rfl rfl hdd (Nat.le_refl _) (Nat.le_refl _) (by decide) (pm_ki (fun v44 σ' cnt' hq => ?_))
              obtain ⟨rfl, rfl, rfl⟩ := hq
              have h45 : stN n_40 k1 ≤ 9 := Nat.le_trans (stN_mono (by omega)) hrn_40.2.2.1.1
              exact pm_iret hG hF dX12_seat_91 rfl (Nat.le_refl _) (Nat.le_refl _) ⟨_, rfl, ⟨_, _, _, rfl, hnn_40, hrn_40, ksn_40⟩, rfl⟩
            · refine pm_aloadn hG dX12_seat_61 rfl ?_
              refine pm_iconst (v := nI 4) hG dX12_seat_62 (by decide) ?_
              refine pm_callV (As := [.int (nI 4)]) (rest := []) hG hR dX12_seat_63 (lkX12_80 _ rfl) okV_X12_finds rfl rfl (m_finds (d := 1) (by decide) hn hz (by omega)) rfl rfl hdd (Nat.le_refl _) (Nat.le_refl _) (by decide) (pm_ki (fun v46 σ' cnt' hq => ?_))
              obtain ⟨⟨I47, A47, rfl⟩, rfl, fv46⟩ := hq
              exact pm_iret hG hF dX12_seat_66 rfl (Nat.le_refl _) (Nat.le_refl _) ⟨_, rfl, ⟨_, _, _, rfl, hn, hr, KS.rf⟩, rfl⟩
        · refine pm_aloadn hG dX12_seat_42 rfl ?_
          refine pm_iconst (v := nI 3) hG dX12_seat_43 (by decide) ?_
          refine pm_callV (As := [.int (nI 3)]) (rest := []) hG hR dX12_seat_44 (lkX12_80 _ rfl) okV_X12_finds rfl rfl (m_finds (d := 1) (by decide) hn hz (by omega)) rfl rfl hdd (Nat.le_refl _) (Nat.le_refl _) (by decide) (pm_ki (fun v48 σ' cnt' hq => ?_))
          obtain ⟨⟨I49, A49, rfl⟩, rfl, fv48⟩ := hq
          exact pm_iret hG hF dX12_seat_47 rfl (Nat.le_refl _) (Nat.le_refl _) ⟨_, rfl, ⟨_, _, _, rfl, hn, hr, KS.rf⟩, rfl⟩
    · refine pm_callV (As := [.int (nI k4)]) (rest := []) hG hR dX12_seat_16 (lkX12_101 _ rfl) okV_X12_lives rfl rfl (m_lives0 (d := 1) (by decide) (by omega) (by omega : 14 * k4 + 119 = 14 * k4 + 119) ek5 (by omega)) rfl rfl hdd (Nat.le_refl _) (Nat.le_refl _) (by decide) (pm_ki (fun v50 σ' cnt' hq => ?_))
      obtain ⟨rfl, rfl, rfl⟩ := hq
      refine pm_ifN_eq (tgt := 42) hG dX12_seat_19 rfl (by omega) (fun _ => ?_) (fun q => absurd q (by omega))
      refine pm_aloadn hG dX12_seat_42 rfl ?_
      refine pm_iconst (v := nI 3) hG dX12_seat_43 (by decide) ?_
      refine pm_callV (As := [.int (nI 3)]) (rest := []) hG hR dX12_seat_44 (lkX12_80 _ rfl) okV_X12_finds rfl rfl (m_finds (d := 1) (by decide) hn hz (by omega)) rfl rfl hdd (Nat.le_refl _) (Nat.le_refl _) (by decide) (pm_ki (fun v51 σ' cnt' hq => ?_))
      obtain ⟨⟨I52, A52, rfl⟩, rfl, fv51⟩ := hq
      exact pm_iret hG hF dX12_seat_47 rfl (Nat.le_refl _) (Nat.le_refl _) ⟨_, rfl, ⟨_, _, _, rfl, hn, hr, KS.rf⟩, rfl⟩
  · refine pm_ifN_ne (tgt := 14) hG dX12_seat_5 rfl (by omega) (fun q => absurd q (by omega)) (fun _ => ?_)
    refine pm_aloadn hG dX12_seat_8 rfl ?_
    refine pm_iconst (v := nI 1) hG dX12_seat_9 (by decide) ?_
    refine pm_callV (As := [.int (nI 1)]) (rest := []) hG hR dX12_seat_10 (lkX12_80 _ rfl) okV_X12_finds rfl rfl (m_finds (d := 1) (by decide) hn hz (by omega)) rfl rfl hdd (Nat.le_refl _) (Nat.le_refl _) (by decide) (pm_ki (fun v53 σ' cnt' hq => ?_))
    obtain ⟨⟨I54, A54, rfl⟩, rfl, fv53⟩ := hq
    exact pm_iret hG hF dX12_seat_13 rfl (Nat.le_refl _) (Nat.le_refl _) ⟨_, rfl, ⟨_, _, _, rfl, hn, hr, KS.rf⟩, rfl⟩

set_option maxRecDepth 100000 in
set_option maxHeartbeats 4000000 in
theorem m_send {d B cnt p0 t0 : Nat} {σ : pm_S} {I : Nat → Int32} {A : Nat → Nat → Int32} {n k z : Nat → Int32} {ac wt pl im : Int32} {za zb : Int32} (hdd : 3 ≤ d) (hn : KI n) (hr : NR n) (hz : SZ z)  : pm_met mX12_send d 0 0 B [.ref (B + 54), .int za, .int zb] cnt (pm_mid σ (md_L B I A n k z ac wt pl (nI p0) (nI t0) im)) (pm_Qi (fun v σ' cnt' => (∃ (I' : Nat → Int32) (A' : Nat → Nat → Int32) (n' : Nat → Int32), σ' = pm_mid σ (md_L B I' A' n' k z ac wt pl (nI p0) (nI t0) im) ∧ KI n' ∧ NR n' ∧ KS n' n) ∧ cnt = cnt')) := by
  refine pm_enter 1 (by decide) (Nat.le_of_ble_eq_true rfl) rfl (fun G hG hR hF => ?_)
  refine pm_aloadn hG dX12_send_0 rfl ?_
  refine pm_iloadn hG dX12_send_1 rfl ?_
  obtain ⟨k1, hk1, ek1⟩ := KI.nat hn (show kd 5 = (1, 41, true) by decide)
  refine pm_callV (As := [.int za]) (rest := []) hG hR dX12_send_2 (lkX12_211 _ rfl) okV_X12_isLetter rfl rfl (m_isLetter (d := 2) (by decide) ek1 (by omega)) rfl rfl hdd (Nat.le_refl _) (Nat.le_refl _) (by decide) (pm_ki (fun v2 σ' cnt' hq => ?_))
  obtain ⟨hq, rfl, rfl⟩ := hq
  rcases hq with ⟨rfl, k4, hk4, ek4⟩ | rfl
  · refine pm_ifN_eq (tgt := 16) hG dX12_send_5 rfl (by omega) (fun q => absurd q (by omega)) (fun _ => ?_)
    refine pm_aloadn hG dX12_send_8 rfl ?_
    refine pm_iloadn hG dX12_send_9 rfl ?_
    obtain ⟨k5, hk5, ek5⟩ := KI.nat hn (show kd 2 = (1, 21, true) by decide)
    refine pm_callV (As := [.int zb]) (rest := []) hG hR dX12_send_10 (lkX12_91 _ rfl) okV_X12_isPerson rfl rfl (m_isPerson (d := 2) (by decide) ek5 (by omega)) rfl rfl hdd (Nat.le_refl _) (Nat.le_refl _) (by decide) (pm_ki (fun v6 σ' cnt' hq => ?_))
    obtain ⟨hq, rfl, rfl⟩ := hq
    rcases hq with ⟨rfl, k8, hk8, ek8⟩ | rfl
    · refine pm_ifN_ne (tgt := 22) hG dX12_send_13 rfl (by omega) (fun _ => ?_) (fun q => absurd q (by omega))
      refine pm_aloadn hG dX12_send_22 rfl ?_
      refine pm_iloadn hG dX12_send_23 rfl ?_
      refine pm_top (v := nI k4) ek4 ?_
      refine pm_iconst (v := nI 4) hG dX12_send_24 (by decide) ?_
      refine pm_callV (As := [.int (nI k4), .int (nI 4)]) (rest := []) hG hR dX12_send_25 (lkX12_199 _ rfl) okV_X12_of rfl rfl (m_of (d := 2) (e := 12 * k4 + 1294) (by omega) (by omega) (by omega)) rfl rfl hdd (Nat.le_refl _) (Nat.le_refl _) (by decide) (pm_ki (fun v9 σ' cnt' hq => ?_))
      obtain ⟨rfl, rfl, rfl⟩ := hq
      rcases KI.opt hn (show kd (12 * k4 + 1294) = (2, 20, true) from (kd_E (k := k4) (c := 4) (by omega) (by omega) (by decide))) with ek10 | ⟨k10, hk10, ek10⟩
      · refine pm_top (v := (-1)) ek10 ?_
        refine pm_if_ge (tgt := 48) hG dX12_send_28 rfl (fun q => absurd q (by decide)) (fun _ => ?_)
        refine pm_aloadn hG dX12_send_31 rfl ?_
        refine pm_iloadn hG dX12_send_32 rfl ?_
        refine pm_top (v := nI k8) ek8 ?_
        rcases KI.opt hn (show kd (14 * k8 + 119) = (2, 2001, false) from (kd_P (k := k8) (c := 9) (by omega) (by omega) (by decide))) with ek11 | ⟨k11, hk11, ek11⟩
        · refine pm_callV (As := [.int (nI k8)]) (rest := []) hG hR dX12_send_33 (lkX12_101 _ rfl) okV_X12_lives rfl rfl (m_lives1 (d := 2) (by decide) (by omega) (by omega : 14 * k8 + 119 = 14 * k8 + 119) ek11) rfl rfl hdd (Nat.le_refl _) (Nat.le_refl _) (by decide) (pm_ki (fun v12 σ' cnt' hq => ?_))
          obtain ⟨rfl, rfl, rfl⟩ := hq
          refine pm_ifN_eq (tgt := 48) hG dX12_send_36 rfl (by omega) (fun q => absurd q (by omega)) (fun _ => ?_)
          refine pm_aloadn hG dX12_send_39 rfl ?_
          refine pm_iloadn hG dX12_send_40 rfl ?_
          refine pm_top (v := nI k8) ek8 ?_
          refine pm_iconst (v := nI 4) hG dX12_send_41 (by decide) ?_
          refine pm_callV (As := [.int (nI k8), .int (nI 4)]) (rest := []) hG hR dX12_send_42 (lkX12_72 _ rfl) okV_X12_man rfl rfl (m_man (d := 2) (e := 14 * k8 + 114) (by omega) (by omega) (by omega)) rfl rfl hdd (Nat.le_refl _) (Nat.le_refl _) (by decide) (pm_ki (fun v13 σ' cnt' hq => ?_))
          obtain ⟨rfl, rfl, rfl⟩ := hq
          rcases KI.opt hn (show kd (14 * k8 + 114) = (2, 10, false) from (kd_P (k := k8) (c := 4) (by omega) (by omega) (by decide))) with ek14 | ⟨k14, hk14, ek14⟩
          · refine pm_top (v := (-1)) ek14 ?_
            refine pm_if_ge (tgt := 54) hG dX12_send_45 rfl (fun q => absurd q (by decide)) (fun _ => ?_)
            refine pm_aloadn hG dX12_send_48 rfl ?_
            refine pm_iconst (v := nI 3) hG dX12_send_49 (by decide) ?_
            refine pm_callV (As := [.int (nI 3)]) (rest := []) hG hR dX12_send_50 (lkX12_80 _ rfl) okV_X12_finds rfl rfl (m_finds (d := 2) (by decide) hn hz (by omega)) rfl rfl hdd (Nat.le_refl _) (Nat.le_refl _) (by decide) (pm_ki (fun v15 σ' cnt' hq => ?_))
            obtain ⟨⟨I16, A16, rfl⟩, rfl, fv15⟩ := hq
            exact pm_iret hG hF dX12_send_53 rfl (Nat.le_refl _) (Nat.le_refl _) ⟨_, rfl, ⟨_, _, _, rfl, hn, hr, KS.rf⟩, rfl⟩
          · refine pm_top (v := nI k14) ek14 ?_
            refine pm_ifN_ge (tgt := 54) hG dX12_send_45 rfl (by omega) ?_
            refine pm_aloadn hG dX12_send_54 rfl ?_
            refine pm_aloadn hG dX12_send_55 rfl ?_
            refine pm_iloadn hG dX12_send_56 rfl ?_
            refine pm_top (v := nI k4) ek4 ?_
            refine pm_bipush (v := nI 10) hG dX12_send_57 (by decide) ?_
            refine pm_callV (As := [.int (nI k4), .int (nI 10)]) (rest := [.ref (B + 54)]) hG hR dX12_send_59 (lkX12_199 _ rfl) okV_X12_of rfl rfl (m_of (d := 2) (e := 12 * k4 + 1300) (by omega) (by omega) (by omega)) rfl rfl hdd (Nat.le_refl _) (Nat.le_refl _) (Nat.le_of_ble_eq_true rfl) (pm_ki (fun v17 σ' cnt' hq => ?_))
            obtain ⟨rfl, rfl, rfl⟩ := hq
            obtain ⟨k18, hk18, ek18⟩ := KI.nat hn (show kd (12 * k4 + 1300) = (1, 10, false) from (kd_E (k := k4) (c := 10) (by omega) (by omega) (by decide)))
            refine pm_top (v := nI k18) ek18 ?_
            refine pm_aloadn hG dX12_send_62 rfl ?_
            refine pm_iloadn hG dX12_send_63 rfl ?_
            refine pm_top (v := nI k8) ek8 ?_
            refine pm_iconst (v := nI 4) hG dX12_send_64 (by decide) ?_
            refine pm_callV (As := [.int (nI k8), .int (nI 4)]) (rest := [.int (nI k18), .ref (B + 54)]) hG hR dX12_send_65 (lkX12_72 _ rfl) okV_X12_man rfl rfl (m_man (d := 2) (e := 14 * k8 + 114) (by omega) (by omega) (by omega)) rfl rfl hdd (Nat.le_refl _) (Nat.le_refl _) (Nat.le_of_ble_eq_true rfl) (pm_ki (fun v19 σ' cnt' hq => ?_))
            obtain ⟨rfl, rfl, rfl⟩ := hq
            refine pm_top (v := nI k14) ek14 ?_
            refine pm_callV (As := [.int (nI k18), .int (nI k14)]) (rest := []) hG hR dX12_send_68 (lkX12_88 _ rfl) okV_X12_farOf rfl rfl (m_farOf (d := 2) (by decide) hn hz (by omega)) rfl rfl hdd (Nat.le_refl _) (Nat.le_refl _) (by decide) (pm_ki (fun v20 σ' cnt' hq => ?_))
            obtain ⟨⟨I21, A21, rfl⟩, rfl⟩ := hq
            refine pm_istoreXn (loc' := [some (.ref (B + 54)), some (.int za), some (.int zb), some (.int v20)]) hG dX12_send_71 (by decide) (pm_c1b rfl) rfl ?_
            refine pm_iloadn hG dX12_send_72 rfl ?_
            refine pm_if_ge (tgt := 82) hG dX12_send_73 rfl (fun c22 => ?_) (fun c22 => ?_)
            · obtain ⟨k23, hk23, ek23⟩ := nI_of (Int32.not_lt.mpr c22)
              refine pm_aloadn hG dX12_send_82 rfl ?_
              refine pm_iloadn hG dX12_send_83 rfl ?_
              refine pm_top (v := nI k4) ek4 ?_
              refine pm_iconst (v := nI 4) hG dX12_send_84 (by decide) ?_
              refine pm_iloadn hG dX12_send_85 rfl ?_
              refine pm_top (v := nI k8) ek8 ?_
              refine pm_callV (As := [.int (nI k4), .int (nI 4), .int (nI k8)]) (rest := []) hG hR dX12_send_86 (lkX12_217 _ rfl) okV_X12_writes rfl rfl (m_writes (d := 2) (e := 12 * k4 + 1294) (by omega) (by omega) (by omega)) rfl rfl hdd (Nat.le_refl _) (Nat.le_refl _) (by decide) (pm_kv (fun σ' cnt' hq => ?_))
              obtain ⟨rfl, rfl⟩ := hq
              obtain ⟨n_24, en_24⟩ : ∃ f : Nat → Int32, f = upd n (12 * k4 + 1294) (nI k8) := ⟨_, rfl⟩
              rw [← en_24]
              have hnn_24 := KI.w en_24 hn (okv_o (show kd (12 * k4 + 1294) = (2, 20, true) from (kd_E (k := k4) (c := 4) (by omega) (by omega) (by decide))) (by omega))
              have hrn_24 := NRx.sent (l := k4) en_24 hr (by omega)
              have ksn_24 := KS.w en_24 KS.rf (by unfold tS; omega)
              have e25 : n_24 5 = nI k1 := by rw [en_24, pk_un (by omega)]; exact ek1
              have e26 : n_24 2 = nI k5 := by rw [en_24, pk_un (by omega)]; exact ek5
              have e27 : n_24 (14 * k8 + 119) = (-1) := by rw [en_24, pk_un (by omega)]; exact ek11
              have e28 : n_24 (14 * k8 + 114) = nI k14 := by rw [en_24, pk_un (by omega)]; exact ek14
              have e29 : n_24 (12 * k4 + 1300) = nI k18 := by rw [en_24, pk_un (by omega)]; exact ek18
              have e30 : n_24 (12 * k4 + 1294) = nI k8 := by rw [en_24, pk_us]
              refine pm_aloadn hG dX12_send_89 rfl ?_
              refine pm_iloadn hG dX12_send_90 rfl ?_
              refine pm_top (v := nI k4) ek4 ?_
              refine pm_iconst (v := nI 5) hG dX12_send_91 (by decide) ?_
              refine pm_aloadn hG dX12_send_92 rfl ?_
              refine pm_getf hG dX12_send_93 (flX12_7 _ rfl) rfl rfl ?_
              refine pm_bipush (v := nI 8) hG dX12_send_96 (by decide) ?_
              refine pm_ialdN hG dX12_send_98 rfl (by decide) (by omega) ?_
              obtain ⟨k31, hk31, ek31⟩ := KI.nat hnn_24 (show kd 8 = (1, 2001, false) by decide)
              refine pm_top (v := nI k31) ek31 ?_
              refine pm_iloadn hG dX12_send_99 rfl ?_
              refine pm_top (v := nI k23) ek23 ?_
              refine pm_iaddN (c := k23 + k31) hG dX12_send_100 (by omega) ?_
              refine pm_callV (As := [.int (nI k4), .int (nI 5), .int (nI (k23 + k31))]) (rest := []) hG hR dX12_send_101 (lkX12_217 _ rfl) okV_X12_writes rfl rfl (m_writes (d := 2) (e := 12 * k4 + 1295) (by omega) (by omega) (by omega)) rfl rfl hdd (Nat.le_refl _) (Nat.le_refl _) (by decide) (pm_kv (fun σ' cnt' hq => ?_))
              obtain ⟨rfl, rfl⟩ := hq
              obtain ⟨n_32, en_32⟩ : ∃ f : Nat → Int32, f = upd n_24 (12 * k4 + 1295) (nI (k23 + k31)) := ⟨_, rfl⟩
              rw [← en_32]
              have hnn_32 := KI.w en_32 hnn_24 (okv_f (show kd (12 * k4 + 1295) = (0, 0, false) from (kd_E (k := k4) (c := 5) (by omega) (by omega) (by decide))))
              have hrn_32 := NRx.w en_32 hrn_24 (by rw [(show kd (12 * k4 + 1295) = (0, 0, false) from (kd_E (k := k4) (c := 5) (by omega) (by omega) (by decide)))])
              have ksn_32 := KS.w en_32 ksn_24 (by unfold tS; omega)
              have e33 : n_32 5 = nI k1 := by rw [en_32, pk_un (by omega)]; exact e25
              have e34 : n_32 2 = nI k5 := by rw [en_32, pk_un (by omega)]; exact e26
              have e35 : n_32 (14 * k8 + 119) = (-1) := by rw [en_32, pk_un (by omega)]; exact e27
              have e36 : n_32 (14 * k8 + 114) = nI k14 := by rw [en_32, pk_un (by omega)]; exact e28
              have e37 : n_32 (12 * k4 + 1300) = nI k18 := by rw [en_32, pk_un (by omega)]; exact e29
              have e38 : n_32 (12 * k4 + 1294) = nI k8 := by rw [en_32, pk_un (by omega)]; exact e30
              have e39 : n_32 8 = nI k31 := by rw [en_32, pk_un (by omega)]; exact ek31
              have e40 : n_32 (12 * k4 + 1295) = nI (k23 + k31) := by rw [en_32, pk_us]
              refine pm_aloadn hG dX12_send_104 rfl ?_
              refine pm_iloadn hG dX12_send_105 rfl ?_
              refine pm_top (v := nI k4) ek4 ?_
              refine pm_bipush (v := nI 10) hG dX12_send_106 (by decide) ?_
              refine pm_aloadn hG dX12_send_108 rfl ?_
              refine pm_iloadn hG dX12_send_109 rfl ?_
              refine pm_top (v := nI k8) ek8 ?_
              refine pm_iconst (v := nI 4) hG dX12_send_110 (by decide) ?_
              refine pm_callV (As := [.int (nI k8), .int (nI 4)]) (rest := [.int (nI 10), .int (nI k4), .ref (B + 54)]) hG hR dX12_send_111 (lkX12_72 _ rfl) okV_X12_man rfl rfl (m_man (d := 2) (e := 14 * k8 + 114) (by omega) (by omega) (by omega)) rfl rfl hdd (Nat.le_refl _) (Nat.le_refl _) (Nat.le_of_ble_eq_true rfl) (pm_ki (fun v41 σ' cnt' hq => ?_))
              obtain ⟨rfl, rfl, rfl⟩ := hq
              refine pm_top (v := nI k14) e36 ?_
              refine pm_callV (As := [.int (nI k4), .int (nI 10), .int (nI k14)]) (rest := []) hG hR dX12_send_114 (lkX12_217 _ rfl) okV_X12_writes rfl rfl (m_writes (d := 2) (e := 12 * k4 + 1300) (by omega) (by omega) (by omega)) rfl rfl hdd (Nat.le_refl _) (Nat.le_refl _) (by decide) (pm_kv (fun σ' cnt' hq => ?_))
              obtain ⟨rfl, rfl⟩ := hq
              obtain ⟨n_42, en_42⟩ : ∃ f : Nat → Int32, f = upd n_32 (12 * k4 + 1300) (nI k14) := ⟨_, rfl⟩
              rw [← en_42]
              have hnn_42 := KI.w en_42 hnn_32 (okv_n (show kd (12 * k4 + 1300) = (1, 10, false) from (kd_E (k := k4) (c := 10) (by omega) (by omega) (by decide))) (by omega))
              have hrn_42 := NRx.w en_42 hrn_32 (by rw [(show kd (12 * k4 + 1300) = (1, 10, false) from (kd_E (k := k4) (c := 10) (by omega) (by omega) (by decide)))])
              have ksn_42 := KS.w en_42 ksn_32 (by unfold tS; omega)
              have e43 : n_42 5 = nI k1 := by rw [en_42, pk_un (by omega)]; exact e33
              have e44 : n_42 2 = nI k5 := by rw [en_42, pk_un (by omega)]; exact e34
              have e45 : n_42 (14 * k8 + 119) = (-1) := by rw [en_42, pk_un (by omega)]; exact e35
              have e46 : n_42 (14 * k8 + 114) = nI k14 := by rw [en_42, pk_un (by omega)]; exact e36
              have e47 : n_42 (12 * k4 + 1294) = nI k8 := by rw [en_42, pk_un (by omega)]; exact e38
              have e48 : n_42 8 = nI k31 := by rw [en_42, pk_un (by omega)]; exact e39
              have e49 : n_42 (12 * k4 + 1295) = nI (k23 + k31) := by rw [en_42, pk_un (by omega)]; exact e40
              have e50 : n_42 (12 * k4 + 1300) = nI k14 := by rw [en_42, pk_us]
              refine pm_aloadn hG dX12_send_117 rfl ?_
              refine pm_getf hG dX12_send_118 (flX12_7 _ rfl) rfl rfl ?_
              refine pm_bipush (v := nI 8) hG dX12_send_121 (by decide) ?_
              refine pm_ialdN hG dX12_send_123 rfl (by decide) (by omega) ?_
              refine pm_top (v := nI k31) e48 ?_
              refine pm_iloadn hG dX12_send_124 rfl ?_
              refine pm_top (v := nI k23) ek23 ?_
              refine pm_iaddN (c := k23 + k31) hG dX12_send_125 (by omega) ?_
              exact pm_iret hG hF dX12_send_126 rfl (Nat.le_refl _) (Nat.le_refl _) ⟨_, rfl, ⟨_, _, _, rfl, hnn_42, hrn_42, ksn_42⟩, rfl⟩
            · refine pm_aloadn hG dX12_send_76 rfl ?_
              refine pm_iconst (v := nI 2) hG dX12_send_77 (by decide) ?_
              refine pm_callV (As := [.int (nI 2)]) (rest := []) hG hR dX12_send_78 (lkX12_80 _ rfl) okV_X12_finds rfl rfl (m_finds (d := 2) (by decide) hn hz (by omega)) rfl rfl hdd (Nat.le_refl _) (Nat.le_refl _) (by decide) (pm_ki (fun v51 σ' cnt' hq => ?_))
              obtain ⟨⟨I52, A52, rfl⟩, rfl, fv51⟩ := hq
              exact pm_iret hG hF dX12_send_81 rfl (Nat.le_refl _) (Nat.le_refl _) ⟨_, rfl, ⟨_, _, _, rfl, hn, hr, KS.rf⟩, rfl⟩
        · refine pm_callV (As := [.int (nI k8)]) (rest := []) hG hR dX12_send_33 (lkX12_101 _ rfl) okV_X12_lives rfl rfl (m_lives0 (d := 2) (by decide) (by omega) (by omega : 14 * k8 + 119 = 14 * k8 + 119) ek11 (by omega)) rfl rfl hdd (Nat.le_refl _) (Nat.le_refl _) (by decide) (pm_ki (fun v53 σ' cnt' hq => ?_))
          obtain ⟨rfl, rfl, rfl⟩ := hq
          refine pm_ifN_eq (tgt := 48) hG dX12_send_36 rfl (by omega) (fun _ => ?_) (fun q => absurd q (by omega))
          refine pm_aloadn hG dX12_send_48 rfl ?_
          refine pm_iconst (v := nI 3) hG dX12_send_49 (by decide) ?_
          refine pm_callV (As := [.int (nI 3)]) (rest := []) hG hR dX12_send_50 (lkX12_80 _ rfl) okV_X12_finds rfl rfl (m_finds (d := 2) (by decide) hn hz (by omega)) rfl rfl hdd (Nat.le_refl _) (Nat.le_refl _) (by decide) (pm_ki (fun v54 σ' cnt' hq => ?_))
          obtain ⟨⟨I55, A55, rfl⟩, rfl, fv54⟩ := hq
          exact pm_iret hG hF dX12_send_53 rfl (Nat.le_refl _) (Nat.le_refl _) ⟨_, rfl, ⟨_, _, _, rfl, hn, hr, KS.rf⟩, rfl⟩
      · refine pm_top (v := nI k10) ek10 ?_
        refine pm_ifN_ge (tgt := 48) hG dX12_send_28 rfl (by omega) ?_
        refine pm_aloadn hG dX12_send_48 rfl ?_
        refine pm_iconst (v := nI 3) hG dX12_send_49 (by decide) ?_
        refine pm_callV (As := [.int (nI 3)]) (rest := []) hG hR dX12_send_50 (lkX12_80 _ rfl) okV_X12_finds rfl rfl (m_finds (d := 2) (by decide) hn hz (by omega)) rfl rfl hdd (Nat.le_refl _) (Nat.le_refl _) (by decide) (pm_ki (fun v56 σ' cnt' hq => ?_))
        obtain ⟨⟨I57, A57, rfl⟩, rfl, fv56⟩ := hq
        exact pm_iret hG hF dX12_send_53 rfl (Nat.le_refl _) (Nat.le_refl _) ⟨_, rfl, ⟨_, _, _, rfl, hn, hr, KS.rf⟩, rfl⟩
    · refine pm_ifN_ne (tgt := 22) hG dX12_send_13 rfl (by omega) (fun q => absurd q (by omega)) (fun _ => ?_)
      refine pm_aloadn hG dX12_send_16 rfl ?_
      refine pm_iconst (v := nI 1) hG dX12_send_17 (by decide) ?_
      refine pm_callV (As := [.int (nI 1)]) (rest := []) hG hR dX12_send_18 (lkX12_80 _ rfl) okV_X12_finds rfl rfl (m_finds (d := 2) (by decide) hn hz (by omega)) rfl rfl hdd (Nat.le_refl _) (Nat.le_refl _) (by decide) (pm_ki (fun v58 σ' cnt' hq => ?_))
      obtain ⟨⟨I59, A59, rfl⟩, rfl, fv58⟩ := hq
      exact pm_iret hG hF dX12_send_21 rfl (Nat.le_refl _) (Nat.le_refl _) ⟨_, rfl, ⟨_, _, _, rfl, hn, hr, KS.rf⟩, rfl⟩
  · refine pm_ifN_eq (tgt := 16) hG dX12_send_5 rfl (by omega) (fun _ => ?_) (fun q => absurd q (by omega))
    refine pm_aloadn hG dX12_send_16 rfl ?_
    refine pm_iconst (v := nI 1) hG dX12_send_17 (by decide) ?_
    refine pm_callV (As := [.int (nI 1)]) (rest := []) hG hR dX12_send_18 (lkX12_80 _ rfl) okV_X12_finds rfl rfl (m_finds (d := 2) (by decide) hn hz (by omega)) rfl rfl hdd (Nat.le_refl _) (Nat.le_refl _) (by decide) (pm_ki (fun v60 σ' cnt' hq => ?_))
    obtain ⟨⟨I61, A61, rfl⟩, rfl, fv60⟩ := hq
    exact pm_iret hG hF dX12_send_21 rfl (Nat.le_refl _) (Nat.le_refl _) ⟨_, rfl, ⟨_, _, _, rfl, hn, hr, KS.rf⟩, rfl⟩

set_option maxRecDepth 100000 in
set_option maxHeartbeats 4000000 in
theorem m_sheet {d B cnt p0 t0 : Nat} {σ : pm_S} {I : Nat → Int32} {A : Nat → Nat → Int32} {n k z : Nat → Int32} {ac wt pl im : Int32} {za zb zc : Int32} (hdd : 2 ≤ d) (hn : KI n) (hz : SZ z)  : pm_met mX12_sheet d 0 0 B [.ref (B + 54), .int za, .int zb, .int zc] cnt (pm_mid σ (md_L B I A n k z ac wt pl (nI p0) (nI t0) im)) (pm_Qi (fun v σ' cnt' => (∃ (I' : Nat → Int32) (A' : Nat → Nat → Int32) (z' : Nat → Int32), σ' = pm_mid σ (md_L B I' A' n k z' ac wt pl (nI p0) (nI t0) im) ∧ SZ z') ∧ cnt = cnt' ∧ v = vS za zb zc)) := by
  refine pm_enter 1 (by decide) (Nat.le_of_ble_eq_true rfl) rfl (fun G hG hR hF => ?_)
  refine pm_iloadn hG dX12_sheet_0 rfl ?_
  refine pm_callS (As := [.int za]) (rest := []) hG hR dX12_sheet_1 (lkX12_239 _ rfl) okS_X12_isSheet (m_isSheet (d := 1) (by decide)) rfl rfl hdd (Nat.le_refl _) (Nat.le_refl _) (by decide) (pm_ki (fun v1 σ' cnt' hq => ?_))
  obtain ⟨hq, rfl, rfl⟩ := hq
  rcases hq with ⟨rfl, ac2, bc2⟩ | ⟨rfl, c2⟩
  · obtain ⟨k3, hk3, ek3⟩ := in_nat (by omega) (by omega) ac2 bc2
    refine pm_ifN_eq (tgt := 29) hG dX12_sheet_4 rfl (by omega) (fun q => absurd q (by omega)) (fun _ => ?_)
    refine pm_iloadn hG dX12_sheet_7 rfl ?_
    refine pm_if_eq (tgt := 35) hG dX12_sheet_8 rfl (fun c4 => ?_) (fun c4 => ?_)
    · refine pm_iloadn hG dX12_sheet_35 rfl ?_
      refine pm_top (v := nI 0) c4 ?_
      refine pm_ifN_eq (tgt := 49) hG dX12_sheet_36 rfl (by omega) (fun _ => ?_) (fun q => absurd q (by omega))
      refine pm_iloadn hG dX12_sheet_49 rfl ?_
      refine pm_top (v := nI 0) c4 ?_
      refine pm_ifN_eq (tgt := 65) hG dX12_sheet_50 rfl (by omega) (fun _ => ?_) (fun q => absurd q (by omega))
      refine pm_aloadn hG dX12_sheet_65 rfl ?_
      refine pm_getf hG dX12_sheet_66 (flX12_55 _ rfl) rfl rfl ?_
      refine pm_iloadn hG dX12_sheet_69 rfl ?_
      refine pm_top (v := nI k3) ek3 ?_
      refine pm_iloadn hG dX12_sheet_70 rfl ?_
      refine pm_top (v := nI 0) c4 ?_
      refine pm_iastN hG dX12_sheet_71 rfl (by decide) (by omega) ?_
      refine mdn_bitsOf (fun A_5 => ?_)
      refine pm_aloadn hG dX12_sheet_72 rfl ?_
      refine pm_getf hG dX12_sheet_73 (flX12_58 _ rfl) rfl rfl ?_
      refine pm_iloadn hG dX12_sheet_76 rfl ?_
      refine pm_top (v := nI k3) ek3 ?_
      refine pm_iloadn hG dX12_sheet_77 rfl ?_
      refine pm_top (v := nI 0) c4 ?_
      refine pm_ifN_ne (tgt := 85) hG dX12_sheet_78 rfl (by omega) (fun q => absurd q (by omega)) (fun _ => ?_)
      refine pm_iconst (v := nI 0) hG dX12_sheet_81 (by decide) ?_
      refine pm_goto (tgt := 86) hG dX12_sheet_82 rfl ?_
      refine pm_iastN hG dX12_sheet_86 rfl (by decide) (by omega) ?_
      refine mdn_sizeOf (fun z_6 ez_6 => ?_)
      have hz_6 := SZ.w ez_6 hz (by omega : 0 < 25)
      refine pm_iconst (v := nI 0) hG dX12_sheet_87 (by decide) ?_
      refine pm_istoreXi (loc' := [some (.ref (B + 54)), some (.int za), some (.int zb), some (.int zc), some (.int (nI 0))]) hG dX12_sheet_88 (by decide) (pm_c1b rfl) rfl ?_
      have loop90_7 : ∀ (m7 : Nat) (I7 : Nat → Int32) (A7 : Nat → Nat → Int32) (z_7 : Nat → Int32) (i7 : Nat), SZ z_7 → i7 ≤ 24 → 24 - i7 < m7 → pm_wp mX12_sheet G B 90 [some (.ref (B + 54)), some (.int za), some (.int zb), some (.int zc), some (.int (nI i7))] [] 0 0 cnt (pm_mid σ (md_L B I7 A7 n k z_7 ac wt pl (nI p0) (nI t0) im)) := by
        intro m7
        induction m7 with
        | zero => intro I7 A7 z_7 i7 _ _ hm; exact absurd hm (Nat.not_lt_zero _)
        | succ m7 ih7 =>
          intro I7 A7 z_7 i7 hzz_7 hi7 hm7
          refine pm_iloadi hG dX12_sheet_90 rfl ?_
          refine pm_bipush (v := nI 24) hG dX12_sheet_92 (by decide) ?_
          refine pm_icmpN_ge (tgt := 116) hG dX12_sheet_94 rfl (by omega) (by omega) (fun c8 => ?_) (fun c8 => ?_)
          · refine pm_iconst (v := nI 1) hG dX12_sheet_116 (by decide) ?_
            exact pm_iret hG hF dX12_sheet_117 rfl (Nat.le_refl _) (Nat.le_refl _) ⟨_, rfl, ⟨_, _, _, rfl, hzz_7⟩, rfl, (vS_f (fun q => q.elim ac2 bc2) c4).symm⟩
          · refine pm_aloadn hG dX12_sheet_97 rfl ?_
            refine pm_getf hG dX12_sheet_98 (flX12_61 _ rfl) rfl rfl ?_
            refine pm_bipush (v := nI 24) hG dX12_sheet_101 (by decide) ?_
            refine pm_iloadn hG dX12_sheet_103 rfl ?_
            refine pm_top (v := nI k3) ek3 ?_
            refine pm_imulN (c := 24 * k3) hG dX12_sheet_104 (by omega) ?_
            refine pm_iloadi hG dX12_sheet_105 rfl ?_
            refine pm_iaddN (c := i7 + 24 * k3) hG dX12_sheet_107 (by omega) ?_
            refine pm_iconst (v := nI 0) hG dX12_sheet_108 (by decide) ?_
            refine pm_iastN hG dX12_sheet_109 rfl (by decide) (by omega) ?_
            refine mdn_sheets (fun A_9 => ?_)
            refine pm_iincX (v := nI (i7 + 1)) (loc' := [some (.ref (B + 54)), some (.int za), some (.int zb), some (.int zc), some (.int (nI (i7 + 1)))]) hG dX12_sheet_110 rfl (nI_1 _) (by decide) (pm_c1b rfl) rfl ?_
            refine pm_goto (tgt := 90) hG dX12_sheet_113 rfl ?_
            exact ih7 I7 A_9 z_7 (i7 + 1) hzz_7 (by omega) (by omega)
      exact loop90_7 _ I A_5 z_6 0 hz_6 (by omega) (Nat.lt_succ_self _)
    · refine pm_iloadn hG dX12_sheet_11 rfl ?_
      refine pm_bipush (v := nI 8) hG dX12_sheet_12 (by decide) ?_
      refine pm_icmp_eq (tgt := 35) hG dX12_sheet_14 rfl (fun c10 => ?_) (fun c10 => ?_)
      · refine pm_iloadn hG dX12_sheet_35 rfl ?_
        refine pm_top (v := nI 8) c10 ?_
        refine pm_ifN_eq (tgt := 49) hG dX12_sheet_36 rfl (by omega) (fun q => absurd q (by omega)) (fun _ => ?_)
        refine pm_iloadn hG dX12_sheet_39 rfl ?_
        refine pm_if_ge (tgt := 49) hG dX12_sheet_40 rfl (fun c11 => ?_) (fun c11 => ?_)
        · obtain ⟨k12, hk12, ek12⟩ := nI_of (Int32.not_lt.mpr c11)
          refine pm_iloadn hG dX12_sheet_49 rfl ?_
          refine pm_top (v := nI 8) c10 ?_
          refine pm_ifN_eq (tgt := 65) hG dX12_sheet_50 rfl (by omega) (fun q => absurd q (by omega)) (fun _ => ?_)
          refine pm_iloadn hG dX12_sheet_53 rfl ?_
          refine pm_top (v := nI k12) ek12 ?_
          refine pm_bipush (v := nI 24) hG dX12_sheet_54 (by decide) ?_
          refine pm_icmpN_le (tgt := 65) hG dX12_sheet_56 rfl (by omega) (by omega) (fun c13 => ?_) (fun c13 => ?_)
          · refine pm_aloadn hG dX12_sheet_65 rfl ?_
            refine pm_getf hG dX12_sheet_66 (flX12_55 _ rfl) rfl rfl ?_
            refine pm_iloadn hG dX12_sheet_69 rfl ?_
            refine pm_top (v := nI k3) ek3 ?_
            refine pm_iloadn hG dX12_sheet_70 rfl ?_
            refine pm_top (v := nI 8) c10 ?_
            refine pm_iastN hG dX12_sheet_71 rfl (by decide) (by omega) ?_
            refine mdn_bitsOf (fun A_14 => ?_)
            refine pm_aloadn hG dX12_sheet_72 rfl ?_
            refine pm_getf hG dX12_sheet_73 (flX12_58 _ rfl) rfl rfl ?_
            refine pm_iloadn hG dX12_sheet_76 rfl ?_
            refine pm_top (v := nI k3) ek3 ?_
            refine pm_iloadn hG dX12_sheet_77 rfl ?_
            refine pm_top (v := nI 8) c10 ?_
            refine pm_ifN_ne (tgt := 85) hG dX12_sheet_78 rfl (by omega) (fun _ => ?_) (fun q => absurd q (by omega))
            refine pm_iloadn hG dX12_sheet_85 rfl ?_
            refine pm_top (v := nI k12) ek12 ?_
            refine pm_iastN hG dX12_sheet_86 rfl (by decide) (by omega) ?_
            refine mdn_sizeOf (fun z_15 ez_15 => ?_)
            have hz_15 := SZ.w ez_15 hz (by omega : k12 < 25)
            refine pm_iconst (v := nI 0) hG dX12_sheet_87 (by decide) ?_
            refine pm_istoreXi (loc' := [some (.ref (B + 54)), some (.int za), some (.int zb), some (.int zc), some (.int (nI 0))]) hG dX12_sheet_88 (by decide) (pm_c1b rfl) rfl ?_
            have loop90_16 : ∀ (m16 : Nat) (I16 : Nat → Int32) (A16 : Nat → Nat → Int32) (z_16 : Nat → Int32) (i16 : Nat), SZ z_16 → i16 ≤ 24 → 24 - i16 < m16 → pm_wp mX12_sheet G B 90 [some (.ref (B + 54)), some (.int za), some (.int zb), some (.int zc), some (.int (nI i16))] [] 0 0 cnt (pm_mid σ (md_L B I16 A16 n k z_16 ac wt pl (nI p0) (nI t0) im)) := by
              intro m16
              induction m16 with
              | zero => intro I16 A16 z_16 i16 _ _ hm; exact absurd hm (Nat.not_lt_zero _)
              | succ m16 ih16 =>
                intro I16 A16 z_16 i16 hzz_16 hi16 hm16
                refine pm_iloadi hG dX12_sheet_90 rfl ?_
                refine pm_bipush (v := nI 24) hG dX12_sheet_92 (by decide) ?_
                refine pm_icmpN_ge (tgt := 116) hG dX12_sheet_94 rfl (by omega) (by omega) (fun c17 => ?_) (fun c17 => ?_)
                · refine pm_iconst (v := nI 1) hG dX12_sheet_116 (by decide) ?_
                  exact pm_iret hG hF dX12_sheet_117 rfl (Nat.le_refl _) (Nat.le_refl _) ⟨_, rfl, ⟨_, _, _, rfl, hzz_16⟩, rfl, (vS_e (fun q => q.elim ac2 bc2) (Or.inl c10) (by rw [ek12]; exact nI_pos (by omega)) (by rw [ek12]; exact nI_nlt (a := 24) (by omega) (by omega))).symm⟩
                · refine pm_aloadn hG dX12_sheet_97 rfl ?_
                  refine pm_getf hG dX12_sheet_98 (flX12_61 _ rfl) rfl rfl ?_
                  refine pm_bipush (v := nI 24) hG dX12_sheet_101 (by decide) ?_
                  refine pm_iloadn hG dX12_sheet_103 rfl ?_
                  refine pm_top (v := nI k3) ek3 ?_
                  refine pm_imulN (c := 24 * k3) hG dX12_sheet_104 (by omega) ?_
                  refine pm_iloadi hG dX12_sheet_105 rfl ?_
                  refine pm_iaddN (c := i16 + 24 * k3) hG dX12_sheet_107 (by omega) ?_
                  refine pm_iconst (v := nI 0) hG dX12_sheet_108 (by decide) ?_
                  refine pm_iastN hG dX12_sheet_109 rfl (by decide) (by omega) ?_
                  refine mdn_sheets (fun A_18 => ?_)
                  refine pm_iincX (v := nI (i16 + 1)) (loc' := [some (.ref (B + 54)), some (.int za), some (.int zb), some (.int zc), some (.int (nI (i16 + 1)))]) hG dX12_sheet_110 rfl (nI_1 _) (by decide) (pm_c1b rfl) rfl ?_
                  refine pm_goto (tgt := 90) hG dX12_sheet_113 rfl ?_
                  exact ih16 I16 A_18 z_16 (i16 + 1) hzz_16 (by omega) (by omega)
            exact loop90_16 _ I A_14 z_15 0 hz_15 (by omega) (Nat.lt_succ_self _)
          · refine pm_aloadn hG dX12_sheet_59 rfl ?_
            refine pm_iconst (v := nI 1) hG dX12_sheet_60 (by decide) ?_
            refine pm_callV (As := [.int (nI 1)]) (rest := []) hG hR dX12_sheet_61 (lkX12_80 _ rfl) okV_X12_finds rfl rfl (m_finds (d := 1) (by decide) hn hz (by omega)) rfl rfl hdd (Nat.le_refl _) (Nat.le_refl _) (by decide) (pm_ki (fun v19 σ' cnt' hq => ?_))
            obtain ⟨⟨I20, A20, rfl⟩, rfl, fv19⟩ := hq
            exact pm_iret hG hF dX12_sheet_64 rfl (Nat.le_refl _) (Nat.le_refl _) ⟨_, rfl, ⟨_, _, _, rfl, hz⟩, rfl, fv19.trans ((show (-1000000 : Int32) - nI 1 = -1000001 by decide).trans (vS_d (fun q => q.elim ac2 bc2) (Or.inl c10) (by rw [c10]; decide) (by rw [ek12]; exact nI_pos (by omega)) (by rw [ek12]; exact nI_lt (a := 24) (by omega) (by omega))).symm)⟩
        · refine pm_aloadn hG dX12_sheet_43 rfl ?_
          refine pm_iconst (v := nI 3) hG dX12_sheet_44 (by decide) ?_
          refine pm_callV (As := [.int (nI 3)]) (rest := []) hG hR dX12_sheet_45 (lkX12_80 _ rfl) okV_X12_finds rfl rfl (m_finds (d := 1) (by decide) hn hz (by omega)) rfl rfl hdd (Nat.le_refl _) (Nat.le_refl _) (by decide) (pm_ki (fun v21 σ' cnt' hq => ?_))
          obtain ⟨⟨I22, A22, rfl⟩, rfl, fv21⟩ := hq
          exact pm_iret hG hF dX12_sheet_48 rfl (Nat.le_refl _) (Nat.le_refl _) ⟨_, rfl, ⟨_, _, _, rfl, hz⟩, rfl, fv21.trans ((show (-1000000 : Int32) - nI 3 = -1000003 by decide).trans (vS_c (fun q => q.elim ac2 bc2) (Or.inl c10) (by rw [c10]; decide) (Int32.not_le.mp c11)).symm)⟩
      · refine pm_iloadn hG dX12_sheet_17 rfl ?_
        refine pm_bipush (v := nI 16) hG dX12_sheet_18 (by decide) ?_
        refine pm_icmp_eq (tgt := 35) hG dX12_sheet_20 rfl (fun c23 => ?_) (fun c23 => ?_)
        · refine pm_iloadn hG dX12_sheet_35 rfl ?_
          refine pm_top (v := nI 16) c23 ?_
          refine pm_ifN_eq (tgt := 49) hG dX12_sheet_36 rfl (by omega) (fun q => absurd q (by omega)) (fun _ => ?_)
          refine pm_iloadn hG dX12_sheet_39 rfl ?_
          refine pm_if_ge (tgt := 49) hG dX12_sheet_40 rfl (fun c24 => ?_) (fun c24 => ?_)
          · obtain ⟨k25, hk25, ek25⟩ := nI_of (Int32.not_lt.mpr c24)
            refine pm_iloadn hG dX12_sheet_49 rfl ?_
            refine pm_top (v := nI 16) c23 ?_
            refine pm_ifN_eq (tgt := 65) hG dX12_sheet_50 rfl (by omega) (fun q => absurd q (by omega)) (fun _ => ?_)
            refine pm_iloadn hG dX12_sheet_53 rfl ?_
            refine pm_top (v := nI k25) ek25 ?_
            refine pm_bipush (v := nI 24) hG dX12_sheet_54 (by decide) ?_
            refine pm_icmpN_le (tgt := 65) hG dX12_sheet_56 rfl (by omega) (by omega) (fun c26 => ?_) (fun c26 => ?_)
            · refine pm_aloadn hG dX12_sheet_65 rfl ?_
              refine pm_getf hG dX12_sheet_66 (flX12_55 _ rfl) rfl rfl ?_
              refine pm_iloadn hG dX12_sheet_69 rfl ?_
              refine pm_top (v := nI k3) ek3 ?_
              refine pm_iloadn hG dX12_sheet_70 rfl ?_
              refine pm_top (v := nI 16) c23 ?_
              refine pm_iastN hG dX12_sheet_71 rfl (by decide) (by omega) ?_
              refine mdn_bitsOf (fun A_27 => ?_)
              refine pm_aloadn hG dX12_sheet_72 rfl ?_
              refine pm_getf hG dX12_sheet_73 (flX12_58 _ rfl) rfl rfl ?_
              refine pm_iloadn hG dX12_sheet_76 rfl ?_
              refine pm_top (v := nI k3) ek3 ?_
              refine pm_iloadn hG dX12_sheet_77 rfl ?_
              refine pm_top (v := nI 16) c23 ?_
              refine pm_ifN_ne (tgt := 85) hG dX12_sheet_78 rfl (by omega) (fun _ => ?_) (fun q => absurd q (by omega))
              refine pm_iloadn hG dX12_sheet_85 rfl ?_
              refine pm_top (v := nI k25) ek25 ?_
              refine pm_iastN hG dX12_sheet_86 rfl (by decide) (by omega) ?_
              refine mdn_sizeOf (fun z_28 ez_28 => ?_)
              have hz_28 := SZ.w ez_28 hz (by omega : k25 < 25)
              refine pm_iconst (v := nI 0) hG dX12_sheet_87 (by decide) ?_
              refine pm_istoreXi (loc' := [some (.ref (B + 54)), some (.int za), some (.int zb), some (.int zc), some (.int (nI 0))]) hG dX12_sheet_88 (by decide) (pm_c1b rfl) rfl ?_
              have loop90_29 : ∀ (m29 : Nat) (I29 : Nat → Int32) (A29 : Nat → Nat → Int32) (z_29 : Nat → Int32) (i29 : Nat), SZ z_29 → i29 ≤ 24 → 24 - i29 < m29 → pm_wp mX12_sheet G B 90 [some (.ref (B + 54)), some (.int za), some (.int zb), some (.int zc), some (.int (nI i29))] [] 0 0 cnt (pm_mid σ (md_L B I29 A29 n k z_29 ac wt pl (nI p0) (nI t0) im)) := by
                intro m29
                induction m29 with
                | zero => intro I29 A29 z_29 i29 _ _ hm; exact absurd hm (Nat.not_lt_zero _)
                | succ m29 ih29 =>
                  intro I29 A29 z_29 i29 hzz_29 hi29 hm29
                  refine pm_iloadi hG dX12_sheet_90 rfl ?_
                  refine pm_bipush (v := nI 24) hG dX12_sheet_92 (by decide) ?_
                  refine pm_icmpN_ge (tgt := 116) hG dX12_sheet_94 rfl (by omega) (by omega) (fun c30 => ?_) (fun c30 => ?_)
                  · refine pm_iconst (v := nI 1) hG dX12_sheet_116 (by decide) ?_
                    exact pm_iret hG hF dX12_sheet_117 rfl (Nat.le_refl _) (Nat.le_refl _) ⟨_, rfl, ⟨_, _, _, rfl, hzz_29⟩, rfl, (vS_e (fun q => q.elim ac2 bc2) (Or.inr (Or.inl c23)) (by rw [ek25]; exact nI_pos (by omega)) (by rw [ek25]; exact nI_nlt (a := 24) (by omega) (by omega))).symm⟩
                  · refine pm_aloadn hG dX12_sheet_97 rfl ?_
                    refine pm_getf hG dX12_sheet_98 (flX12_61 _ rfl) rfl rfl ?_
                    refine pm_bipush (v := nI 24) hG dX12_sheet_101 (by decide) ?_
                    refine pm_iloadn hG dX12_sheet_103 rfl ?_
                    refine pm_top (v := nI k3) ek3 ?_
                    refine pm_imulN (c := 24 * k3) hG dX12_sheet_104 (by omega) ?_
                    refine pm_iloadi hG dX12_sheet_105 rfl ?_
                    refine pm_iaddN (c := i29 + 24 * k3) hG dX12_sheet_107 (by omega) ?_
                    refine pm_iconst (v := nI 0) hG dX12_sheet_108 (by decide) ?_
                    refine pm_iastN hG dX12_sheet_109 rfl (by decide) (by omega) ?_
                    refine mdn_sheets (fun A_31 => ?_)
                    refine pm_iincX (v := nI (i29 + 1)) (loc' := [some (.ref (B + 54)), some (.int za), some (.int zb), some (.int zc), some (.int (nI (i29 + 1)))]) hG dX12_sheet_110 rfl (nI_1 _) (by decide) (pm_c1b rfl) rfl ?_
                    refine pm_goto (tgt := 90) hG dX12_sheet_113 rfl ?_
                    exact ih29 I29 A_31 z_29 (i29 + 1) hzz_29 (by omega) (by omega)
              exact loop90_29 _ I A_27 z_28 0 hz_28 (by omega) (Nat.lt_succ_self _)
            · refine pm_aloadn hG dX12_sheet_59 rfl ?_
              refine pm_iconst (v := nI 1) hG dX12_sheet_60 (by decide) ?_
              refine pm_callV (As := [.int (nI 1)]) (rest := []) hG hR dX12_sheet_61 (lkX12_80 _ rfl) okV_X12_finds rfl rfl (m_finds (d := 1) (by decide) hn hz (by omega)) rfl rfl hdd (Nat.le_refl _) (Nat.le_refl _) (by decide) (pm_ki (fun v32 σ' cnt' hq => ?_))
              obtain ⟨⟨I33, A33, rfl⟩, rfl, fv32⟩ := hq
              exact pm_iret hG hF dX12_sheet_64 rfl (Nat.le_refl _) (Nat.le_refl _) ⟨_, rfl, ⟨_, _, _, rfl, hz⟩, rfl, fv32.trans ((show (-1000000 : Int32) - nI 1 = -1000001 by decide).trans (vS_d (fun q => q.elim ac2 bc2) (Or.inr (Or.inl c23)) (by rw [c23]; decide) (by rw [ek25]; exact nI_pos (by omega)) (by rw [ek25]; exact nI_lt (a := 24) (by omega) (by omega))).symm)⟩
          · refine pm_aloadn hG dX12_sheet_43 rfl ?_
            refine pm_iconst (v := nI 3) hG dX12_sheet_44 (by decide) ?_
            refine pm_callV (As := [.int (nI 3)]) (rest := []) hG hR dX12_sheet_45 (lkX12_80 _ rfl) okV_X12_finds rfl rfl (m_finds (d := 1) (by decide) hn hz (by omega)) rfl rfl hdd (Nat.le_refl _) (Nat.le_refl _) (by decide) (pm_ki (fun v34 σ' cnt' hq => ?_))
            obtain ⟨⟨I35, A35, rfl⟩, rfl, fv34⟩ := hq
            exact pm_iret hG hF dX12_sheet_48 rfl (Nat.le_refl _) (Nat.le_refl _) ⟨_, rfl, ⟨_, _, _, rfl, hz⟩, rfl, fv34.trans ((show (-1000000 : Int32) - nI 3 = -1000003 by decide).trans (vS_c (fun q => q.elim ac2 bc2) (Or.inr (Or.inl c23)) (by rw [c23]; decide) (Int32.not_le.mp c24)).symm)⟩
        · refine pm_iloadn hG dX12_sheet_23 rfl ?_
          refine pm_bipush (v := nI 32) hG dX12_sheet_24 (by decide) ?_
          refine pm_icmp_eq (tgt := 35) hG dX12_sheet_26 rfl (fun c36 => ?_) (fun c36 => ?_)
          · refine pm_iloadn hG dX12_sheet_35 rfl ?_
            refine pm_top (v := nI 32) c36 ?_
            refine pm_ifN_eq (tgt := 49) hG dX12_sheet_36 rfl (by omega) (fun q => absurd q (by omega)) (fun _ => ?_)
            refine pm_iloadn hG dX12_sheet_39 rfl ?_
            refine pm_if_ge (tgt := 49) hG dX12_sheet_40 rfl (fun c37 => ?_) (fun c37 => ?_)
            · obtain ⟨k38, hk38, ek38⟩ := nI_of (Int32.not_lt.mpr c37)
              refine pm_iloadn hG dX12_sheet_49 rfl ?_
              refine pm_top (v := nI 32) c36 ?_
              refine pm_ifN_eq (tgt := 65) hG dX12_sheet_50 rfl (by omega) (fun q => absurd q (by omega)) (fun _ => ?_)
              refine pm_iloadn hG dX12_sheet_53 rfl ?_
              refine pm_top (v := nI k38) ek38 ?_
              refine pm_bipush (v := nI 24) hG dX12_sheet_54 (by decide) ?_
              refine pm_icmpN_le (tgt := 65) hG dX12_sheet_56 rfl (by omega) (by omega) (fun c39 => ?_) (fun c39 => ?_)
              · refine pm_aloadn hG dX12_sheet_65 rfl ?_
                refine pm_getf hG dX12_sheet_66 (flX12_55 _ rfl) rfl rfl ?_
                refine pm_iloadn hG dX12_sheet_69 rfl ?_
                refine pm_top (v := nI k3) ek3 ?_
                refine pm_iloadn hG dX12_sheet_70 rfl ?_
                refine pm_top (v := nI 32) c36 ?_
                refine pm_iastN hG dX12_sheet_71 rfl (by decide) (by omega) ?_
                refine mdn_bitsOf (fun A_40 => ?_)
                refine pm_aloadn hG dX12_sheet_72 rfl ?_
                refine pm_getf hG dX12_sheet_73 (flX12_58 _ rfl) rfl rfl ?_
                refine pm_iloadn hG dX12_sheet_76 rfl ?_
                refine pm_top (v := nI k3) ek3 ?_
                refine pm_iloadn hG dX12_sheet_77 rfl ?_
                refine pm_top (v := nI 32) c36 ?_
                refine pm_ifN_ne (tgt := 85) hG dX12_sheet_78 rfl (by omega) (fun _ => ?_) (fun q => absurd q (by omega))
                refine pm_iloadn hG dX12_sheet_85 rfl ?_
                refine pm_top (v := nI k38) ek38 ?_
                refine pm_iastN hG dX12_sheet_86 rfl (by decide) (by omega) ?_
                refine mdn_sizeOf (fun z_41 ez_41 => ?_)
                have hz_41 := SZ.w ez_41 hz (by omega : k38 < 25)
                refine pm_iconst (v := nI 0) hG dX12_sheet_87 (by decide) ?_
                refine pm_istoreXi (loc' := [some (.ref (B + 54)), some (.int za), some (.int zb), some (.int zc), some (.int (nI 0))]) hG dX12_sheet_88 (by decide) (pm_c1b rfl) rfl ?_
                have loop90_42 : ∀ (m42 : Nat) (I42 : Nat → Int32) (A42 : Nat → Nat → Int32) (z_42 : Nat → Int32) (i42 : Nat), SZ z_42 → i42 ≤ 24 → 24 - i42 < m42 → pm_wp mX12_sheet G B 90 [some (.ref (B + 54)), some (.int za), some (.int zb), some (.int zc), some (.int (nI i42))] [] 0 0 cnt (pm_mid σ (md_L B I42 A42 n k z_42 ac wt pl (nI p0) (nI t0) im)) := by
                  intro m42
                  induction m42 with
                  | zero => intro I42 A42 z_42 i42 _ _ hm; exact absurd hm (Nat.not_lt_zero _)
                  | succ m42 ih42 =>
                    intro I42 A42 z_42 i42 hzz_42 hi42 hm42
                    refine pm_iloadi hG dX12_sheet_90 rfl ?_
                    refine pm_bipush (v := nI 24) hG dX12_sheet_92 (by decide) ?_
                    refine pm_icmpN_ge (tgt := 116) hG dX12_sheet_94 rfl (by omega) (by omega) (fun c43 => ?_) (fun c43 => ?_)
                    · refine pm_iconst (v := nI 1) hG dX12_sheet_116 (by decide) ?_
                      exact pm_iret hG hF dX12_sheet_117 rfl (Nat.le_refl _) (Nat.le_refl _) ⟨_, rfl, ⟨_, _, _, rfl, hzz_42⟩, rfl, (vS_e (fun q => q.elim ac2 bc2) (Or.inr (Or.inr c36)) (by rw [ek38]; exact nI_pos (by omega)) (by rw [ek38]; exact nI_nlt (a := 24) (by omega) (by omega))).symm⟩
                    · refine pm_aloadn hG dX12_sheet_97 rfl ?_
                      refine pm_getf hG dX12_sheet_98 (flX12_61 _ rfl) rfl rfl ?_
                      refine pm_bipush (v := nI 24) hG dX12_sheet_101 (by decide) ?_
                      refine pm_iloadn hG dX12_sheet_103 rfl ?_
                      refine pm_top (v := nI k3) ek3 ?_
                      refine pm_imulN (c := 24 * k3) hG dX12_sheet_104 (by omega) ?_
                      refine pm_iloadi hG dX12_sheet_105 rfl ?_
                      refine pm_iaddN (c := i42 + 24 * k3) hG dX12_sheet_107 (by omega) ?_
                      refine pm_iconst (v := nI 0) hG dX12_sheet_108 (by decide) ?_
                      refine pm_iastN hG dX12_sheet_109 rfl (by decide) (by omega) ?_
                      refine mdn_sheets (fun A_44 => ?_)
                      refine pm_iincX (v := nI (i42 + 1)) (loc' := [some (.ref (B + 54)), some (.int za), some (.int zb), some (.int zc), some (.int (nI (i42 + 1)))]) hG dX12_sheet_110 rfl (nI_1 _) (by decide) (pm_c1b rfl) rfl ?_
                      refine pm_goto (tgt := 90) hG dX12_sheet_113 rfl ?_
                      exact ih42 I42 A_44 z_42 (i42 + 1) hzz_42 (by omega) (by omega)
                exact loop90_42 _ I A_40 z_41 0 hz_41 (by omega) (Nat.lt_succ_self _)
              · refine pm_aloadn hG dX12_sheet_59 rfl ?_
                refine pm_iconst (v := nI 1) hG dX12_sheet_60 (by decide) ?_
                refine pm_callV (As := [.int (nI 1)]) (rest := []) hG hR dX12_sheet_61 (lkX12_80 _ rfl) okV_X12_finds rfl rfl (m_finds (d := 1) (by decide) hn hz (by omega)) rfl rfl hdd (Nat.le_refl _) (Nat.le_refl _) (by decide) (pm_ki (fun v45 σ' cnt' hq => ?_))
                obtain ⟨⟨I46, A46, rfl⟩, rfl, fv45⟩ := hq
                exact pm_iret hG hF dX12_sheet_64 rfl (Nat.le_refl _) (Nat.le_refl _) ⟨_, rfl, ⟨_, _, _, rfl, hz⟩, rfl, fv45.trans ((show (-1000000 : Int32) - nI 1 = -1000001 by decide).trans (vS_d (fun q => q.elim ac2 bc2) (Or.inr (Or.inr c36)) (by rw [c36]; decide) (by rw [ek38]; exact nI_pos (by omega)) (by rw [ek38]; exact nI_lt (a := 24) (by omega) (by omega))).symm)⟩
            · refine pm_aloadn hG dX12_sheet_43 rfl ?_
              refine pm_iconst (v := nI 3) hG dX12_sheet_44 (by decide) ?_
              refine pm_callV (As := [.int (nI 3)]) (rest := []) hG hR dX12_sheet_45 (lkX12_80 _ rfl) okV_X12_finds rfl rfl (m_finds (d := 1) (by decide) hn hz (by omega)) rfl rfl hdd (Nat.le_refl _) (Nat.le_refl _) (by decide) (pm_ki (fun v47 σ' cnt' hq => ?_))
              obtain ⟨⟨I48, A48, rfl⟩, rfl, fv47⟩ := hq
              exact pm_iret hG hF dX12_sheet_48 rfl (Nat.le_refl _) (Nat.le_refl _) ⟨_, rfl, ⟨_, _, _, rfl, hz⟩, rfl, fv47.trans ((show (-1000000 : Int32) - nI 3 = -1000003 by decide).trans (vS_c (fun q => q.elim ac2 bc2) (Or.inr (Or.inr c36)) (by rw [c36]; decide) (Int32.not_le.mp c37)).symm)⟩
          · refine pm_aloadn hG dX12_sheet_29 rfl ?_
            refine pm_iconst (v := nI 1) hG dX12_sheet_30 (by decide) ?_
            refine pm_callV (As := [.int (nI 1)]) (rest := []) hG hR dX12_sheet_31 (lkX12_80 _ rfl) okV_X12_finds rfl rfl (m_finds (d := 1) (by decide) hn hz (by omega)) rfl rfl hdd (Nat.le_refl _) (Nat.le_refl _) (by decide) (pm_ki (fun v49 σ' cnt' hq => ?_))
            obtain ⟨⟨I50, A50, rfl⟩, rfl, fv49⟩ := hq
            exact pm_iret hG hF dX12_sheet_34 rfl (Nat.le_refl _) (Nat.le_refl _) ⟨_, rfl, ⟨_, _, _, rfl, hz⟩, rfl, fv49.trans ((show (-1000000 : Int32) - nI 1 = -1000001 by decide).trans (vS_b c4 (fun q => q.elim c10 (fun q => q.elim c23 c36))).symm)⟩
  · refine pm_ifN_eq (tgt := 29) hG dX12_sheet_4 rfl (by omega) (fun _ => ?_) (fun q => absurd q (by omega))
    refine pm_aloadn hG dX12_sheet_29 rfl ?_
    refine pm_iconst (v := nI 1) hG dX12_sheet_30 (by decide) ?_
    refine pm_callV (As := [.int (nI 1)]) (rest := []) hG hR dX12_sheet_31 (lkX12_80 _ rfl) okV_X12_finds rfl rfl (m_finds (d := 1) (by decide) hn hz (by omega)) rfl rfl hdd (Nat.le_refl _) (Nat.le_refl _) (by decide) (pm_ki (fun v51 σ' cnt' hq => ?_))
    obtain ⟨⟨I52, A52, rfl⟩, rfl, fv51⟩ := hq
    exact pm_iret hG hF dX12_sheet_34 rfl (Nat.le_refl _) (Nat.le_refl _) ⟨_, rfl, ⟨_, _, _, rfl, hz⟩, rfl, fv51.trans ((show (-1000000 : Int32) - nI 1 = -1000001 by decide).trans (vS_a c2).symm)⟩
