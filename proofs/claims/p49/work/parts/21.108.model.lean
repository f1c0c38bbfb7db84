set_option maxRecDepth 100000 in
set_option maxHeartbeats 4000000 in
theorem m_seat {d B cnt p0 t0 : Nat} {σ : pm_S} {I : Nat → Int32} {A : Nat → Nat → Int32} {n k z : Nat → Int32} {ac wt pl im : Int32} {y : Nat → Int32} {za zb : Int32} (hdd : 2 ≤ d) (hn : KI n) (hr : NR n) (hz : SZ z)  : pm_met mX12_seat d 0 0 B [.ref (B + 54), .int za, .int zb] cnt (pm_mid σ (md_L B I A n k z ac wt pl (nI p0) (nI t0) im y)) (pm_Qi (fun v σ' cnt' => (∃ (I' : Nat → Int32) (A' : Nat → Nat → Int32) (n' : Nat → Int32), σ' = pm_mid σ (md_L B I' A' n' k z ac wt pl (nI p0) (nI t0) im y) ∧ KI n' ∧ NR n') ∧ cnt = cnt')) := by
  refine pm_enter 0 (by decide) (Nat.le_of_ble_eq_true rfl) rfl (fun G hG hR hF => ?_)
  refine pm_aloadn hG dX12_seat_0 rfl ?_
  refine pm_iloadn hG dX12_seat_1 rfl ?_
  obtain ⟨k1, hk1, ek1⟩ := KI.nat hn (show kd 2 = (1, 21, true) by decide)
  refine pm_callV (As := [.int za]) (rest := []) hG hR dX12_seat_2 (lkX12_91 _ rfl) okV_X12_isPerson rfl rfl (m_isPerson (d := 1) (by decide) ek1 (by omega)) rfl rfl hdd (Nat.le_refl _) (Nat.le_refl _) (by decide) (pm_ki (fun v2 σ' cnt' hq => ?_))
  obtain ⟨hq, rfl, rfl⟩ := hq
  rcases hq with ⟨rfl, k4, hk4, ek4⟩ | rfl
  · refine pm_ifN_ne (tgt := 14) hG dX12_seat_5 rfl (by omega) (fun _ => ?_) (fun q => absurd q (by omega))
    refine pm_aloadn hG dX12_seat_14 rfl ?_
    refine pm_iloadn hG dX12_seat_15 rfl ?_
    refine pm_top (v := nI k4) ek4 ?_
    rcases KI.opt hn (show kd (14 * k4 + 119) = (2, 2001, false) from (kd_P (k := k4) (c := 9) (by omega) (by omega) (by decide))) with ek5 | ⟨k5, hk5, ek5⟩
    · refine pm_callV (As := [.int (nI k4)]) (rest := []) hG hR dX12_seat_16 (lkX12_101 _ rfl) okV_X12_lives rfl rfl (m_lives1 (d := 1) (by decide) (by omega) (by omega : 14 * k4 + 119 = 14 * k4 + 119) ek5) rfl rfl hdd (Nat.le_refl _) (Nat.le_refl _) (by decide) (pm_ki (fun v6 σ' cnt' hq => ?_))
      obtain ⟨rfl, rfl, rfl⟩ := hq
      refine pm_ifN_eq (tgt := 42) hG dX12_seat_19 rfl (by omega) (fun q => absurd q (by omega)) (fun _ => ?_)
      refine pm_aloadn hG dX12_seat_22 rfl ?_
      refine pm_iloadn hG dX12_seat_23 rfl ?_
      refine pm_top (v := nI k4) ek4 ?_
      refine pm_bipush (v := nI 11) hG dX12_seat_24 (by decide) ?_
      refine pm_callV (As := [.int (nI k4), .int (nI 11)]) (rest := []) hG hR dX12_seat_26 (lkX12_72 _ rfl) okV_X12_man rfl rfl (m_man (d := 1) (e := 14 * k4 + 121) (by omega) (by omega) (by omega)) rfl rfl hdd (Nat.le_refl _) (Nat.le_refl _) (by decide) (pm_ki (fun v7 σ' cnt' hq => ?_))
      obtain ⟨rfl, rfl, rfl⟩ := hq
      obtain ⟨k8, hk8, ek8⟩ := KI.nat hn (show kd (14 * k4 + 121) = (1, 2, true) from (kd_P (k := k4) (c := 11) (by omega) (by omega) (by decide)))
      refine pm_top (v := nI k8) ek8 ?_
      refine pm_iconst (v := nI 1) hG dX12_seat_29 (by decide) ?_
      refine pm_icmpN_ne (tgt := 37) hG dX12_seat_30 rfl (by omega) (by omega) (fun c9 => ?_) (fun c9 => ?_)
      · refine pm_iconst (v := nI 0) hG dX12_seat_37 (by decide) ?_
        refine pm_iloadn hG dX12_seat_38 rfl ?_
        refine pm_icmp_ne (tgt := 48) hG dX12_seat_39 rfl (fun c10 => ?_) (fun c10 => ?_)
        · refine pm_iloadn hG dX12_seat_48 rfl ?_
          refine pm_if_eq (tgt := 67) hG dX12_seat_49 rfl (fun c11 => ?_) (fun c11 => ?_)
          · refine pm_iloadn hG dX12_seat_67 rfl ?_
            refine pm_top (v := nI 0) c11 ?_
            refine pm_ifN_eq (tgt := 82) hG dX12_seat_68 rfl (by omega) (fun _ => ?_) (fun q => absurd q (by omega))
            refine pm_aloadn hG dX12_seat_82 rfl ?_
            refine pm_iloadn hG dX12_seat_83 rfl ?_
            refine pm_top (v := nI k4) ek4 ?_
            refine pm_callV (As := [.int (nI k4)]) (rest := []) hG hR dX12_seat_84 (lkX12_107 _ rfl) okV_X12_leaves rfl rfl (m_leaves (d := 1) (by decide) hn hr hz (by omega)) rfl rfl hdd (Nat.le_refl _) (Nat.le_refl _) (by decide) (pm_kv (fun σ' cnt' hq => ?_))
            obtain ⟨⟨n_13, rfl, hn13, hr13⟩, rfl⟩ := hq
            refine pm_aloadn hG dX12_seat_87 rfl ?_
            obtain ⟨k14, hk14, ek14⟩ := KI.nat hn13 (show kd 2 = (1, 21, true) by decide)
            refine pm_callV (As := []) (rest := []) hG hR dX12_seat_88 (lkX12_243 _ rfl) okV_X12_seatedMany rfl rfl (m_seatedMany (d := 1) (by decide) hn13 ek14 (by omega)) rfl rfl hdd (Nat.le_refl _) (Nat.le_refl _) (by decide) (pm_ki (fun v15 σ' cnt' hq => ?_))
            obtain ⟨rfl, rfl, rfl⟩ := hq
            have h16 : stN n_13 k14 ≤ 9 := Nat.le_trans (stN_mono (by omega)) hr13.2.2.1.1
            exact pm_iret hG hF dX12_seat_91 rfl (Nat.le_refl _) (Nat.le_refl _) ⟨_, rfl, ⟨_, _, _, rfl, hn13, hr13⟩, rfl⟩
          · refine pm_aloadn hG dX12_seat_52 rfl ?_
            refine pm_callV (As := []) (rest := []) hG hR dX12_seat_53 (lkX12_243 _ rfl) okV_X12_seatedMany rfl rfl (m_seatedMany (d := 1) (by decide) hn ek1 (by omega)) rfl rfl hdd (Nat.le_refl _) (Nat.le_refl _) (by decide) (pm_ki (fun v17 σ' cnt' hq => ?_))
            obtain ⟨rfl, rfl, rfl⟩ := hq
            have h18 : stN n k1 ≤ 9 := Nat.le_trans (stN_mono (by omega)) hr.2.2.1.1
            refine pm_bipush (v := nI 9) hG dX12_seat_56 (by decide) ?_
            refine pm_icmpN_ne (tgt := 67) hG dX12_seat_58 rfl (by omega) (by omega) (fun c19 => ?_) (fun c19 => ?_)
            · refine pm_iloadn hG dX12_seat_67 rfl ?_
              refine pm_if_eq (tgt := 82) hG dX12_seat_68 rfl (fun q => absurd q c11) (fun _ => ?_)
              refine pm_aloadn hG dX12_seat_71 rfl ?_
              refine pm_iloadn hG dX12_seat_72 rfl ?_
              refine pm_top (v := nI k4) ek4 ?_
              refine pm_bipush (v := nI 11) hG dX12_seat_73 (by decide) ?_
              refine pm_iconst (v := nI 1) hG dX12_seat_75 (by decide) ?_
              refine pm_callV (As := [.int (nI k4), .int (nI 11), .int (nI 1)]) (rest := []) hG hR dX12_seat_76 (lkX12_97 _ rfl) okV_X12_sets rfl rfl (m_sets (d := 1) (e := 14 * k4 + 121) (by omega) (by omega) (by omega)) rfl rfl hdd (Nat.le_refl _) (Nat.le_refl _) (by decide) (pm_kv (fun σ' cnt' hq => ?_))
              obtain ⟨rfl, rfl⟩ := hq
              obtain ⟨n_20, en_20⟩ : ∃ f : Nat → Int32, f = upd n (14 * k4 + 121) (nI 1) := ⟨_, rfl⟩
              rw [← en_20]
              have hnn_20 := KI.w en_20 hn (okv_n (show kd (14 * k4 + 121) = (1, 2, true) from (kd_P (k := k4) (c := 11) (by omega) (by omega) (by decide))) (by omega))
              have hrn_20 := NRx.seat (p := k4) (c := k1) en_20 hr ek1 (by omega) (by omega)
              have e21 : n_20 2 = nI k1 := by rw [en_20, pk_un (by omega)]; exact ek1
              have e22 : n_20 (14 * k4 + 119) = (-1) := by rw [en_20, pk_un (by omega)]; exact ek5
              have e23 : n_20 (14 * k4 + 121) = nI 1 := by rw [en_20, pk_us]
              refine pm_goto (tgt := 87) hG dX12_seat_79 rfl ?_
              refine pm_aloadn hG dX12_seat_87 rfl ?_
              refine pm_callV (As := []) (rest := []) hG hR dX12_seat_88 (lkX12_243 _ rfl) okV_X12_seatedMany rfl rfl (m_seatedMany (d := 1) (by decide) hnn_20 e21 (by omega)) rfl rfl hdd (Nat.le_refl _) (Nat.le_refl _) (by decide) (pm_ki (fun v24 σ' cnt' hq => ?_))
              obtain ⟨rfl, rfl, rfl⟩ := hq
              have h25 : stN n_20 k1 ≤ 9 := Nat.le_trans (stN_mono (by omega)) hrn_20.2.2.1.1
              exact pm_iret hG hF dX12_seat_91 rfl (Nat.le_refl _) (Nat.le_refl _) ⟨_, rfl, ⟨_, _, _, rfl, hnn_20, hrn_20⟩, rfl⟩
            · refine pm_aloadn hG dX12_seat_61 rfl ?_
              refine pm_iconst (v := nI 4) hG dX12_seat_62 (by decide) ?_
              refine pm_callV (As := [.int (nI 4)]) (rest := []) hG hR dX12_seat_63 (lkX12_80 _ rfl) okV_X12_finds rfl rfl (m_finds (d := 1) (by decide) hn hz (by omega)) rfl rfl hdd (Nat.le_refl _) (Nat.le_refl _) (by decide) (pm_ki (fun v26 σ' cnt' hq => ?_))
              obtain ⟨⟨I27, A27, rfl⟩, rfl, fv26⟩ := hq
              exact pm_iret hG hF dX12_seat_66 rfl (Nat.le_refl _) (Nat.le_refl _) ⟨_, rfl, ⟨_, _, _, rfl, hn, hr⟩, rfl⟩
        · refine pm_aloadn hG dX12_seat_42 rfl ?_
          refine pm_iconst (v := nI 3) hG dX12_seat_43 (by decide) ?_
          refine pm_callV (As := [.int (nI 3)]) (rest := []) hG hR dX12_seat_44 (lkX12_80 _ rfl) okV_X12_finds rfl rfl (m_finds (d := 1) (by decide) hn hz (by omega)) rfl rfl hdd (Nat.le_refl _) (Nat.le_refl _) (by decide) (pm_ki (fun v28 σ' cnt' hq => ?_))
          obtain ⟨⟨I29, A29, rfl⟩, rfl, fv28⟩ := hq
          exact pm_iret hG hF dX12_seat_47 rfl (Nat.le_refl _) (Nat.le_refl _) ⟨_, rfl, ⟨_, _, _, rfl, hn, hr⟩, rfl⟩
      · refine pm_iconst (v := nI 1) hG dX12_seat_33 (by decide) ?_
        refine pm_goto (tgt := 38) hG dX12_seat_34 rfl ?_
        refine pm_iloadn hG dX12_seat_38 rfl ?_
        refine pm_icmp_ne (tgt := 48) hG dX12_seat_39 rfl (fun c30 => ?_) (fun c30 => ?_)
        · refine pm_iloadn hG dX12_seat_48 rfl ?_
          refine pm_if_eq (tgt := 67) hG dX12_seat_49 rfl (fun c31 => ?_) (fun c31 => ?_)
          · refine pm_iloadn hG dX12_seat_67 rfl ?_
            refine pm_top (v := nI 0) c31 ?_
            refine pm_ifN_eq (tgt := 82) hG dX12_seat_68 rfl (by omega) (fun _ => ?_) (fun q => absurd q (by omega))
            refine pm_aloadn hG dX12_seat_82 rfl ?_
            refine pm_iloadn hG dX12_seat_83 rfl ?_
            refine pm_top (v := nI k4) ek4 ?_
            refine pm_callV (As := [.int (nI k4)]) (rest := []) hG hR dX12_seat_84 (lkX12_107 _ rfl) okV_X12_leaves rfl rfl (m_leaves (d := 1) (by decide) hn hr hz (by omega)) rfl rfl hdd (Nat.le_refl _) (Nat.le_refl _) (by decide) (pm_kv (fun σ' cnt' hq => ?_))
            obtain ⟨⟨n_33, rfl, hn33, hr33⟩, rfl⟩ := hq
            refine pm_aloadn hG dX12_seat_87 rfl ?_
            obtain ⟨k34, hk34, ek34⟩ := KI.nat hn33 (show kd 2 = (1, 21, true) by decide)
            refine pm_callV (As := []) (rest := []) hG hR dX12_seat_88 (lkX12_243 _ rfl) okV_X12_seatedMany rfl rfl (m_seatedMany (d := 1) (by decide) hn33 ek34 (by omega)) rfl rfl hdd (Nat.le_refl _) (Nat.le_refl _) (by decide) (pm_ki (fun v35 σ' cnt' hq => ?_))
            obtain ⟨rfl, rfl, rfl⟩ := hq
            have h36 : stN n_33 k34 ≤ 9 := Nat.le_trans (stN_mono (by omega)) hr33.2.2.1.1
            exact pm_iret hG hF dX12_seat_91 rfl (Nat.le_refl _) (Nat.le_refl _) ⟨_, rfl, ⟨_, _, _, rfl, hn33, hr33⟩, rfl⟩
          · refine pm_aloadn hG dX12_seat_52 rfl ?_
            refine pm_callV (As := []) (rest := []) hG hR dX12_seat_53 (lkX12_243 _ rfl) okV_X12_seatedMany rfl rfl (m_seatedMany (d := 1) (by decide) hn ek1 (by omega)) rfl rfl hdd (Nat.le_refl _) (Nat.le_refl _) (by decide) (pm_ki (fun v37 σ' cnt' hq => ?_))
            obtain ⟨rfl, rfl, rfl⟩ := hq
            have h38 : stN n k1 ≤ 9 := Nat.le_trans (stN_mono (by omega)) hr.2.2.1.1
            refine pm_bipush (v := nI 9) hG dX12_seat_56 (by decide) ?_
            refine pm_icmpN_ne (tgt := 67) hG dX12_seat_58 rfl (by omega) (by omega) (fun c39 => ?_) (fun c39 => ?_)
            · refine pm_iloadn hG dX12_seat_67 rfl ?_
              refine pm_if_eq (tgt := 82) hG dX12_seat_68 rfl (fun q => absurd q c31) (fun _ => ?_)
              refine pm_aloadn hG dX12_seat_71 rfl ?_
              refine pm_iloadn hG dX12_seat_72 rfl ?_
              refine pm_top (v := nI k4) ek4 ?_
              refine pm_bipush (v := nI 11) hG dX12_seat_73 (by decide) ?_
              refine pm_iconst (v := nI 1) hG dX12_seat_75 (by decide) ?_
              refine pm_callV (As := [.int (nI k4), .int (nI 11), .int (nI 1)]) (rest := []) hG hR dX12_seat_76 (lkX12_97 _ rfl) okV_X12_sets rfl rfl (m_sets (d := 1) (e := 14 * k4 + 121) (by omega) (by omega) (by omega)) rfl rfl hdd (Nat.le_refl _) (Nat.le_refl _) (by decide) (pm_kv (fun σ' cnt' hq => ?_))
              obtain ⟨rfl, rfl⟩ := hq
              obtain ⟨n_40, en_40⟩ : ∃ f : Nat → Int32, f = upd n (14 * k4 + 121) (nI 1) := ⟨_, rfl⟩
              rw [← en_40]
              have hnn_40 := KI.w en_40 hn (okv_n (show kd (14 * k4 + 121) = (1, 2, true) from (kd_P (k := k4) (c := 11) (by omega) (by omega) (by decide))) (by omega))
              have hrn_40 := NRx.seat (p := k4) (c := k1) en_40 hr ek1 (by omega) (by omega)
              have e41 : n_40 2 = nI k1 := by rw [en_40, pk_un (by omega)]; exact ek1
              have e42 : n_40 (14 * k4 + 119) = (-1) := by rw [en_40, pk_un (by omega)]; exact ek5
              have e43 : n_40 (14 * k4 + 121) = nI 1 := by rw [en_40, pk_us]
              refine pm_goto (tgt := 87) hG dX12_seat_79 rfl ?_
              refine pm_aloadn hG dX12_seat_87 rfl ?_
              refine pm_callV (As := []) (rest := []) hG hR dX12_seat_88 (lkX12_243 _ rfl) okV_X12_seatedMany rfl rfl (m_seatedMany (d := 1) (by decide) hnn_40 e41 (by omega)) rfl rfl hdd (Nat.le_refl _) (Nat.le_refl _) (by decide) (pm_ki (fun v44 σ' cnt' hq => ?_))
              obtain ⟨rfl, rfl, rfl⟩ := hq
              have h45 : stN n_40 k1 ≤ 9 := Nat.le_trans (stN_mono (by omega)) hrn_40.2.2.1.1
              exact pm_iret hG hF dX12_seat_91 rfl (Nat.le_refl _) (Nat.le_refl _) ⟨_, rfl, ⟨_, _, _, rfl, hnn_40, hrn_40⟩, rfl⟩
            · refine pm_aloadn hG dX12_seat_61 rfl ?_
              refine pm_iconst (v := nI 4) hG dX12_seat_62 (by decide) ?_
              refine pm_callV (As := [.int (nI 4)]) (rest := []) hG hR dX12_seat_63 (lkX12_80 _ rfl) okV_X12_finds rfl rfl (m_finds (d := 1) (by decide) hn hz (by omega)) rfl rfl hdd (Nat.le_refl _) (Nat.le_refl _) (by decide) (pm_ki (fun v46 σ' cnt' hq => ?_))
              obtain ⟨⟨I47, A47, rfl⟩, rfl, fv46⟩ := hq
              exact pm_iret hG hF dX12_seat_66 rfl (Nat.le_refl _) (Nat.le_refl _) ⟨_, rfl, ⟨_, _, _, rfl, hn, hr⟩, rfl⟩
        · refine pm_aloadn hG dX12_seat_42 rfl ?_
          refine pm_iconst (v := nI 3) hG dX12_seat_43 (by decide) ?_
          refine pm_callV (As := [.int (nI 3)]) (rest := []) hG hR dX12_seat_44 (lkX12_80 _ rfl) okV_X12_finds rfl rfl (m_finds (d := 1) (by decide) hn hz (by omega)) rfl rfl hdd (Nat.le_refl _) (Nat.le_refl _) (by decide) (pm_ki (fun v48 σ' cnt' hq => ?_))
          obtain ⟨⟨I49, A49, rfl⟩, rfl, fv48⟩ := hq
          exact pm_iret hG hF dX12_seat_47 rfl (Nat.le_refl _) (Nat.le_refl _) ⟨_, rfl, ⟨_, _, _, rfl, hn, hr⟩, rfl⟩
    · refine pm_callV (As := [.int (nI k4)]) (rest := []) hG hR dX12_seat_16 (lkX12_101 _ rfl) okV_X12_lives rfl rfl (m_lives0 (d := 1) (by decide) (by omega) (by omega : 14 * k4 + 119 = 14 * k4 + 119) ek5 (by omega)) rfl rfl hdd (Nat.le_refl _) (Nat.le_refl _) (by decide) (pm_ki (fun v50 σ' cnt' hq => ?_))
      obtain ⟨rfl, rfl, rfl⟩ := hq
      refine pm_ifN_eq (tgt := 42) hG dX12_seat_19 rfl (by omega) (fun _ => ?_) (fun q => absurd q (by omega))
      refine pm_aloadn hG dX12_seat_42 rfl ?_
      refine pm_iconst (v := nI 3) hG dX12_seat_43 (by decide) ?_
      refine pm_callV (As := [.int (nI 3)]) (rest := []) hG hR dX12_seat_44 (lkX12_80 _ rfl) okV_X12_finds rfl rfl (m_finds (d := 1) (by decide) hn hz (by omega)) rfl rfl hdd (Nat.le_refl _) (Nat.le_refl _) (by decide) (pm_ki (fun v51 σ' cnt' hq => ?_))
      obtain ⟨⟨I52, A52, rfl⟩, rfl, fv51⟩ := hq
      exact pm_iret hG hF dX12_seat_47 rfl (Nat.le_refl _) (Nat.le_refl _) ⟨_, rfl, ⟨_, _, _, rfl, hn, hr⟩, rfl⟩
  · refine pm_ifN_ne (tgt := 14) hG dX12_seat_5 rfl (by omega) (fun q => absurd q (by omega)) (fun _ => ?_)
    refine pm_aloadn hG dX12_seat_8 rfl ?_
    refine pm_iconst (v := nI 1) hG dX12_seat_9 (by decide) ?_
    refine pm_callV (As := [.int (nI 1)]) (rest := []) hG hR dX12_seat_10 (lkX12_80 _ rfl) okV_X12_finds rfl rfl (m_finds (d := 1) (by decide) hn hz (by omega)) rfl rfl hdd (Nat.le_refl _) (Nat.le_refl _) (by decide) (pm_ki (fun v53 σ' cnt' hq => ?_))
    obtain ⟨⟨I54, A54, rfl⟩, rfl, fv53⟩ := hq
    exact pm_iret hG hF dX12_seat_13 rfl (Nat.le_refl _) (Nat.le_refl _) ⟨_, rfl, ⟨_, _, _, rfl, hn, hr⟩, rfl⟩
