set_option maxRecDepth 100000 in
set_option maxHeartbeats 4000000 in
theorem m_open {d B cnt p0 t0 : Nat} {σ : pm_S} {I : Nat → Int32} {A : Nat → Nat → Int32} {n k z : Nat → Int32} {ac wt pl im : Int32} {y : Nat → Int32} {za : Int32} (hdd : 4 ≤ d) (hn : KI n) (hr : NR n) (hz : SZ z)  : pm_met mX12_open d 0 0 B [.ref (B + 54), .int za] cnt (pm_mid σ (md_L B I A n k z ac wt pl (nI p0) (nI t0) im y)) (pm_Qi (fun v σ' cnt' => (∃ (I' : Nat → Int32) (A' : Nat → Nat → Int32) (n' : Nat → Int32), σ' = pm_mid σ (md_L B I' A' n' k z ac wt pl (nI p0) (nI t0) im y) ∧ KI n' ∧ NR n') ∧ cnt = cnt')) := by
  refine pm_enter 2 (by decide) (Nat.le_of_ble_eq_true rfl) rfl (fun G hG hR hF => ?_)
  refine pm_aloadn hG dX12_open_0 rfl ?_
  refine pm_iloadn hG dX12_open_1 rfl ?_
  obtain ⟨k1, hk1, ek1⟩ := KI.nat hn (show kd 5 = (1, 41, true) by decide)
  refine pm_callV (As := [.int za]) (rest := []) hG hR dX12_open_2 (lkX12_211 _ rfl) okV_X12_isLetter rfl rfl (m_isLetter (d := 3) (by decide) ek1 (by omega)) rfl rfl hdd (Nat.le_refl _) (Nat.le_refl _) (by decide) (pm_ki (fun v2 σ' cnt' hq => ?_))
  obtain ⟨hq, rfl, rfl⟩ := hq
  rcases hq with ⟨rfl, k4, hk4, ek4⟩ | rfl
  · refine pm_ifN_ne (tgt := 14) hG dX12_open_5 rfl (by omega) (fun _ => ?_) (fun q => absurd q (by omega))
    refine pm_aloadn hG dX12_open_14 rfl ?_
    refine pm_iloadn hG dX12_open_15 rfl ?_
    refine pm_top (v := nI k4) ek4 ?_
    refine pm_iconst (v := nI 4) hG dX12_open_16 (by decide) ?_
    refine pm_callV (As := [.int (nI k4), .int (nI 4)]) (rest := []) hG hR dX12_open_17 (lkX12_199 _ rfl) okV_X12_of rfl rfl (m_of (d := 3) (e := 12 * k4 + 1294) (by omega) (by omega) (by omega)) rfl rfl hdd (Nat.le_refl _) (Nat.le_refl _) (by decide) (pm_ki (fun v5 σ' cnt' hq => ?_))
    obtain ⟨rfl, rfl, rfl⟩ := hq
    rcases KI.opt hn (show kd (12 * k4 + 1294) = (2, 20, true) from (kd_E (k := k4) (c := 4) (by omega) (by omega) (by decide))) with ek6 | ⟨k6, hk6, ek6⟩
    · refine pm_top (v := (-1)) ek6 ?_
      refine pm_istoreXn (loc' := [some (.ref (B + 54)), some (.int za), some (.int (-1)), none]) hG dX12_open_20 (by decide) (pm_c1b rfl) rfl ?_
      refine pm_iloadn hG dX12_open_21 rfl ?_
      refine pm_if_lt (tgt := 75) hG dX12_open_22 rfl (fun _ => ?_) (fun q => absurd q (by decide))
      refine pm_aloadn hG dX12_open_75 rfl ?_
      refine pm_iconst (v := nI 3) hG dX12_open_76 (by decide) ?_
      refine pm_callV (As := [.int (nI 3)]) (rest := []) hG hR dX12_open_77 (lkX12_80 _ rfl) okV_X12_finds rfl rfl (m_finds (d := 3) (by decide) hn hz (by omega)) rfl rfl hdd (Nat.le_refl _) (Nat.le_refl _) (by decide) (pm_ki (fun v7 σ' cnt' hq => ?_))
      obtain ⟨⟨I8, A8, rfl⟩, rfl, fv7⟩ := hq
      exact pm_iret hG hF dX12_open_80 rfl (Nat.le_refl _) (Nat.le_refl _) ⟨_, rfl, ⟨_, _, _, rfl, hn, hr⟩, rfl⟩
    · refine pm_top (v := nI k6) ek6 ?_
      refine pm_istoreXn (loc' := [some (.ref (B + 54)), some (.int za), some (.int (nI k6)), none]) hG dX12_open_20 (by decide) (pm_c1b rfl) rfl ?_
      refine pm_iloadn hG dX12_open_21 rfl ?_
      refine pm_ifN_lt hG dX12_open_22 rfl (by omega) ?_
      refine pm_aloadn hG dX12_open_25 rfl ?_
      refine pm_iloadn hG dX12_open_26 rfl ?_
      refine pm_top (v := nI k4) ek4 ?_
      refine pm_iconst (v := nI 5) hG dX12_open_27 (by decide) ?_
      refine pm_callV (As := [.int (nI k4), .int (nI 5)]) (rest := []) hG hR dX12_open_28 (lkX12_199 _ rfl) okV_X12_of rfl rfl (m_of (d := 3) (e := 12 * k4 + 1295) (by omega) (by omega) (by omega)) rfl rfl hdd (Nat.le_refl _) (Nat.le_refl _) (by decide) (pm_ki (fun v9 σ' cnt' hq => ?_))
      obtain ⟨rfl, rfl, rfl⟩ := hq
      refine pm_gen (fun x10 ex10 => ?_)
      refine pm_aloadn hG dX12_open_31 rfl ?_
      refine pm_getf hG dX12_open_32 (flX12_7 _ rfl) rfl rfl ?_
      refine pm_bipush (v := nI 8) hG dX12_open_35 (by decide) ?_
      refine pm_ialdN hG dX12_open_37 rfl (by decide) (by omega) ?_
      obtain ⟨k11, hk11, ek11⟩ := KI.nat hn (show kd 8 = (1, 2001, false) by decide)
      refine pm_top (v := nI k11) ek11 ?_
      refine pm_icmp_gt (tgt := 75) hG dX12_open_38 rfl (fun c12 => ?_) (fun c12 => ?_)
      · refine pm_aloadn hG dX12_open_75 rfl ?_
        refine pm_iconst (v := nI 3) hG dX12_open_76 (by decide) ?_
        refine pm_callV (As := [.int (nI 3)]) (rest := []) hG hR dX12_open_77 (lkX12_80 _ rfl) okV_X12_finds rfl rfl (m_finds (d := 3) (by decide) hn hz (by omega)) rfl rfl hdd (Nat.le_refl _) (Nat.le_refl _) (by decide) (pm_ki (fun v13 σ' cnt' hq => ?_))
        obtain ⟨⟨I14, A14, rfl⟩, rfl, fv13⟩ := hq
        exact pm_iret hG hF dX12_open_80 rfl (Nat.le_refl _) (Nat.le_refl _) ⟨_, rfl, ⟨_, _, _, rfl, hn, hr⟩, rfl⟩
      · refine pm_aloadn hG dX12_open_41 rfl ?_
        refine pm_iloadn hG dX12_open_42 rfl ?_
        refine pm_top (v := nI k4) ek4 ?_
        refine pm_bipush (v := nI 6) hG dX12_open_43 (by decide) ?_
        refine pm_callV (As := [.int (nI k4), .int (nI 6)]) (rest := []) hG hR dX12_open_45 (lkX12_199 _ rfl) okV_X12_of rfl rfl (m_of (d := 3) (e := 12 * k4 + 1296) (by omega) (by omega) (by omega)) rfl rfl hdd (Nat.le_refl _) (Nat.le_refl _) (by decide) (pm_ki (fun v15 σ' cnt' hq => ?_))
        obtain ⟨rfl, rfl, rfl⟩ := hq
        refine pm_gen (fun x16 ex16 => ?_)
        refine pm_if_ge (tgt := 75) hG dX12_open_48 rfl (fun c17 => ?_) (fun c17 => ?_)
        · obtain ⟨k18, hk18, ek18⟩ := nI_of (Int32.not_lt.mpr c17)
          refine pm_aloadn hG dX12_open_75 rfl ?_
          refine pm_iconst (v := nI 3) hG dX12_open_76 (by decide) ?_
          refine pm_callV (As := [.int (nI 3)]) (rest := []) hG hR dX12_open_77 (lkX12_80 _ rfl) okV_X12_finds rfl rfl (m_finds (d := 3) (by decide) hn hz (by omega)) rfl rfl hdd (Nat.le_refl _) (Nat.le_refl _) (by decide) (pm_ki (fun v19 σ' cnt' hq => ?_))
          obtain ⟨⟨I20, A20, rfl⟩, rfl, fv19⟩ := hq
          exact pm_iret hG hF dX12_open_80 rfl (Nat.le_refl _) (Nat.le_refl _) ⟨_, rfl, ⟨_, _, _, rfl, hn, hr⟩, rfl⟩
        · refine pm_aloadn hG dX12_open_51 rfl ?_
          refine pm_iloadn hG dX12_open_52 rfl ?_
          rcases KI.opt hn (show kd (14 * k6 + 119) = (2, 2001, false) from (kd_P (k := k6) (c := 9) (by omega) (by omega) (by decide))) with ek21 | ⟨k21, hk21, ek21⟩
          · refine pm_callV (As := [.int (nI k6)]) (rest := []) hG hR dX12_open_53 (lkX12_101 _ rfl) okV_X12_lives rfl rfl (m_lives1 (d := 3) (by decide) (by omega) (by omega : 14 * k6 + 119 = 14 * k6 + 119) ek21) rfl rfl hdd (Nat.le_refl _) (Nat.le_refl _) (by decide) (pm_ki (fun v22 σ' cnt' hq => ?_))
            obtain ⟨rfl, rfl, rfl⟩ := hq
            refine pm_ifN_eq (tgt := 75) hG dX12_open_56 rfl (by omega) (fun q => absurd q (by omega)) (fun _ => ?_)
            refine pm_aloadn hG dX12_open_59 rfl ?_
            refine pm_iloadn hG dX12_open_60 rfl ?_
            refine pm_iconst (v := nI 4) hG dX12_open_61 (by decide) ?_
            refine pm_callV (As := [.int (nI k6), .int (nI 4)]) (rest := []) hG hR dX12_open_62 (lkX12_72 _ rfl) okV_X12_man rfl rfl (m_man (d := 3) (e := 14 * k6 + 114) (by omega) (by omega) (by omega)) rfl rfl hdd (Nat.le_refl _) (Nat.le_refl _) (by decide) (pm_ki (fun v23 σ' cnt' hq => ?_))
            obtain ⟨rfl, rfl, rfl⟩ := hq
            rcases KI.opt hn (show kd (14 * k6 + 114) = (2, 10, false) from (kd_P (k := k6) (c := 4) (by omega) (by omega) (by decide))) with ek24 | ⟨k24, hk24, ek24⟩
            · refine pm_top (v := (-1)) ek24 ?_
              refine pm_aloadn hG dX12_open_65 rfl ?_
              refine pm_iloadn hG dX12_open_66 rfl ?_
              refine pm_top (v := nI k4) ek4 ?_
              refine pm_bipush (v := nI 10) hG dX12_open_67 (by decide) ?_
              refine pm_callV (As := [.int (nI k4), .int (nI 10)]) (rest := [.int (-1)]) hG hR dX12_open_69 (lkX12_199 _ rfl) okV_X12_of rfl rfl (m_of (d := 3) (e := 12 * k4 + 1300) (by omega) (by omega) (by omega)) rfl rfl hdd (Nat.le_refl _) (Nat.le_refl _) (Nat.le_of_ble_eq_true rfl) (pm_ki (fun v25 σ' cnt' hq => ?_))
              obtain ⟨rfl, rfl, rfl⟩ := hq
              obtain ⟨k26, hk26, ek26⟩ := KI.nat hn (show kd (12 * k4 + 1300) = (1, 10, false) from (kd_E (k := k4) (c := 10) (by omega) (by omega) (by decide)))
              refine pm_top (v := nI k26) ek26 ?_
              refine pm_icmp_eq (tgt := 81) hG dX12_open_72 rfl (fun q => absurd q ((fun q => nI_m1 (by omega) q.symm))) (fun _ => ?_)
              refine pm_aloadn hG dX12_open_75 rfl ?_
              refine pm_iconst (v := nI 3) hG dX12_open_76 (by decide) ?_
              refine pm_callV (As := [.int (nI 3)]) (rest := []) hG hR dX12_open_77 (lkX12_80 _ rfl) okV_X12_finds rfl rfl (m_finds (d := 3) (by decide) hn hz (by omega)) rfl rfl hdd (Nat.le_refl _) (Nat.le_refl _) (by decide) (pm_ki (fun v27 σ' cnt' hq => ?_))
              obtain ⟨⟨I28, A28, rfl⟩, rfl, fv27⟩ := hq
              exact pm_iret hG hF dX12_open_80 rfl (Nat.le_refl _) (Nat.le_refl _) ⟨_, rfl, ⟨_, _, _, rfl, hn, hr⟩, rfl⟩
            · refine pm_top (v := nI k24) ek24 ?_
              refine pm_aloadn hG dX12_open_65 rfl ?_
              refine pm_iloadn hG dX12_open_66 rfl ?_
              refine pm_top (v := nI k4) ek4 ?_
              refine pm_bipush (v := nI 10) hG dX12_open_67 (by decide) ?_
              refine pm_callV (As := [.int (nI k4), .int (nI 10)]) (rest := [.int (nI k24)]) hG hR dX12_open_69 (lkX12_199 _ rfl) okV_X12_of rfl rfl (m_of (d := 3) (e := 12 * k4 + 1300) (by omega) (by omega) (by omega)) rfl rfl hdd (Nat.le_refl _) (Nat.le_refl _) (Nat.le_of_ble_eq_true rfl) (pm_ki (fun v29 σ' cnt' hq => ?_))
              obtain ⟨rfl, rfl, rfl⟩ := hq
              obtain ⟨k30, hk30, ek30⟩ := KI.nat hn (show kd (12 * k4 + 1300) = (1, 10, false) from (kd_E (k := k4) (c := 10) (by omega) (by omega) (by decide)))
              refine pm_top (v := nI k30) ek30 ?_
              refine pm_icmpN_eq (tgt := 81) hG dX12_open_72 rfl (by omega) (by omega) (fun c31 => ?_) (fun c31 => ?_)
              · refine pm_aloadn hG dX12_open_81 rfl ?_
                refine pm_aloadn hG dX12_open_82 rfl ?_
                refine pm_iconst (v := nI 1) hG dX12_open_83 (by decide) ?_
                refine pm_aloadn hG dX12_open_84 rfl ?_
                refine pm_getf hG dX12_open_85 (flX12_7 _ rfl) rfl rfl ?_
                refine pm_bipush (v := nI 8) hG dX12_open_88 (by decide) ?_
                refine pm_ialdN hG dX12_open_90 rfl (by decide) (by omega) ?_
                refine pm_top (v := nI k11) ek11 ?_
                refine pm_aloadn hG dX12_open_91 rfl ?_
                refine pm_iloadn hG dX12_open_92 rfl ?_
                refine pm_callV (As := [.int (nI k6)]) (rest := [.int (nI k11), .int (nI 1), .ref (B + 54), .ref (B + 54)]) hG hR dX12_open_93 (lkX12_104 _ rfl) okV_X12_knownTo rfl rfl (m_knownTo (d := 3) (by decide) hn hz (by omega)) rfl rfl hdd (Nat.le_refl _) (Nat.le_refl _) (Nat.le_of_ble_eq_true rfl) (pm_ki (fun v32 σ' cnt' hq => ?_))
                obtain ⟨⟨I33, A33, rfl⟩, rfl⟩ := hq
                refine pm_callV (As := [.int (nI 1), .int (nI k11), .int v32]) (rest := [.ref (B + 54)]) hG hR dX12_open_96 (lkX12_195 _ rfl) okV_X12_inForce rfl rfl (m_inForce (d := 3) (by decide) hn hz) rfl rfl hdd (Nat.le_refl _) (Nat.le_refl _) (Nat.le_of_ble_eq_true rfl) (pm_ki (fun v34 σ' cnt' hq => ?_))
                obtain ⟨rfl, rfl, rv34⟩ := hq
                rcases rv34 with rfl | ⟨k36, hk36, rfl⟩
                · refine pm_iloadn hG dX12_open_99 rfl ?_
                  refine pm_iloadn hG dX12_open_100 rfl ?_
                  refine pm_top (v := nI k4) ek4 ?_
                  refine pm_aloadn hG dX12_open_101 rfl ?_
                  refine pm_getf hG dX12_open_102 (flX12_7 _ rfl) rfl rfl ?_
                  refine pm_bipush (v := nI 8) hG dX12_open_105 (by decide) ?_
                  refine pm_ialdN hG dX12_open_107 rfl (by decide) (by omega) ?_
                  refine pm_top (v := nI k11) ek11 ?_
                  refine pm_callV (As := [.int (-1), .int (nI k6), .int (nI k4), .int (nI k11)]) (rest := []) hG hR dX12_open_108 (lkX12_214 _ rfl) okV_X12_comesTo rfl rfl (m_comesTo_m_n20_n40 (d := 3) (by decide) hn hr hz (by omega) (by omega)) rfl rfl hdd (Nat.le_refl _) (Nat.le_refl _) (by decide) (pm_ki (fun v37 σ' cnt' hq => ?_))
                  obtain ⟨⟨I38, A38, rfl⟩, rfl⟩ := hq
                  refine pm_if_eq (tgt := 118) hG dX12_open_111 rfl (fun c39 => ?_) (fun c39 => ?_)
                  · refine pm_iconst (v := nI 0) hG dX12_open_118 (by decide) ?_
                    refine pm_istoreXn (loc' := [some (.ref (B + 54)), some (.int za), some (.int (nI k6)), some (.int (nI 0))]) hG dX12_open_119 (by decide) (pm_c1b rfl) rfl ?_
                    refine pm_aloadn hG dX12_open_120 rfl ?_
                    refine pm_iloadn hG dX12_open_121 rfl ?_
                    refine pm_top (v := nI k4) ek4 ?_
                    refine pm_bipush (v := nI 6) hG dX12_open_122 (by decide) ?_
                    refine pm_aloadn hG dX12_open_124 rfl ?_
                    refine pm_getf hG dX12_open_125 (flX12_7 _ rfl) rfl rfl ?_
                    refine pm_bipush (v := nI 8) hG dX12_open_128 (by decide) ?_
                    refine pm_ialdN hG dX12_open_130 rfl (by decide) (by omega) ?_
                    refine pm_top (v := nI k11) ek11 ?_
                    refine pm_callV (As := [.int (nI k4), .int (nI 6), .int (nI k11)]) (rest := []) hG hR dX12_open_131 (lkX12_217 _ rfl) okV_X12_writes rfl rfl (m_writes (d := 3) (e := 12 * k4 + 1296) (by omega) (by omega) (by omega)) rfl rfl hdd (Nat.le_refl _) (Nat.le_refl _) (by decide) (pm_kv (fun σ' cnt' hq => ?_))
                    obtain ⟨rfl, rfl⟩ := hq
                    obtain ⟨n_40, en_40⟩ : ∃ f : Nat → Int32, f = upd n (12 * k4 + 1296) (nI k11) := ⟨_, rfl⟩
                    rw [← en_40]
                    have hnn_40 := KI.w en_40 hn (okv_f (show kd (12 * k4 + 1296) = (0, 0, true) from (kd_E (k := k4) (c := 6) (by omega) (by omega) (by decide))))
                    have hrn_40 := NRx.opened (l := k4) en_40 hr (by rw [ek6]; exact nI_m1 (by omega)) (by omega)
                    have e41 : n_40 5 = nI k1 := by rw [en_40, pk_un (by omega)]; exact ek1
                    have e42 : n_40 (12 * k4 + 1294) = nI k6 := by rw [en_40, pk_un (by omega)]; exact ek6
                    have e43 : n_40 (12 * k4 + 1295) = x10 := by rw [en_40, pk_un (by omega)]; exact ex10
                    have e44 : n_40 8 = nI k11 := by rw [en_40, pk_un (by omega)]; exact ek11
                    have e45 : n_40 (14 * k6 + 119) = (-1) := by rw [en_40, pk_un (by omega)]; exact ek21
                    have e46 : n_40 (14 * k6 + 114) = nI k24 := by rw [en_40, pk_un (by omega)]; exact ek24
                    have e47 : n_40 (12 * k4 + 1300) = nI k30 := by rw [en_40, pk_un (by omega)]; exact ek30
                    have e48 : n_40 (12 * k4 + 1296) = nI k11 := by rw [en_40, pk_us]
                    refine pm_aloadn hG dX12_open_134 rfl ?_
                    refine pm_iloadn hG dX12_open_135 rfl ?_
                    refine pm_top (v := nI k4) ek4 ?_
                    refine pm_bipush (v := nI 7) hG dX12_open_136 (by decide) ?_
                    refine pm_iloadn hG dX12_open_138 rfl ?_
                    refine pm_callV (As := [.int (nI k4), .int (nI 7), .int (nI 0)]) (rest := []) hG hR dX12_open_139 (lkX12_217 _ rfl) okV_X12_writes rfl rfl (m_writes (d := 3) (e := 12 * k4 + 1297) (by omega) (by omega) (by omega)) rfl rfl hdd (Nat.le_refl _) (Nat.le_refl _) (by decide) (pm_kv (fun σ' cnt' hq => ?_))
                    obtain ⟨rfl, rfl⟩ := hq
                    obtain ⟨n_49, en_49⟩ : ∃ f : Nat → Int32, f = upd n_40 (12 * k4 + 1297) (nI 0) := ⟨_, rfl⟩
                    rw [← en_49]
                    have hnn_49 := KI.w en_49 hnn_40 (okv_f (show kd (12 * k4 + 1297) = (0, 0, false) from (kd_E (k := k4) (c := 7) (by omega) (by omega) (by decide))))
                    have hrn_49 := NRx.w en_49 hrn_40 (by rw [(show kd (12 * k4 + 1297) = (0, 0, false) from (kd_E (k := k4) (c := 7) (by omega) (by omega) (by decide)))])
                    have e50 : n_49 5 = nI k1 := by rw [en_49, pk_un (by omega)]; exact e41
                    have e51 : n_49 (12 * k4 + 1294) = nI k6 := by rw [en_49, pk_un (by omega)]; exact e42
                    have e52 : n_49 (12 * k4 + 1295) = x10 := by rw [en_49, pk_un (by omega)]; exact e43
                    have e53 : n_49 8 = nI k11 := by rw [en_49, pk_un (by omega)]; exact e44
                    have e54 : n_49 (14 * k6 + 119) = (-1) := by rw [en_49, pk_un (by omega)]; exact e45
                    have e55 : n_49 (14 * k6 + 114) = nI k24 := by rw [en_49, pk_un (by omega)]; exact e46
                    have e56 : n_49 (12 * k4 + 1300) = nI k30 := by rw [en_49, pk_un (by omega)]; exact e47
                    have e57 : n_49 (12 * k4 + 1296) = nI k11 := by rw [en_49, pk_un (by omega)]; exact e48
                    have e58 : n_49 (12 * k4 + 1297) = nI 0 := by rw [en_49, pk_us]
                    refine pm_iloadn hG dX12_open_142 rfl ?_
                    exact pm_iret hG hF dX12_open_143 rfl (Nat.le_refl _) (Nat.le_refl _) ⟨_, rfl, ⟨_, _, _, rfl, hnn_49, hrn_49⟩, rfl⟩
                  · refine pm_iconst (v := nI 1) hG dX12_open_114 (by decide) ?_
                    refine pm_goto (tgt := 119) hG dX12_open_115 rfl ?_
                    refine pm_istoreXn (loc' := [some (.ref (B + 54)), some (.int za), some (.int (nI k6)), some (.int (nI 1))]) hG dX12_open_119 (by decide) (pm_c1b rfl) rfl ?_
                    refine pm_aloadn hG dX12_open_120 rfl ?_
                    refine pm_iloadn hG dX12_open_121 rfl ?_
                    refine pm_top (v := nI k4) ek4 ?_
                    refine pm_bipush (v := nI 6) hG dX12_open_122 (by decide) ?_
                    refine pm_aloadn hG dX12_open_124 rfl ?_
                    refine pm_getf hG dX12_open_125 (flX12_7 _ rfl) rfl rfl ?_
                    refine pm_bipush (v := nI 8) hG dX12_open_128 (by decide) ?_
                    refine pm_ialdN hG dX12_open_130 rfl (by decide) (by omega) ?_
                    refine pm_top (v := nI k11) ek11 ?_
                    refine pm_callV (As := [.int (nI k4), .int (nI 6), .int (nI k11)]) (rest := []) hG hR dX12_open_131 (lkX12_217 _ rfl) okV_X12_writes rfl rfl (m_writes (d := 3) (e := 12 * k4 + 1296) (by omega) (by omega) (by omega)) rfl rfl hdd (Nat.le_refl _) (Nat.le_refl _) (by decide) (pm_kv (fun σ' cnt' hq => ?_))
                    obtain ⟨rfl, rfl⟩ := hq
                    obtain ⟨n_59, en_59⟩ : ∃ f : Nat → Int32, f = upd n (12 * k4 + 1296) (nI k11) := ⟨_, rfl⟩
                    rw [← en_59]
                    have hnn_59 := KI.w en_59 hn (okv_f (show kd (12 * k4 + 1296) = (0, 0, true) from (kd_E (k := k4) (c := 6) (by omega) (by omega) (by decide))))
                    have hrn_59 := NRx.opened (l := k4) en_59 hr (by rw [ek6]; exact nI_m1 (by omega)) (by omega)
                    have e60 : n_59 5 = nI k1 := by rw [en_59, pk_un (by omega)]; exact ek1
                    have e61 : n_59 (12 * k4 + 1294) = nI k6 := by rw [en_59, pk_un (by omega)]; exact ek6
                    have e62 : n_59 (12 * k4 + 1295) = x10 := by rw [en_59, pk_un (by omega)]; exact ex10
                    have e63 : n_59 8 = nI k11 := by rw [en_59, pk_un (by omega)]; exact ek11
                    have e64 : n_59 (14 * k6 + 119) = (-1) := by rw [en_59, pk_un (by omega)]; exact ek21
                    have e65 : n_59 (14 * k6 + 114) = nI k24 := by rw [en_59, pk_un (by omega)]; exact ek24
                    have e66 : n_59 (12 * k4 + 1300) = nI k30 := by rw [en_59, pk_un (by omega)]; exact ek30
                    have e67 : n_59 (12 * k4 + 1296) = nI k11 := by rw [en_59, pk_us]
                    refine pm_aloadn hG dX12_open_134 rfl ?_
                    refine pm_iloadn hG dX12_open_135 rfl ?_
                    refine pm_top (v := nI k4) ek4 ?_
                    refine pm_bipush (v := nI 7) hG dX12_open_136 (by decide) ?_
                    refine pm_iloadn hG dX12_open_138 rfl ?_
                    refine pm_callV (As := [.int (nI k4), .int (nI 7), .int (nI 1)]) (rest := []) hG hR dX12_open_139 (lkX12_217 _ rfl) okV_X12_writes rfl rfl (m_writes (d := 3) (e := 12 * k4 + 1297) (by omega) (by omega) (by omega)) rfl rfl hdd (Nat.le_refl _) (Nat.le_refl _) (by decide) (pm_kv (fun σ' cnt' hq => ?_))
                    obtain ⟨rfl, rfl⟩ := hq
                    obtain ⟨n_68, en_68⟩ : ∃ f : Nat → Int32, f = upd n_59 (12 * k4 + 1297) (nI 1) := ⟨_, rfl⟩
                    rw [← en_68]
                    have hnn_68 := KI.w en_68 hnn_59 (okv_f (show kd (12 * k4 + 1297) = (0, 0, false) from (kd_E (k := k4) (c := 7) (by omega) (by omega) (by decide))))
                    have hrn_68 := NRx.w en_68 hrn_59 (by rw [(show kd (12 * k4 + 1297) = (0, 0, false) from (kd_E (k := k4) (c := 7) (by omega) (by omega) (by decide)))])
                    have e69 : n_68 5 = nI k1 := by rw [en_68, pk_un (by omega)]; exact e60
                    have e70 : n_68 (12 * k4 + 1294) = nI k6 := by rw [en_68, pk_un (by omega)]; exact e61
                    have e71 : n_68 (12 * k4 + 1295) = x10 := by rw [en_68, pk_un (by omega)]; exact e62
                    have e72 : n_68 8 = nI k11 := by rw [en_68, pk_un (by omega)]; exact e63
                    have e73 : n_68 (14 * k6 + 119) = (-1) := by rw [en_68, pk_un (by omega)]; exact e64
                    have e74 : n_68 (14 * k6 + 114) = nI k24 := by rw [en_68, pk_un (by omega)]; exact e65
                    have e75 : n_68 (12 * k4 + 1300) = nI k30 := by rw [en_68, pk_un (by omega)]; exact e66
                    have e76 : n_68 (12 * k4 + 1296) = nI k11 := by rw [en_68, pk_un (by omega)]; exact e67
                    have e77 : n_68 (12 * k4 + 1297) = nI 1 := by rw [en_68, pk_us]
                    refine pm_iloadn hG dX12_open_142 rfl ?_
                    exact pm_iret hG hF dX12_open_143 rfl (Nat.le_refl _) (Nat.le_refl _) ⟨_, rfl, ⟨_, _, _, rfl, hnn_68, hrn_68⟩, rfl⟩
                · refine pm_iloadn hG dX12_open_99 rfl ?_
                  refine pm_iloadn hG dX12_open_100 rfl ?_
                  refine pm_top (v := nI k4) ek4 ?_
                  refine pm_aloadn hG dX12_open_101 rfl ?_
                  refine pm_getf hG dX12_open_102 (flX12_7 _ rfl) rfl rfl ?_
                  refine pm_bipush (v := nI 8) hG dX12_open_105 (by decide) ?_
                  refine pm_ialdN hG dX12_open_107 rfl (by decide) (by omega) ?_
                  refine pm_top (v := nI k11) ek11 ?_
                  refine pm_callV (As := [.int (nI k36), .int (nI k6), .int (nI k4), .int (nI k11)]) (rest := []) hG hR dX12_open_108 (lkX12_214 _ rfl) okV_X12_comesTo rfl rfl (m_comesTo_n12_n20_n40 (d := 3) (by decide) hn hr hz (by omega) (by omega) (by omega)) rfl rfl hdd (Nat.le_refl _) (Nat.le_refl _) (by decide) (pm_ki (fun v78 σ' cnt' hq => ?_))
                  obtain ⟨⟨I79, A79, rfl⟩, rfl⟩ := hq
                  refine pm_if_eq (tgt := 118) hG dX12_open_111 rfl (fun c80 => ?_) (fun c80 => ?_)
                  · refine pm_iconst (v := nI 0) hG dX12_open_118 (by decide) ?_
                    refine pm_istoreXn (loc' := [some (.ref (B + 54)), some (.int za), some (.int (nI k6)), some (.int (nI 0))]) hG dX12_open_119 (by decide) (pm_c1b rfl) rfl ?_
                    refine pm_aloadn hG dX12_open_120 rfl ?_
                    refine pm_iloadn hG dX12_open_121 rfl ?_
                    refine pm_top (v := nI k4) ek4 ?_
                    refine pm_bipush (v := nI 6) hG dX12_open_122 (by decide) ?_
                    refine pm_aloadn hG dX12_open_124 rfl ?_
                    refine pm_getf hG dX12_open_125 (flX12_7 _ rfl) rfl rfl ?_
                    refine pm_bipush (v := nI 8) hG dX12_open_128 (by decide) ?_
                    refine pm_ialdN hG dX12_open_130 rfl (by decide) (by omega) ?_
                    refine pm_top (v := nI k11) ek11 ?_
                    refine pm_callV (As := [.int (nI k4), .int (nI 6), .int (nI k11)]) (rest := []) hG hR dX12_open_131 (lkX12_217 _ rfl) okV_X12_writes rfl rfl (m_writes (d := 3) (e := 12 * k4 + 1296) (by omega) (by omega) (by omega)) rfl rfl hdd (Nat.le_refl _) (Nat.le_refl _) (by decide) (pm_kv (fun σ' cnt' hq => ?_))
                    obtain ⟨rfl, rfl⟩ := hq
                    obtain ⟨n_81, en_81⟩ : ∃ f : Nat → Int32, f = upd n (12 * k4 + 1296) (nI k11) := ⟨_, rfl⟩
                    rw [← en_81]
                    have hnn_81 := KI.w en_81 hn (okv_f (show kd (12 * k4 + 1296) = (0, 0, true) from (kd_E (k := k4) (c := 6) (by omega) (by omega) (by decide))))
                    have hrn_81 := NRx.opened (l := k4) en_81 hr (by rw [ek6]; exact nI_m1 (by omega)) (by omega)
                    have e82 : n_81 5 = nI k1 := by rw [en_81, pk_un (by omega)]; exact ek1
                    have e83 : n_81 (12 * k4 + 1294) = nI k6 := by rw [en_81, pk_un (by omega)]; exact ek6
                    have e84 : n_81 (12 * k4 + 1295) = x10 := by rw [en_81, pk_un (by omega)]; exact ex10
                    have e85 : n_81 8 = nI k11 := by rw [en_81, pk_un (by omega)]; exact ek11
                    have e86 : n_81 (14 * k6 + 119) = (-1) := by rw [en_81, pk_un (by omega)]; exact ek21
                    have e87 : n_81 (14 * k6 + 114) = nI k24 := by rw [en_81, pk_un (by omega)]; exact ek24
                    have e88 : n_81 (12 * k4 + 1300) = nI k30 := by rw [en_81, pk_un (by omega)]; exact ek30
                    have e89 : n_81 (12 * k4 + 1296) = nI k11 := by rw [en_81, pk_us]
                    refine pm_aloadn hG dX12_open_134 rfl ?_
                    refine pm_iloadn hG dX12_open_135 rfl ?_
                    refine pm_top (v := nI k4) ek4 ?_
                    refine pm_bipush (v := nI 7) hG dX12_open_136 (by decide) ?_
                    refine pm_iloadn hG dX12_open_138 rfl ?_
                    refine pm_callV (As := [.int (nI k4), .int (nI 7), .int (nI 0)]) (rest := []) hG hR dX12_open_139 (lkX12_217 _ rfl) okV_X12_writes rfl rfl (m_writes (d := 3) (e := 12 * k4 + 1297) (by omega) (by omega) (by omega)) rfl rfl hdd (Nat.le_refl _) (Nat.le_refl _) (by decide) (pm_kv (fun σ' cnt' hq => ?_))
                    obtain ⟨rfl, rfl⟩ := hq
                    obtain ⟨n_90, en_90⟩ : ∃ f : Nat → Int32, f = upd n_81 (12 * k4 + 1297) (nI 0) := ⟨_, rfl⟩
                    rw [← en_90]
                    have hnn_90 := KI.w en_90 hnn_81 (okv_f (show kd (12 * k4 + 1297) = (0, 0, false) from (kd_E (k := k4) (c := 7) (by omega) (by omega) (by decide))))
                    have hrn_90 := NRx.w en_90 hrn_81 (by rw [(show kd (12 * k4 + 1297) = (0, 0, false) from (kd_E (k := k4) (c := 7) (by omega) (by omega) (by decide)))])
                    have e91 : n_90 5 = nI k1 := by rw [en_90, pk_un (by omega)]; exact e82
                    have e92 : n_90 (12 * k4 + 1294) = nI k6 := by rw [en_90, pk_un (by omega)]; exact e83
                    have e93 : n_90 (12 * k4 + 1295) = x10 := by rw [en_90, pk_un (by omega)]; exact e84
                    have e94 : n_90 8 = nI k11 := by rw [en_90, pk_un (by omega)]; exact e85
                    have e95 : n_90 (14 * k6 + 119) = (-1) := by rw [en_90, pk_un (by omega)]; exact e86
                    have e96 : n_90 (14 * k6 + 114) = nI k24 := by rw [en_90, pk_un (by omega)]; exact e87
                    have e97 : n_90 (12 * k4 + 1300) = nI k30 := by rw [en_90, pk_un (by omega)]; exact e88
                    have e98 : n_90 (12 * k4 + 1296) = nI k11 := by rw [en_90, pk_un (by omega)]; exact e89
                    have e99 : n_90 (12 * k4 + 1297) = nI 0 := by rw [en_90, pk_us]
                    refine pm_iloadn hG dX12_open_142 rfl ?_
                    exact pm_iret hG hF dX12_open_143 rfl (Nat.le_refl _) (Nat.le_refl _) ⟨_, rfl, ⟨_, _, _, rfl, hnn_90, hrn_90⟩, rfl⟩
                  · refine pm_iconst (v := nI 1) hG dX12_open_114 (by decide) ?_
                    refine pm_goto (tgt := 119) hG dX12_open_115 rfl ?_
                    refine pm_istoreXn (loc' := [some (.ref (B + 54)), some (.int za), some (.int (nI k6)), some (.int (nI 1))]) hG dX12_open_119 (by decide) (pm_c1b rfl) rfl ?_
                    refine pm_aloadn hG dX12_open_120 rfl ?_
                    refine pm_iloadn hG dX12_open_121 rfl ?_
                    refine pm_top (v := nI k4) ek4 ?_
                    refine pm_bipush (v := nI 6) hG dX12_open_122 (by decide) ?_
                    refine pm_aloadn hG dX12_open_124 rfl ?_
                    refine pm_getf hG dX12_open_125 (flX12_7 _ rfl) rfl rfl ?_
                    refine pm_bipush (v := nI 8) hG dX12_open_128 (by decide) ?_
                    refine pm_ialdN hG dX12_open_130 rfl (by decide) (by omega) ?_
                    refine pm_top (v := nI k11) ek11 ?_
                    refine pm_callV (As := [.int (nI k4), .int (nI 6), .int (nI k11)]) (rest := []) hG hR dX12_open_131 (lkX12_217 _ rfl) okV_X12_writes rfl rfl (m_writes (d := 3) (e := 12 * k4 + 1296) (by omega) (by omega) (by omega)) rfl rfl hdd (Nat.le_refl _) (Nat.le_refl _) (by decide) (pm_kv (fun σ' cnt' hq => ?_))
                    obtain ⟨rfl, rfl⟩ := hq
                    obtain ⟨n_100, en_100⟩ : ∃ f : Nat → Int32, f = upd n (12 * k4 + 1296) (nI k11) := ⟨_, rfl⟩
                    rw [← en_100]
                    have hnn_100 := KI.w en_100 hn (okv_f (show kd (12 * k4 + 1296) = (0, 0, true) from (kd_E (k := k4) (c := 6) (by omega) (by omega) (by decide))))
                    have hrn_100 := NRx.opened (l := k4) en_100 hr (by rw [ek6]; exact nI_m1 (by omega)) (by omega)
                    have e101 : n_100 5 = nI k1 := by rw [en_100, pk_un (by omega)]; exact ek1
                    have e102 : n_100 (12 * k4 + 1294) = nI k6 := by rw [en_100, pk_un (by omega)]; exact ek6
                    have e103 : n_100 (12 * k4 + 1295) = x10 := by rw [en_100, pk_un (by omega)]; exact ex10
                    have e104 : n_100 8 = nI k11 := by rw [en_100, pk_un (by omega)]; exact ek11
                    have e105 : n_100 (14 * k6 + 119) = (-1) := by rw [en_100, pk_un (by omega)]; exact ek21
                    have e106 : n_100 (14 * k6 + 114) = nI k24 := by rw [en_100, pk_un (by omega)]; exact ek24
                    have e107 : n_100 (12 * k4 + 1300) = nI k30 := by rw [en_100, pk_un (by omega)]; exact ek30
                    have e108 : n_100 (12 * k4 + 1296) = nI k11 := by rw [en_100, pk_us]
                    refine pm_aloadn hG dX12_open_134 rfl ?_
                    refine pm_iloadn hG dX12_open_135 rfl ?_
                    refine pm_top (v := nI k4) ek4 ?_
                    refine pm_bipush (v := nI 7) hG dX12_open_136 (by decide) ?_
                    refine pm_iloadn hG dX12_open_138 rfl ?_
                    refine pm_callV (As := [.int (nI k4), .int (nI 7), .int (nI 1)]) (rest := []) hG hR dX12_open_139 (lkX12_217 _ rfl) okV_X12_writes rfl rfl (m_writes (d := 3) (e := 12 * k4 + 1297) (by omega) (by omega) (by omega)) rfl rfl hdd (Nat.le_refl _) (Nat.le_refl _) (by decide) (pm_kv (fun σ' cnt' hq => ?_))
                    obtain ⟨rfl, rfl⟩ := hq
                    obtain ⟨n_109, en_109⟩ : ∃ f : Nat → Int32, f = upd n_100 (12 * k4 + 1297) (nI 1) := ⟨_, rfl⟩
                    rw [← en_109]
                    have hnn_109 := KI.w en_109 hnn_100 (okv_f (show kd (12 * k4 + 1297) = (0, 0, false) from (kd_E (k := k4) (c := 7) (by omega) (by omega) (by decide))))
                    have hrn_109 := NRx.w en_109 hrn_100 (by rw [(show kd (12 * k4 + 1297) = (0, 0, false) from (kd_E (k := k4) (c := 7) (by omega) (by omega) (by decide)))])
                    have e110 : n_109 5 = nI k1 := by rw [en_109, pk_un (by omega)]; exact e101
                    have e111 : n_109 (12 * k4 + 1294) = nI k6 := by rw [en_109, pk_un (by omega)]; exact e102
                    have e112 : n_109 (12 * k4 + 1295) = x10 := by rw [en_109, pk_un (by omega)]; exact e103
                    have e113 : n_109 8 = nI k11 := by rw [en_109, pk_un (by omega)]; exact e104
                    have e114 : n_109 (14 * k6 + 119) = (-1) := by rw [en_109, pk_un (by omega)]; exact e105
                    have e115 : n_109 (14 * k6 + 114) = nI k24 := by rw [en_109, pk_un (by omega)]; exact e106
                    have e116 : n_109 (12 * k4 + 1300) = nI k30 := by rw [en_109, pk_un (by omega)]; exact e107
                    have e117 : n_109 (12 * k4 + 1296) = nI k11 := by rw [en_109, pk_un (by omega)]; exact e108
                    have e118 : n_109 (12 * k4 + 1297) = nI 1 := by rw [en_109, pk_us]
                    refine pm_iloadn hG dX12_open_142 rfl ?_
                    exact pm_iret hG hF dX12_open_143 rfl (Nat.le_refl _) (Nat.le_refl _) ⟨_, rfl, ⟨_, _, _, rfl, hnn_109, hrn_109⟩, rfl⟩
              · refine pm_aloadn hG dX12_open_75 rfl ?_
                refine pm_iconst (v := nI 3) hG dX12_open_76 (by decide) ?_
                refine pm_callV (As := [.int (nI 3)]) (rest := []) hG hR dX12_open_77 (lkX12_80 _ rfl) okV_X12_finds rfl rfl (m_finds (d := 3) (by decide) hn hz (by omega)) rfl rfl hdd (Nat.le_refl _) (Nat.le_refl _) (by decide) (pm_ki (fun v119 σ' cnt' hq => ?_))
                obtain ⟨⟨I120, A120, rfl⟩, rfl, fv119⟩ := hq
                exact pm_iret hG hF dX12_open_80 rfl (Nat.le_refl _) (Nat.le_refl _) ⟨_, rfl, ⟨_, _, _, rfl, hn, hr⟩, rfl⟩
          · refine pm_callV (As := [.int (nI k6)]) (rest := []) hG hR dX12_open_53 (lkX12_101 _ rfl) okV_X12_lives rfl rfl (m_lives0 (d := 3) (by decide) (by omega) (by omega : 14 * k6 + 119 = 14 * k6 + 119) ek21 (by omega)) rfl rfl hdd (Nat.le_refl _) (Nat.le_refl _) (by decide) (pm_ki (fun v121 σ' cnt' hq => ?_))
            obtain ⟨rfl, rfl, rfl⟩ := hq
            refine pm_ifN_eq (tgt := 75) hG dX12_open_56 rfl (by omega) (fun _ => ?_) (fun q => absurd q (by omega))
            refine pm_aloadn hG dX12_open_75 rfl ?_
            refine pm_iconst (v := nI 3) hG dX12_open_76 (by decide) ?_
            refine pm_callV (As := [.int (nI 3)]) (rest := []) hG hR dX12_open_77 (lkX12_80 _ rfl) okV_X12_finds rfl rfl (m_finds (d := 3) (by decide) hn hz (by omega)) rfl rfl hdd (Nat.le_refl _) (Nat.le_refl _) (by decide) (pm_ki (fun v122 σ' cnt' hq => ?_))
            obtain ⟨⟨I123, A123, rfl⟩, rfl, fv122⟩ := hq
            exact pm_iret hG hF dX12_open_80 rfl (Nat.le_refl _) (Nat.le_refl _) ⟨_, rfl, ⟨_, _, _, rfl, hn, hr⟩, rfl⟩
  · refine pm_ifN_ne (tgt := 14) hG dX12_open_5 rfl (by omega) (fun q => absurd q (by omega)) (fun _ => ?_)
    refine pm_aloadn hG dX12_open_8 rfl ?_
    refine pm_iconst (v := nI 1) hG dX12_open_9 (by decide) ?_
    refine pm_callV (As := [.int (nI 1)]) (rest := []) hG hR dX12_open_10 (lkX12_80 _ rfl) okV_X12_finds rfl rfl (m_finds (d := 3) (by decide) hn hz (by omega)) rfl rfl hdd (Nat.le_refl _) (Nat.le_refl _) (by decide) (pm_ki (fun v124 σ' cnt' hq => ?_))
    obtain ⟨⟨I125, A125, rfl⟩, rfl, fv124⟩ := hq
    exact pm_iret hG hF dX12_open_13 rfl (Nat.le_refl _) (Nat.le_refl _) ⟨_, rfl, ⟨_, _, _, rfl, hn, hr⟩, rfl⟩
