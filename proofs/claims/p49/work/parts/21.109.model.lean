set_option maxRecDepth 100000 in
set_option maxHeartbeats 4000000 in
theorem m_send {d B cnt p0 t0 : Nat} {σ : pm_S} {I : Nat → Int32} {A : Nat → Nat → Int32} {n k z : Nat → Int32} {ac wt pl im : Int32} {y : Nat → Int32} {za zb : Int32} (hdd : 3 ≤ d) (hn : KI n) (hr : NR n) (hz : SZ z)  : pm_met mX12_send d 0 0 B [.ref (B + 54), .int za, .int zb] cnt (pm_mid σ (md_L B I A n k z ac wt pl (nI p0) (nI t0) im y)) (pm_Qi (fun v σ' cnt' => (∃ (I' : Nat → Int32) (A' : Nat → Nat → Int32) (n' : Nat → Int32), σ' = pm_mid σ (md_L B I' A' n' k z ac wt pl (nI p0) (nI t0) im y) ∧ KI n' ∧ NR n') ∧ cnt = cnt')) := by
  refine pm_enter 1 (by decide) (Nat.le_of_ble_eq_true rfl) rfl (fun G hG hR hF => ?_)
  refine pm_aloadn hG dX12_send_0 rfl ?_
  refine pm_iloadn hG dX12_send_1 rfl ?_
  obtain ⟨k1, hk1, ek1⟩ := KI.nat hn (show kd 5 = (1, 41, true) by decide)
  refine pm_callV (As := [.int za]) (rest := []) hG hR dX12_send_2 (lkX12_211 _ rfl) okV_X12_isLetter rfl rfl (m_isLetter (d := 2) (by decide) ek1 (by omega)) rfl rfl hdd (Nat.le_refl _) (Nat.le_refl _) (by decide) (pm_ki (fun v2 σ' cnt' hq => ?_))
  obtain ⟨hq, rfl, rfl⟩ := hq
  rcases hq with ⟨rfl, k4, hk4, ek4⟩ | rfl
  · refine pm_ifN_eq (tgt := 16) hG dX12_send_5 rfl (by omega) (fun q => absurd q (by omega)) (fun _ => ?_)
    refine pm_aloadn hG dX12_send_8 rfl ?_
    refine pm_iloadn hG dX12_send_9 rfl ?_
    obtain ⟨k5, hk5, ek5⟩ := KI.nat hn (show kd 2 = (1, 21, true) by decide)
    refine pm_callV (As := [.int zb]) (rest := []) hG hR dX12_send_10 (lkX12_91 _ rfl) okV_X12_isPerson rfl rfl (m_isPerson (d := 2) (by decide) ek5 (by omega)) rfl rfl hdd (Nat.le_refl _) (Nat.le_refl _) (by decide) (pm_ki (fun v6 σ' cnt' hq => ?_))
    obtain ⟨hq, rfl, rfl⟩ := hq
    rcases hq with ⟨rfl, k8, hk8, ek8⟩ | rfl
    · refine pm_ifN_ne (tgt := 22) hG dX12_send_13 rfl (by omega) (fun _ => ?_) (fun q => absurd q (by omega))
      refine pm_aloadn hG dX12_send_22 rfl ?_
      refine pm_iloadn hG dX12_send_23 rfl ?_
      refine pm_top (v := nI k4) ek4 ?_
      refine pm_iconst (v := nI 4) hG dX12_send_24 (by decide) ?_
      refine pm_callV (As := [.int (nI k4), .int (nI 4)]) (rest := []) hG hR dX12_send_25 (lkX12_199 _ rfl) okV_X12_of rfl rfl (m_of (d := 2) (e := 12 * k4 + 1294) (by omega) (by omega) (by omega)) rfl rfl hdd (Nat.le_refl _) (Nat.le_refl _) (by decide) (pm_ki (fun v9 σ' cnt' hq => ?_))
      obtain ⟨rfl, rfl, rfl⟩ := hq
      rcases KI.opt hn (show kd (12 * k4 + 1294) = (2, 20, true) from (kd_E (k := k4) (c := 4) (by omega) (by omega) (by decide))) with ek10 | ⟨k10, hk10, ek10⟩
      · refine pm_top (v := (-1)) ek10 ?_
        refine pm_if_ge (tgt := 48) hG dX12_send_28 rfl (fun q => absurd q (by decide)) (fun _ => ?_)
        refine pm_aloadn hG dX12_send_31 rfl ?_
        refine pm_iloadn hG dX12_send_32 rfl ?_
        refine pm_top (v := nI k8) ek8 ?_
        rcases KI.opt hn (show kd (14 * k8 + 119) = (2, 2001, false) from (kd_P (k := k8) (c := 9) (by omega) (by omega) (by decide))) with ek11 | ⟨k11, hk11, ek11⟩
        · refine pm_callV (As := [.int (nI k8)]) (rest := []) hG hR dX12_send_33 (lkX12_101 _ rfl) okV_X12_lives rfl rfl (m_lives1 (d := 2) (by decide) (by omega) (by omega : 14 * k8 + 119 = 14 * k8 + 119) ek11) rfl rfl hdd (Nat.le_refl _) (Nat.le_refl _) (by decide) (pm_ki (fun v12 σ' cnt' hq => ?_))
          obtain ⟨rfl, rfl, rfl⟩ := hq
          refine pm_ifN_eq (tgt := 48) hG dX12_send_36 rfl (by omega) (fun q => absurd q (by omega)) (fun _ => ?_)
          refine pm_aloadn hG dX12_send_39 rfl ?_
          refine pm_iloadn hG dX12_send_40 rfl ?_
          refine pm_top (v := nI k8) ek8 ?_
          refine pm_iconst (v := nI 4) hG dX12_send_41 (by decide) ?_
          refine pm_callV (As := [.int (nI k8), .int (nI 4)]) (rest := []) hG hR dX12_send_42 (lkX12_72 _ rfl) okV_X12_man rfl rfl (m_man (d := 2) (e := 14 * k8 + 114) (by omega) (by omega) (by omega)) rfl rfl hdd (Nat.le_refl _) (Nat.le_refl _) (by decide) (pm_ki (fun v13 σ' cnt' hq => ?_))
          obtain ⟨rfl, rfl, rfl⟩ := hq
          rcases KI.opt hn (show kd (14 * k8 + 114) = (2, 10, false) from (kd_P (k := k8) (c := 4) (by omega) (by omega) (by decide))) with ek14 | ⟨k14, hk14, ek14⟩
          · refine pm_top (v := (-1)) ek14 ?_
            refine pm_if_ge (tgt := 54) hG dX12_send_45 rfl (fun q => absurd q (by decide)) (fun _ => ?_)
            refine pm_aloadn hG dX12_send_48 rfl ?_
            refine pm_iconst (v := nI 3) hG dX12_send_49 (by decide) ?_
            refine pm_callV (As := [.int (nI 3)]) (rest := []) hG hR dX12_send_50 (lkX12_80 _ rfl) okV_X12_finds rfl rfl (m_finds (d := 2) (by decide) hn hz (by omega)) rfl rfl hdd (Nat.le_refl _) (Nat.le_refl _) (by decide) (pm_ki (fun v15 σ' cnt' hq => ?_))
            obtain ⟨⟨I16, A16, rfl⟩, rfl, fv15⟩ := hq
            exact pm_iret hG hF dX12_send_53 rfl (Nat.le_refl _) (Nat.le_refl _) ⟨_, rfl, ⟨_, _, _, rfl, hn, hr⟩, rfl⟩
          · refine pm_top (v := nI k14) ek14 ?_
            refine pm_ifN_ge (tgt := 54) hG dX12_send_45 rfl (by omega) ?_
            refine pm_aloadn hG dX12_send_54 rfl ?_
            refine pm_aloadn hG dX12_send_55 rfl ?_
            refine pm_iloadn hG dX12_send_56 rfl ?_
            refine pm_top (v := nI k4) ek4 ?_
            refine pm_bipush (v := nI 10) hG dX12_send_57 (by decide) ?_
            refine pm_callV (As := [.int (nI k4), .int (nI 10)]) (rest := [.ref (B + 54)]) hG hR dX12_send_59 (lkX12_199 _ rfl) okV_X12_of rfl rfl (m_of (d := 2) (e := 12 * k4 + 1300) (by omega) (by omega) (by omega)) rfl rfl hdd (Nat.le_refl _) (Nat.le_refl _) (Nat.le_of_ble_eq_true rfl) (pm_ki (fun v17 σ' cnt' hq => ?_))
            obtain ⟨rfl, rfl, rfl⟩ := hq
            obtain ⟨k18, hk18, ek18⟩ := KI.nat hn (show kd (12 * k4 + 1300) = (1, 10, false) from (kd_E (k := k4) (c := 10) (by omega) (by omega) (by decide)))
            refine pm_top (v := nI k18) ek18 ?_
            refine pm_aloadn hG dX12_send_62 rfl ?_
            refine pm_iloadn hG dX12_send_63 rfl ?_
            refine pm_top (v := nI k8) ek8 ?_
            refine pm_iconst (v := nI 4) hG dX12_send_64 (by decide) ?_
            refine pm_callV (As := [.int (nI k8), .int (nI 4)]) (rest := [.int (nI k18), .ref (B + 54)]) hG hR dX12_send_65 (lkX12_72 _ rfl) okV_X12_man rfl rfl (m_man (d := 2) (e := 14 * k8 + 114) (by omega) (by omega) (by omega)) rfl rfl hdd (Nat.le_refl _) (Nat.le_refl _) (Nat.le_of_ble_eq_true rfl) (pm_ki (fun v19 σ' cnt' hq => ?_))
            obtain ⟨rfl, rfl, rfl⟩ := hq
            refine pm_top (v := nI k14) ek14 ?_
            refine pm_callV (As := [.int (nI k18), .int (nI k14)]) (rest := []) hG hR dX12_send_68 (lkX12_88 _ rfl) okV_X12_farOf rfl rfl (m_farOf (d := 2) (by decide) hn hz (by omega)) rfl rfl hdd (Nat.le_refl _) (Nat.le_refl _) (by decide) (pm_ki (fun v20 σ' cnt' hq => ?_))
            obtain ⟨⟨I21, A21, rfl⟩, rfl⟩ := hq
            refine pm_istoreXn (loc' := [some (.ref (B + 54)), some (.int za), some (.int zb), some (.int v20)]) hG dX12_send_71 (by decide) (pm_c1b rfl) rfl ?_
            refine pm_iloadn hG dX12_send_72 rfl ?_
            refine pm_if_ge (tgt := 82) hG dX12_send_73 rfl (fun c22 => ?_) (fun c22 => ?_)
            · obtain ⟨k23, hk23, ek23⟩ := nI_of (Int32.not_lt.mpr c22)
              refine pm_aloadn hG dX12_send_82 rfl ?_
              refine pm_iloadn hG dX12_send_83 rfl ?_
              refine pm_top (v := nI k4) ek4 ?_
              refine pm_iconst (v := nI 4) hG dX12_send_84 (by decide) ?_
              refine pm_iloadn hG dX12_send_85 rfl ?_
              refine pm_top (v := nI k8) ek8 ?_
              refine pm_callV (As := [.int (nI k4), .int (nI 4), .int (nI k8)]) (rest := []) hG hR dX12_send_86 (lkX12_217 _ rfl) okV_X12_writes rfl rfl (m_writes (d := 2) (e := 12 * k4 + 1294) (by omega) (by omega) (by omega)) rfl rfl hdd (Nat.le_refl _) (Nat.le_refl _) (by decide) (pm_kv (fun σ' cnt' hq => ?_))
              obtain ⟨rfl, rfl⟩ := hq
              obtain ⟨n_24, en_24⟩ : ∃ f : Nat → Int32, f = upd n (12 * k4 + 1294) (nI k8) := ⟨_, rfl⟩
              rw [← en_24]
              have hnn_24 := KI.w en_24 hn (okv_o (show kd (12 * k4 + 1294) = (2, 20, true) from (kd_E (k := k4) (c := 4) (by omega) (by omega) (by decide))) (by omega))
              have hrn_24 := NRx.sent (l := k4) en_24 hr (by omega)
              have e25 : n_24 5 = nI k1 := by rw [en_24, pk_un (by omega)]; exact ek1
              have e26 : n_24 2 = nI k5 := by rw [en_24, pk_un (by omega)]; exact ek5
              have e27 : n_24 (14 * k8 + 119) = (-1) := by rw [en_24, pk_un (by omega)]; exact ek11
              have e28 : n_24 (14 * k8 + 114) = nI k14 := by rw [en_24, pk_un (by omega)]; exact ek14
              have e29 : n_24 (12 * k4 + 1300) = nI k18 := by rw [en_24, pk_un (by omega)]; exact ek18
              have e30 : n_24 (12 * k4 + 1294) = nI k8 := by rw [en_24, pk_us]
              refine pm_aloadn hG dX12_send_89 rfl ?_
              refine pm_iloadn hG dX12_send_90 rfl ?_
              refine pm_top (v := nI k4) ek4 ?_
              refine pm_iconst (v := nI 5) hG dX12_send_91 (by decide) ?_
              refine pm_aloadn hG dX12_send_92 rfl ?_
              refine pm_getf hG dX12_send_93 (flX12_7 _ rfl) rfl rfl ?_
              refine pm_bipush (v := nI 8) hG dX12_send_96 (by decide) ?_
              refine pm_ialdN hG dX12_send_98 rfl (by decide) (by omega) ?_
              obtain ⟨k31, hk31, ek31⟩ := KI.nat hnn_24 (show kd 8 = (1, 2001, false) by decide)
              refine pm_top (v := nI k31) ek31 ?_
              refine pm_iloadn hG dX12_send_99 rfl ?_
              refine pm_top (v := nI k23) ek23 ?_
              refine pm_iaddN (c := k23 + k31) hG dX12_send_100 (by omega) ?_
              refine pm_callV (As := [.int (nI k4), .int (nI 5), .int (nI (k23 + k31))]) (rest := []) hG hR dX12_send_101 (lkX12_217 _ rfl) okV_X12_writes rfl rfl (m_writes (d := 2) (e := 12 * k4 + 1295) (by omega) (by omega) (by omega)) rfl rfl hdd (Nat.le_refl _) (Nat.le_refl _) (by decide) (pm_kv (fun σ' cnt' hq => ?_))
              obtain ⟨rfl, rfl⟩ := hq
              obtain ⟨n_32, en_32⟩ : ∃ f : Nat → Int32, f = upd n_24 (12 * k4 + 1295) (nI (k23 + k31)) := ⟨_, rfl⟩
              rw [← en_32]
              have hnn_32 := KI.w en_32 hnn_24 (okv_f (show kd (12 * k4 + 1295) = (0, 0, false) from (kd_E (k := k4) (c := 5) (by omega) (by omega) (by decide))))
              have hrn_32 := NRx.w en_32 hrn_24 (by rw [(show kd (12 * k4 + 1295) = (0, 0, false) from (kd_E (k := k4) (c := 5) (by omega) (by omega) (by decide)))])
              have e33 : n_32 5 = nI k1 := by rw [en_32, pk_un (by omega)]; exact e25
              have e34 : n_32 2 = nI k5 := by rw [en_32, pk_un (by omega)]; exact e26
              have e35 : n_32 (14 * k8 + 119) = (-1) := by rw [en_32, pk_un (by omega)]; exact e27
              have e36 : n_32 (14 * k8 + 114) = nI k14 := by rw [en_32, pk_un (by omega)]; exact e28
              have e37 : n_32 (12 * k4 + 1300) = nI k18 := by rw [en_32, pk_un (by omega)]; exact e29
              have e38 : n_32 (12 * k4 + 1294) = nI k8 := by rw [en_32, pk_un (by omega)]; exact e30
              have e39 : n_32 8 = nI k31 := by rw [en_32, pk_un (by omega)]; exact ek31
              have e40 : n_32 (12 * k4 + 1295) = nI (k23 + k31) := by rw [en_32, pk_us]
              refine pm_aloadn hG dX12_send_104 rfl ?_
              refine pm_iloadn hG dX12_send_105 rfl ?_
              refine pm_top (v := nI k4) ek4 ?_
              refine pm_bipush (v := nI 10) hG dX12_send_106 (by decide) ?_
              refine pm_aloadn hG dX12_send_108 rfl ?_
              refine pm_iloadn hG dX12_send_109 rfl ?_
              refine pm_top (v := nI k8) ek8 ?_
              refine pm_iconst (v := nI 4) hG dX12_send_110 (by decide) ?_
              refine pm_callV (As := [.int (nI k8), .int (nI 4)]) (rest := [.int (nI 10), .int (nI k4), .ref (B + 54)]) hG hR dX12_send_111 (lkX12_72 _ rfl) okV_X12_man rfl rfl (m_man (d := 2) (e := 14 * k8 + 114) (by omega) (by omega) (by omega)) rfl rfl hdd (Nat.le_refl _) (Nat.le_refl _) (Nat.le_of_ble_eq_true rfl) (pm_ki (fun v41 σ' cnt' hq => ?_))
              obtain ⟨rfl, rfl, rfl⟩ := hq
              refine pm_top (v := nI k14) e36 ?_
              refine pm_callV (As := [.int (nI k4), .int (nI 10), .int (nI k14)]) (rest := []) hG hR dX12_send_114 (lkX12_217 _ rfl) okV_X12_writes rfl rfl (m_writes (d := 2) (e := 12 * k4 + 1300) (by omega) (by omega) (by omega)) rfl rfl hdd (Nat.le_refl _) (Nat.le_refl _) (by decide) (pm_kv (fun σ' cnt' hq => ?_))
              obtain ⟨rfl, rfl⟩ := hq
              obtain ⟨n_42, en_42⟩ : ∃ f : Nat → Int32, f = upd n_32 (12 * k4 + 1300) (nI k14) := ⟨_, rfl⟩
              rw [← en_42]
              have hnn_42 := KI.w en_42 hnn_32 (okv_n (show kd (12 * k4 + 1300) = (1, 10, false) from (kd_E (k := k4) (c := 10) (by omega) (by omega) (by decide))) (by omega))
              have hrn_42 := NRx.w en_42 hrn_32 (by rw [(show kd (12 * k4 + 1300) = (1, 10, false) from (kd_E (k := k4) (c := 10) (by omega) (by omega) (by decide)))])
              have e43 : n_42 5 = nI k1 := by rw [en_42, pk_un (by omega)]; exact e33
              have e44 : n_42 2 = nI k5 := by rw [en_42, pk_un (by omega)]; exact e34
              have e45 : n_42 (14 * k8 + 119) = (-1) := by rw [en_42, pk_un (by omega)]; exact e35
              have e46 : n_42 (14 * k8 + 114) = nI k14 := by rw [en_42, pk_un (by omega)]; exact e36
              have e47 : n_42 (12 * k4 + 1294) = nI k8 := by rw [en_42, pk_un (by omega)]; exact e38
              have e48 : n_42 8 = nI k31 := by rw [en_42, pk_un (by omega)]; exact e39
              have e49 : n_42 (12 * k4 + 1295) = nI (k23 + k31) := by rw [en_42, pk_un (by omega)]; exact e40
              have e50 : n_42 (12 * k4 + 1300) = nI k14 := by rw [en_42, pk_us]
              refine pm_aloadn hG dX12_send_117 rfl ?_
              refine pm_getf hG dX12_send_118 (flX12_7 _ rfl) rfl rfl ?_
              refine pm_bipush (v := nI 8) hG dX12_send_121 (by decide) ?_
              refine pm_ialdN hG dX12_send_123 rfl (by decide) (by omega) ?_
              refine pm_top (v := nI k31) e48 ?_
              refine pm_iloadn hG dX12_send_124 rfl ?_
              refine pm_top (v := nI k23) ek23 ?_
              refine pm_iaddN (c := k23 + k31) hG dX12_send_125 (by omega) ?_
              exact pm_iret hG hF dX12_send_126 rfl (Nat.le_refl _) (Nat.le_refl _) ⟨_, rfl, ⟨_, _, _, rfl, hnn_42, hrn_42⟩, rfl⟩
            · refine pm_aloadn hG dX12_send_76 rfl ?_
              refine pm_iconst (v := nI 2) hG dX12_send_77 (by decide) ?_
              refine pm_callV (As := [.int (nI 2)]) (rest := []) hG hR dX12_send_78 (lkX12_80 _ rfl) okV_X12_finds rfl rfl (m_finds (d := 2) (by decide) hn hz (by omega)) rfl rfl hdd (Nat.le_refl _) (Nat.le_refl _) (by decide) (pm_ki (fun v51 σ' cnt' hq => ?_))
              obtain ⟨⟨I52, A52, rfl⟩, rfl, fv51⟩ := hq
              exact pm_iret hG hF dX12_send_81 rfl (Nat.le_refl _) (Nat.le_refl _) ⟨_, rfl, ⟨_, _, _, rfl, hn, hr⟩, rfl⟩
        · refine pm_callV (As := [.int (nI k8)]) (rest := []) hG hR dX12_send_33 (lkX12_101 _ rfl) okV_X12_lives rfl rfl (m_lives0 (d := 2) (by decide) (by omega) (by omega : 14 * k8 + 119 = 14 * k8 + 119) ek11 (by omega)) rfl rfl hdd (Nat.le_refl _) (Nat.le_refl _) (by decide) (pm_ki (fun v53 σ' cnt' hq => ?_))
          obtain ⟨rfl, rfl, rfl⟩ := hq
          refine pm_ifN_eq (tgt := 48) hG dX12_send_36 rfl (by omega) (fun _ => ?_) (fun q => absurd q (by omega))
          refine pm_aloadn hG dX12_send_48 rfl ?_
          refine pm_iconst (v := nI 3) hG dX12_send_49 (by decide) ?_
          refine pm_callV (As := [.int (nI 3)]) (rest := []) hG hR dX12_send_50 (lkX12_80 _ rfl) okV_X12_finds rfl rfl (m_finds (d := 2) (by decide) hn hz (by omega)) rfl rfl hdd (Nat.le_refl _) (Nat.le_refl _) (by decide) (pm_ki (fun v54 σ' cnt' hq => ?_))
          obtain ⟨⟨I55, A55, rfl⟩, rfl, fv54⟩ := hq
          exact pm_iret hG hF dX12_send_53 rfl (Nat.le_refl _) (Nat.le_refl _) ⟨_, rfl, ⟨_, _, _, rfl, hn, hr⟩, rfl⟩
      · refine pm_top (v := nI k10) ek10 ?_
        refine pm_ifN_ge (tgt := 48) hG dX12_send_28 rfl (by omega) ?_
        refine pm_aloadn hG dX12_send_48 rfl ?_
        refine pm_iconst (v := nI 3) hG dX12_send_49 (by decide) ?_
        refine pm_callV (As := [.int (nI 3)]) (rest := []) hG hR dX12_send_50 (lkX12_80 _ rfl) okV_X12_finds rfl rfl (m_finds (d := 2) (by decide) hn hz (by omega)) rfl rfl hdd (Nat.le_refl _) (Nat.le_refl _) (by decide) (pm_ki (fun v56 σ' cnt' hq => ?_))
        obtain ⟨⟨I57, A57, rfl⟩, rfl, fv56⟩ := hq
        exact pm_iret hG hF dX12_send_53 rfl (Nat.le_refl _) (Nat.le_refl _) ⟨_, rfl, ⟨_, _, _, rfl, hn, hr⟩, rfl⟩
    · refine pm_ifN_ne (tgt := 22) hG dX12_send_13 rfl (by omega) (fun q => absurd q (by omega)) (fun _ => ?_)
      refine pm_aloadn hG dX12_send_16 rfl ?_
      refine pm_iconst (v := nI 1) hG dX12_send_17 (by decide) ?_
      refine pm_callV (As := [.int (nI 1)]) (rest := []) hG hR dX12_send_18 (lkX12_80 _ rfl) okV_X12_finds rfl rfl (m_finds (d := 2) (by decide) hn hz (by omega)) rfl rfl hdd (Nat.le_refl _) (Nat.le_refl _) (by decide) (pm_ki (fun v58 σ' cnt' hq => ?_))
      obtain ⟨⟨I59, A59, rfl⟩, rfl, fv58⟩ := hq
      exact pm_iret hG hF dX12_send_21 rfl (Nat.le_refl _) (Nat.le_refl _) ⟨_, rfl, ⟨_, _, _, rfl, hn, hr⟩, rfl⟩
  · refine pm_ifN_eq (tgt := 16) hG dX12_send_5 rfl (by omega) (fun _ => ?_) (fun q => absurd q (by omega))
    refine pm_aloadn hG dX12_send_16 rfl ?_
    refine pm_iconst (v := nI 1) hG dX12_send_17 (by decide) ?_
    refine pm_callV (As := [.int (nI 1)]) (rest := []) hG hR dX12_send_18 (lkX12_80 _ rfl) okV_X12_finds rfl rfl (m_finds (d := 2) (by decide) hn hz (by omega)) rfl rfl hdd (Nat.le_refl _) (Nat.le_refl _) (by decide) (pm_ki (fun v60 σ' cnt' hq => ?_))
    obtain ⟨⟨I61, A61, rfl⟩, rfl, fv60⟩ := hq
    exact pm_iret hG hF dX12_send_21 rfl (Nat.le_refl _) (Nat.le_refl _) ⟨_, rfl, ⟨_, _, _, rfl, hn, hr⟩, rfl⟩
