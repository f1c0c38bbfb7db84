set_option maxRecDepth 100000 in
set_option maxHeartbeats 4000000 in
theorem m_obeys {d B cnt p0 t0 : Nat} {σ : pm_S} {I : Nat → Int32} {A : Nat → Nat → Int32} {n k z : Nat → Int32} {ac wt pl im : Int32} {ba c0 c1 : Nat} (hdd : 5 ≤ d) (hn : KI n) (hr : NR n) (hz : SZ z) (hba : ba < 40) (ec0 : n (12 * ba + 1294) = nI c0) (hc0 : c0 < 20) (ec1 : n 5 = nI c1) (hc1 : c1 < 41) (hl5 : ba < c1) (hob : obOK n ba) : pm_met mX12_obeys d 0 0 B [.ref (B + 54), .int (nI ba)] cnt (pm_mid σ (md_L B I A n k z ac wt pl (nI p0) (nI t0) im)) (pm_Qi (fun v σ' cnt' => (∃ (I' : Nat → Int32) (A' : Nat → Nat → Int32) (n' : Nat → Int32), σ' = pm_mid σ (md_L B I' A' n' k z ac wt pl (nI p0) (nI t0) im) ∧ KI n' ∧ NR n' ∧ n' 0 = n 0 ∧ n' 2 = n 2 ∧ n' 7 = n 7 ∧ n' 8 = n 8 ∧ KS n' n) ∧ cnt = cnt')) := by
  obtain ⟨kc0, hkc0, ekc0⟩ := KI.nat hn (show kd 0 = (1, 11, true) by decide)
  obtain ⟨kc2, hkc2, ekc2⟩ := KI.nat hn (show kd 2 = (1, 21, true) by decide)
  obtain ⟨kc7, hkc7, ekc7⟩ := KI.nat hn (show kd 7 = (1, 31, false) by decide)
  obtain ⟨kc8, hkc8, ekc8⟩ := KI.nat hn (show kd 8 = (1, 2001, false) by decide)
  refine pm_enter 5 (by decide) (Nat.le_of_ble_eq_true rfl) rfl (fun G hG hR hF => ?_)
  refine pm_aloadn hG dX12_obeys_0 rfl ?_
  refine pm_iloadn hG dX12_obeys_1 rfl ?_
  refine pm_iconst (v := nI 4) hG dX12_obeys_2 (by decide) ?_
  refine pm_callV (As := [.int (nI ba), .int (nI 4)]) (rest := []) hG hR dX12_obeys_3 (lkX12_199 _ rfl) okV_X12_of rfl rfl (m_of (d := 4) (e := 12 * ba + 1294) (by omega) (by omega) (by omega)) rfl rfl hdd (Nat.le_refl _) (Nat.le_refl _) (by decide) (pm_ki (fun v1 σ' cnt' hq => ?_))
  obtain ⟨rfl, rfl, rfl⟩ := hq
  refine pm_top (v := nI c0) ec0 ?_
  refine pm_istoreXn (loc' := [some (.ref (B + 54)), some (.int (nI ba)), some (.int (nI c0)), none, none, none, none]) hG dX12_obeys_6 (by decide) (pm_c1b rfl) rfl ?_
  refine pm_aloadn hG dX12_obeys_7 rfl ?_
  refine pm_iloadn hG dX12_obeys_8 rfl ?_
  refine pm_iconst (v := nI 2) hG dX12_obeys_9 (by decide) ?_
  refine pm_callV (As := [.int (nI ba), .int (nI 2)]) (rest := []) hG hR dX12_obeys_10 (lkX12_199 _ rfl) okV_X12_of rfl rfl (m_of (d := 4) (e := 12 * ba + 1292) (by omega) (by omega) (by omega)) rfl rfl hdd (Nat.le_refl _) (Nat.le_refl _) (by decide) (pm_ki (fun v2 σ' cnt' hq => ?_))
  obtain ⟨rfl, rfl, rfl⟩ := hq
  obtain ⟨k3, hk3, ek3⟩ := KI.nat hn (show kd (12 * ba + 1292) = (1, 1000, false) from (kd_E (k := ba) (c := 2) (by omega) (by omega) (by decide)))
  refine pm_top (v := nI k3) ek3 ?_
  refine pm_istoreXn (loc' := [some (.ref (B + 54)), some (.int (nI ba)), some (.int (nI c0)), some (.int (nI k3)), none, none, none]) hG dX12_obeys_13 (by decide) (pm_c1b rfl) rfl ?_
  refine pm_aloadn hG dX12_obeys_14 rfl ?_
  refine pm_iloadn hG dX12_obeys_15 rfl ?_
  refine pm_iconst (v := nI 1) hG dX12_obeys_16 (by decide) ?_
  refine pm_callV (As := [.int (nI ba), .int (nI 1)]) (rest := []) hG hR dX12_obeys_17 (lkX12_199 _ rfl) okV_X12_of rfl rfl (m_of (d := 4) (e := 12 * ba + 1291) (by omega) (by omega) (by omega)) rfl rfl hdd (Nat.le_refl _) (Nat.le_refl _) (by decide) (pm_ki (fun v4 σ' cnt' hq => ?_))
  obtain ⟨rfl, rfl, rfl⟩ := hq
  refine pm_gen (fun x5 ex5 => ?_)
  by_cases c6 : x5 = nI 0
  · refine pm_top (v := nI 0) c6 ?_
    refine pm_tswIn (tgt := 52) hG dX12_obeys_20 (by decide) (by decide) rfl rfl ?_
    refine pm_aloadn hG dX12_obeys_52 rfl ?_
    refine pm_getf hG dX12_obeys_53 (flX12_7 _ rfl) rfl rfl ?_
    refine pm_bipush (v := nI 9) hG dX12_obeys_56 (by decide) ?_
    refine pm_dup2 hG dX12_obeys_58 rfl rfl ?_
    refine pm_ialdN hG dX12_obeys_59 rfl (by decide) (by omega) ?_
    refine pm_gen (fun x7 ex7 => ?_)
    refine pm_iloadn hG dX12_obeys_60 rfl ?_
    refine pm_isub hG dX12_obeys_61 ?_
    refine pm_iastN hG dX12_obeys_62 rfl (by decide) (by omega) ?_
    refine mdn_now (fun n_8 en_8 => ?_)
    have hnn_8 := KI.w en_8 hn (okv_f (show kd 9 = (0, 0, false) by decide))
    have hrn_8 := NRx.w en_8 hr (by rw [(show kd 9 = (0, 0, false) by decide)])
    have ksn_8 := KS.w en_8 KS.rf (by unfold tS; omega)
    have e9 : n_8 (12 * ba + 1294) = nI c0 := by rw [en_8, pk_un (by omega)]; exact ec0
    have e10 : n_8 5 = nI c1 := by rw [en_8, pk_un (by omega)]; exact ec1
    have e11 : n_8 0 = nI kc0 := by rw [en_8, pk_un (by omega)]; exact ekc0
    have e12 : n_8 2 = nI kc2 := by rw [en_8, pk_un (by omega)]; exact ekc2
    have e13 : n_8 7 = nI kc7 := by rw [en_8, pk_un (by omega)]; exact ekc7
    have e14 : n_8 8 = nI kc8 := by rw [en_8, pk_un (by omega)]; exact ekc8
    have e15 : n_8 (12 * ba + 1292) = nI k3 := by rw [en_8, pk_un (by omega)]; exact ek3
    have e16 : n_8 (12 * ba + 1291) = x5 := by rw [en_8, pk_un (by omega)]; exact ex5
    have e17 : n_8 9 = x7 - (nI k3) := by rw [en_8, pk_us]
    refine pm_aloadn hG dX12_obeys_63 rfl ?_
    refine pm_iloadn hG dX12_obeys_64 rfl ?_
    refine pm_bipush (v := nI 7) hG dX12_obeys_65 (by decide) ?_
    refine pm_aloadn hG dX12_obeys_67 rfl ?_
    refine pm_iloadn hG dX12_obeys_68 rfl ?_
    refine pm_bipush (v := nI 7) hG dX12_obeys_69 (by decide) ?_
    refine pm_callV (As := [.int (nI c0), .int (nI 7)]) (rest := [.int (nI 7), .int (nI c0), .ref (B + 54)]) hG hR dX12_obeys_71 (lkX12_72 _ rfl) okV_X12_man rfl rfl (m_man (d := 4) (e := 14 * c0 + 117) (by omega) (by omega) (by omega)) rfl rfl hdd (Nat.le_refl _) (Nat.le_refl _) (Nat.le_of_ble_eq_true rfl) (pm_ki (fun v18 σ' cnt' hq => ?_))
    obtain ⟨rfl, rfl, rfl⟩ := hq
    refine pm_gen (fun x19 ex19 => ?_)
    refine pm_iloadn hG dX12_obeys_74 rfl ?_
    refine pm_iadd hG dX12_obeys_75 ?_
    refine pm_callV (As := [.int (nI c0), .int (nI 7), .int (x19 + (nI k3))]) (rest := []) hG hR dX12_obeys_76 (lkX12_97 _ rfl) okV_X12_sets rfl rfl (m_sets (d := 4) (e := 14 * c0 + 117) (by omega) (by omega) (by omega)) rfl rfl hdd (Nat.le_refl _) (Nat.le_refl _) (by decide) (pm_kv (fun σ' cnt' hq => ?_))
    obtain ⟨rfl, rfl⟩ := hq
    obtain ⟨n_20, en_20⟩ : ∃ f : Nat → Int32, f = upd n_8 (14 * c0 + 117) (x19 + (nI k3)) := ⟨_, rfl⟩
    rw [← en_20]
    have hnn_20 := KI.w en_20 hnn_8 (okv_f (show kd (14 * c0 + 117) = (0, 0, false) from (kd_P (k := c0) (c := 7) (by omega) (by omega) (by decide))))
    have hrn_20 := NRx.w en_20 hrn_8 (by rw [(show kd (14 * c0 + 117) = (0, 0, false) from (kd_P (k := c0) (c := 7) (by omega) (by omega) (by decide)))])
    have ksn_20 := KS.w en_20 ksn_8 (by unfold tS; omega)
    have e21 : n_20 (12 * ba + 1294) = nI c0 := by rw [en_20, pk_un (by omega)]; exact e9
    have e22 : n_20 5 = nI c1 := by rw [en_20, pk_un (by omega)]; exact e10
    have e23 : n_20 0 = nI kc0 := by rw [en_20, pk_un (by omega)]; exact e11
    have e24 : n_20 2 = nI kc2 := by rw [en_20, pk_un (by omega)]; exact e12
    have e25 : n_20 7 = nI kc7 := by rw [en_20, pk_un (by omega)]; exact e13
    have e26 : n_20 8 = nI kc8 := by rw [en_20, pk_un (by omega)]; exact e14
    have e27 : n_20 (12 * ba + 1292) = nI k3 := by rw [en_20, pk_un (by omega)]; exact e15
    have e28 : n_20 (12 * ba + 1291) = x5 := by rw [en_20, pk_un (by omega)]; exact e16
    have e29 : n_20 9 = x7 - (nI k3) := by rw [en_20, pk_un (by omega)]; exact e17
    have e30 : n_20 (14 * c0 + 117) = x19 + (nI k3) := by rw [en_20, pk_us]
    refine pm_aloadn hG dX12_obeys_79 rfl ?_
    refine pm_getf hG dX12_obeys_80 (flX12_7 _ rfl) rfl rfl ?_
    refine pm_bipush (v := nI 9) hG dX12_obeys_83 (by decide) ?_
    refine pm_ialdN hG dX12_obeys_85 rfl (by decide) (by omega) ?_
    refine pm_top (v := x7 - (nI k3)) e29 ?_
    exact pm_iret hG hF dX12_obeys_86 rfl (Nat.le_refl _) (Nat.le_refl _) ⟨_, rfl, ⟨_, _, _, rfl, hnn_20, hrn_20, e23.trans ekc0.symm, e24.trans ekc2.symm, e25.trans ekc7.symm, e26.trans ekc8.symm, ksn_20⟩, rfl⟩
  by_cases c31 : x5 = nI 1
  · refine pm_top (v := nI 1) c31 ?_
    refine pm_tswIn (tgt := 87) hG dX12_obeys_20 (by decide) (by decide) rfl rfl ?_
    refine pm_aloadn hG dX12_obeys_87 rfl ?_
    refine pm_iloadn hG dX12_obeys_88 rfl ?_
    obtain ⟨k32, hk32, ek32⟩ := NRx.someL hn ec1 (by omega) hr
    have gk32 := nI_inj (by omega) (by omega) (ekc0.symm.trans ek32)
    refine pm_iloadn hG dX12_obeys_89 rfl ?_
    refine pm_aloadn hG dX12_obeys_90 rfl ?_
    refine pm_getf hG dX12_obeys_91 (flX12_7 _ rfl) rfl rfl ?_
    refine pm_iconst (v := nI 0) hG dX12_obeys_94 (by decide) ?_
    refine pm_ialdN hG dX12_obeys_95 rfl (by decide) (by omega) ?_
    refine pm_top (v := nI kc0) ekc0 ?_
    refine pm_iremN hG dX12_obeys_96 (by omega) (by omega) (by omega) (fun r33 hr33 _ => ?_)
    refine pm_callV (As := [.int (nI c0), .int (nI r33)]) (rest := []) hG hR dX12_obeys_97 (lkX12_119 _ rfl) okV_X12_goes rfl rfl (m_goes (d := 4) (by decide) hn hr hz (by omega) (by omega)) rfl rfl hdd (Nat.le_refl _) (Nat.le_refl _) (by decide) (pm_ki (fun v34 σ' cnt' hq => ?_))
    obtain ⟨⟨I35, A35, n_35, rfl, hn35, hr35, hc35_0, hc35_2, hc35_7, hc35_8, hks35⟩, rfl⟩ := hq
    have e36 : n_35 0 = nI kc0 := hc35_0.trans ekc0
    have e37 : n_35 2 = nI kc2 := hc35_2.trans ekc2
    have e38 : n_35 7 = nI kc7 := hc35_7.trans ekc7
    have e39 : n_35 8 = nI kc8 := hc35_8.trans ekc8
    exact pm_iret hG hF dX12_obeys_100 rfl (Nat.le_refl _) (Nat.le_refl _) ⟨_, rfl, ⟨_, _, _, rfl, hn35, hr35, e36.trans ekc0.symm, e37.trans ekc2.symm, e38.trans ekc7.symm, e39.trans ekc8.symm, (hks35.tr KS.rf)⟩, rfl⟩
  by_cases c40 : x5 = nI 2
  · refine pm_top (v := nI 2) c40 ?_
    refine pm_tswIn (tgt := 101) hG dX12_obeys_20 (by decide) (by decide) rfl rfl ?_
    obtain ⟨k41, hk41, ek41⟩ := hob.1 (ex5.trans c40)
    have gk41 := nI_inj (by omega) (by omega) (ek3.symm.trans ek41)
    refine pm_aloadn hG dX12_obeys_101 rfl ?_
    refine pm_iloadn hG dX12_obeys_102 rfl ?_
    refine pm_iconst (v := nI 1) hG dX12_obeys_103 (by decide) ?_
    refine pm_callV (As := [.int (nI k3), .int (nI 1)]) (rest := []) hG hR dX12_obeys_104 (lkX12_110 _ rfl) okV_X12_its rfl rfl (m_its (d := 4) (e := 6 * k3 + 391) (by omega) (by omega) (by omega)) rfl rfl hdd (Nat.le_refl _) (Nat.le_refl _) (by decide) (pm_ki (fun v42 σ' cnt' hq => ?_))
    obtain ⟨rfl, rfl, rfl⟩ := hq
    rcases KI.opt hn (show kd (6 * k3 + 391) = (2, 20, false) from (kd_W (k := k3) (c := 1) (by omega) (by omega) (by decide))) with ek43 | ⟨k43, hk43, ek43⟩
    · refine pm_top (v := (-1)) ek43 ?_
      refine pm_istoreXi (loc' := [some (.ref (B + 54)), some (.int (nI ba)), some (.int (nI c0)), some (.int (nI k3)), some (.int (-1)), none, none]) hG dX12_obeys_107 (by decide) (pm_c1b rfl) rfl ?_
      refine pm_aloadn hG dX12_obeys_109 rfl ?_
      refine pm_iloadn hG dX12_obeys_110 rfl ?_
      refine pm_iconst (v := nI 1) hG dX12_obeys_111 (by decide) ?_
      refine pm_iloadn hG dX12_obeys_112 rfl ?_
      refine pm_callV (As := [.int (nI k3), .int (nI 1), .int (nI c0)]) (rest := []) hG hR dX12_obeys_113 (lkX12_113 _ rfl) okV_X12_makes rfl rfl (m_makes (d := 4) (e := 6 * k3 + 391) (by omega) (by omega) (by omega)) rfl rfl hdd (Nat.le_refl _) (Nat.le_refl _) (by decide) (pm_kv (fun σ' cnt' hq => ?_))
      obtain ⟨rfl, rfl⟩ := hq
      obtain ⟨n_44, en_44⟩ : ∃ f : Nat → Int32, f = upd n (6 * k3 + 391) (nI c0) := ⟨_, rfl⟩
      rw [← en_44]
      have hnn_44 := KI.w en_44 hn (okv_o (show kd (6 * k3 + 391) = (2, 20, false) from (kd_W (k := k3) (c := 1) (by omega) (by omega) (by decide))) (by omega))
      have hrn_44 := NRx.w en_44 hr (by rw [(show kd (6 * k3 + 391) = (2, 20, false) from (kd_W (k := k3) (c := 1) (by omega) (by omega) (by decide)))])
      have ksn_44 := KS.w en_44 KS.rf (by unfold tS; omega)
      have e45 : n_44 (12 * ba + 1294) = nI c0 := by rw [en_44, pk_un (by omega)]; exact ec0
      have e46 : n_44 5 = nI c1 := by rw [en_44, pk_un (by omega)]; exact ec1
      have e47 : n_44 0 = nI kc0 := by rw [en_44, pk_un (by omega)]; exact ekc0
      have e48 : n_44 2 = nI kc2 := by rw [en_44, pk_un (by omega)]; exact ekc2
      have e49 : n_44 7 = nI kc7 := by rw [en_44, pk_un (by omega)]; exact ekc7
      have e50 : n_44 8 = nI kc8 := by rw [en_44, pk_un (by omega)]; exact ekc8
      have e51 : n_44 (12 * ba + 1292) = nI k3 := by rw [en_44, pk_un (by omega)]; exact ek3
      have e52 : n_44 (12 * ba + 1291) = x5 := by rw [en_44, pk_un (by omega)]; exact ex5
      have e53 : n_44 (6 * k3 + 391) = nI c0 := by rw [en_44, pk_us]
      refine pm_aloadn hG dX12_obeys_116 rfl ?_
      refine pm_iloadn hG dX12_obeys_117 rfl ?_
      refine pm_callV (As := [.int (nI k3)]) (rest := []) hG hR dX12_obeys_118 (lkX12_116 _ rfl) okV_X12_comesBack rfl rfl (m_comesBack (d := 4) (e := 6 * k3 + 392) (e2 := 6 * k3 + 393) (by decide) (by omega) (by omega) (by omega)) rfl rfl hdd (Nat.le_refl _) (Nat.le_refl _) (by decide) (pm_kv (fun σ' cnt' hq => ?_))
      obtain ⟨rfl, rfl⟩ := hq
      obtain ⟨n_54, en_54⟩ : ∃ f : Nat → Int32, f = upd n_44 (6 * k3 + 392) (-1) := ⟨_, rfl⟩
      rw [← en_54]
      have hnn_54 := KI.w en_54 hnn_44 (okv_m (show kd (6 * k3 + 392) = (2, 20, false) from (kd_W (k := k3) (c := 2) (by omega) (by omega) (by decide))))
      have hrn_54 := NRx.w en_54 hrn_44 (by rw [(show kd (6 * k3 + 392) = (2, 20, false) from (kd_W (k := k3) (c := 2) (by omega) (by omega) (by decide)))])
      have ksn_54 := KS.w en_54 ksn_44 (by unfold tS; omega)
      have e55 : n_54 (12 * ba + 1294) = nI c0 := by rw [en_54, pk_un (by omega)]; exact e45
      have e56 : n_54 5 = nI c1 := by rw [en_54, pk_un (by omega)]; exact e46
      have e57 : n_54 0 = nI kc0 := by rw [en_54, pk_un (by omega)]; exact e47
      have e58 : n_54 2 = nI kc2 := by rw [en_54, pk_un (by omega)]; exact e48
      have e59 : n_54 7 = nI kc7 := by rw [en_54, pk_un (by omega)]; exact e49
      have e60 : n_54 8 = nI kc8 := by rw [en_54, pk_un (by omega)]; exact e50
      have e61 : n_54 (12 * ba + 1292) = nI k3 := by rw [en_54, pk_un (by omega)]; exact e51
      have e62 : n_54 (12 * ba + 1291) = x5 := by rw [en_54, pk_un (by omega)]; exact e52
      have e63 : n_54 (6 * k3 + 391) = nI c0 := by rw [en_54, pk_un (by omega)]; exact e53
      have e64 : n_54 (6 * k3 + 392) = (-1) := by rw [en_54, pk_us]
      obtain ⟨n_65, en_65⟩ : ∃ f : Nat → Int32, f = upd n_54 (6 * k3 + 393) (-1) := ⟨_, rfl⟩
      rw [← en_65]
      have hnn_65 := KI.w en_65 hnn_54 (okv_f (show kd (6 * k3 + 393) = (0, 0, false) from (kd_W (k := k3) (c := 3) (by omega) (by omega) (by decide))))
      have hrn_65 := NRx.w en_65 hrn_54 (by rw [(show kd (6 * k3 + 393) = (0, 0, false) from (kd_W (k := k3) (c := 3) (by omega) (by omega) (by decide)))])
      have ksn_65 := KS.w en_65 ksn_54 (by unfold tS; omega)
      have e66 : n_65 (12 * ba + 1294) = nI c0 := by rw [en_65, pk_un (by omega)]; exact e55
      have e67 : n_65 5 = nI c1 := by rw [en_65, pk_un (by omega)]; exact e56
      have e68 : n_65 0 = nI kc0 := by rw [en_65, pk_un (by omega)]; exact e57
      have e69 : n_65 2 = nI kc2 := by rw [en_65, pk_un (by omega)]; exact e58
      have e70 : n_65 7 = nI kc7 := by rw [en_65, pk_un (by omega)]; exact e59
      have e71 : n_65 8 = nI kc8 := by rw [en_65, pk_un (by omega)]; exact e60
      have e72 : n_65 (12 * ba + 1292) = nI k3 := by rw [en_65, pk_un (by omega)]; exact e61
      have e73 : n_65 (12 * ba + 1291) = x5 := by rw [en_65, pk_un (by omega)]; exact e62
      have e74 : n_65 (6 * k3 + 391) = nI c0 := by rw [en_65, pk_un (by omega)]; exact e63
      have e75 : n_65 (6 * k3 + 392) = (-1) := by rw [en_65, pk_un (by omega)]; exact e64
      have e76 : n_65 (6 * k3 + 393) = (-1) := by rw [en_65, pk_us]
      refine pm_iloadi hG dX12_obeys_121 rfl ?_
      exact pm_iret hG hF dX12_obeys_123 rfl (Nat.le_refl _) (Nat.le_refl _) ⟨_, rfl, ⟨_, _, _, rfl, hnn_65, hrn_65, e68.trans ekc0.symm, e69.trans ekc2.symm, e70.trans ekc7.symm, e71.trans ekc8.symm, ksn_65⟩, rfl⟩
    · refine pm_top (v := nI k43) ek43 ?_
      refine pm_istoreXi (loc' := [some (.ref (B + 54)), some (.int (nI ba)), some (.int (nI c0)), some (.int (nI k3)), some (.int (nI k43)), none, none]) hG dX12_obeys_107 (by decide) (pm_c1b rfl) rfl ?_
      refine pm_aloadn hG dX12_obeys_109 rfl ?_
      refine pm_iloadn hG dX12_obeys_110 rfl ?_
      refine pm_iconst (v := nI 1) hG dX12_obeys_111 (by decide) ?_
      refine pm_iloadn hG dX12_obeys_112 rfl ?_
      refine pm_callV (As := [.int (nI k3), .int (nI 1), .int (nI c0)]) (rest := []) hG hR dX12_obeys_113 (lkX12_113 _ rfl) okV_X12_makes rfl rfl (m_makes (d := 4) (e := 6 * k3 + 391) (by omega) (by omega) (by omega)) rfl rfl hdd (Nat.le_refl _) (Nat.le_refl _) (by decide) (pm_kv (fun σ' cnt' hq => ?_))
      obtain ⟨rfl, rfl⟩ := hq
      obtain ⟨n_77, en_77⟩ : ∃ f : Nat → Int32, f = upd n (6 * k3 + 391) (nI c0) := ⟨_, rfl⟩
      rw [← en_77]
      have hnn_77 := KI.w en_77 hn (okv_o (show kd (6 * k3 + 391) = (2, 20, false) from (kd_W (k := k3) (c := 1) (by omega) (by omega) (by decide))) (by omega))
      have hrn_77 := NRx.w en_77 hr (by rw [(show kd (6 * k3 + 391) = (2, 20, false) from (kd_W (k := k3) (c := 1) (by omega) (by omega) (by decide)))])
      have ksn_77 := KS.w en_77 KS.rf (by unfold tS; omega)
      have e78 : n_77 (12 * ba + 1294) = nI c0 := by rw [en_77, pk_un (by omega)]; exact ec0
      have e79 : n_77 5 = nI c1 := by rw [en_77, pk_un (by omega)]; exact ec1
      have e80 : n_77 0 = nI kc0 := by rw [en_77, pk_un (by omega)]; exact ekc0
      have e81 : n_77 2 = nI kc2 := by rw [en_77, pk_un (by omega)]; exact ekc2
      have e82 : n_77 7 = nI kc7 := by rw [en_77, pk_un (by omega)]; exact ekc7
      have e83 : n_77 8 = nI kc8 := by rw [en_77, pk_un (by omega)]; exact ekc8
      have e84 : n_77 (12 * ba + 1292) = nI k3 := by rw [en_77, pk_un (by omega)]; exact ek3
      have e85 : n_77 (12 * ba + 1291) = x5 := by rw [en_77, pk_un (by omega)]; exact ex5
      have e86 : n_77 (6 * k3 + 391) = nI c0 := by rw [en_77, pk_us]
      refine pm_aloadn hG dX12_obeys_116 rfl ?_
      refine pm_iloadn hG dX12_obeys_117 rfl ?_
      refine pm_callV (As := [.int (nI k3)]) (rest := []) hG hR dX12_obeys_118 (lkX12_116 _ rfl) okV_X12_comesBack rfl rfl (m_comesBack (d := 4) (e := 6 * k3 + 392) (e2 := 6 * k3 + 393) (by decide) (by omega) (by omega) (by omega)) rfl rfl hdd (Nat.le_refl _) (Nat.le_refl _) (by decide) (pm_kv (fun σ' cnt' hq => ?_))
      obtain ⟨rfl, rfl⟩ := hq
      obtain ⟨n_87, en_87⟩ : ∃ f : Nat → Int32, f = upd n_77 (6 * k3 + 392) (-1) := ⟨_, rfl⟩
      rw [← en_87]
      have hnn_87 := KI.w en_87 hnn_77 (okv_m (show kd (6 * k3 + 392) = (2, 20, false) from (kd_W (k := k3) (c := 2) (by omega) (by omega) (by decide))))
      have hrn_87 := NRx.w en_87 hrn_77 (by rw [(show kd (6 * k3 + 392) = (2, 20, false) from (kd_W (k := k3) (c := 2) (by omega) (by omega) (by decide)))])
      have ksn_87 := KS.w en_87 ksn_77 (by unfold tS; omega)
      have e88 : n_87 (12 * ba + 1294) = nI c0 := by rw [en_87, pk_un (by omega)]; exact e78
      have e89 : n_87 5 = nI c1 := by rw [en_87, pk_un (by omega)]; exact e79
      have e90 : n_87 0 = nI kc0 := by rw [en_87, pk_un (by omega)]; exact e80
      have e91 : n_87 2 = nI kc2 := by rw [en_87, pk_un (by omega)]; exact e81
      have e92 : n_87 7 = nI kc7 := by rw [en_87, pk_un (by omega)]; exact e82
      have e93 : n_87 8 = nI kc8 := by rw [en_87, pk_un (by omega)]; exact e83
      have e94 : n_87 (12 * ba + 1292) = nI k3 := by rw [en_87, pk_un (by omega)]; exact e84
      have e95 : n_87 (12 * ba + 1291) = x5 := by rw [en_87, pk_un (by omega)]; exact e85
      have e96 : n_87 (6 * k3 + 391) = nI c0 := by rw [en_87, pk_un (by omega)]; exact e86
      have e97 : n_87 (6 * k3 + 392) = (-1) := by rw [en_87, pk_us]
      obtain ⟨n_98, en_98⟩ : ∃ f : Nat → Int32, f = upd n_87 (6 * k3 + 393) (-1) := ⟨_, rfl⟩
      rw [← en_98]
      have hnn_98 := KI.w en_98 hnn_87 (okv_f (show kd (6 * k3 + 393) = (0, 0, false) from (kd_W (k := k3) (c := 3) (by omega) (by omega) (by decide))))
      have hrn_98 := NRx.w en_98 hrn_87 (by rw [(show kd (6 * k3 + 393) = (0, 0, false) from (kd_W (k := k3) (c := 3) (by omega) (by omega) (by decide)))])
      have ksn_98 := KS.w en_98 ksn_87 (by unfold tS; omega)
      have e99 : n_98 (12 * ba + 1294) = nI c0 := by rw [en_98, pk_un (by omega)]; exact e88
      have e100 : n_98 5 = nI c1 := by rw [en_98, pk_un (by omega)]; exact e89
      have e101 : n_98 0 = nI kc0 := by rw [en_98, pk_un (by omega)]; exact e90
      have e102 : n_98 2 = nI kc2 := by rw [en_98, pk_un (by omega)]; exact e91
      have e103 : n_98 7 = nI kc7 := by rw [en_98, pk_un (by omega)]; exact e92
      have e104 : n_98 8 = nI kc8 := by rw [en_98, pk_un (by omega)]; exact e93
      have e105 : n_98 (12 * ba + 1292) = nI k3 := by rw [en_98, pk_un (by omega)]; exact e94
      have e106 : n_98 (12 * ba + 1291) = x5 := by rw [en_98, pk_un (by omega)]; exact e95
      have e107 : n_98 (6 * k3 + 391) = nI c0 := by rw [en_98, pk_un (by omega)]; exact e96
      have e108 : n_98 (6 * k3 + 392) = (-1) := by rw [en_98, pk_un (by omega)]; exact e97
      have e109 : n_98 (6 * k3 + 393) = (-1) := by rw [en_98, pk_us]
      refine pm_iloadi hG dX12_obeys_121 rfl ?_
      exact pm_iret hG hF dX12_obeys_123 rfl (Nat.le_refl _) (Nat.le_refl _) ⟨_, rfl, ⟨_, _, _, rfl, hnn_98, hrn_98, e101.trans ekc0.symm, e102.trans ekc2.symm, e103.trans ekc7.symm, e104.trans ekc8.symm, ksn_98⟩, rfl⟩
  by_cases c110 : x5 = nI 3
  · refine pm_top (v := nI 3) c110 ?_
    refine pm_tswIn (tgt := 124) hG dX12_obeys_20 (by decide) (by decide) rfl rfl ?_
    obtain ⟨k111, hk111, ek111⟩ := hob.2 (ex5.trans c110)
    have gk111 := nI_inj (by omega) (by omega) (ek3.symm.trans ek111)
    refine pm_aloadn hG dX12_obeys_124 rfl ?_
    refine pm_getf hG dX12_obeys_125 (flX12_7 _ rfl) rfl rfl ?_
    refine pm_sipush (v := nI 510) hG dX12_obeys_128 (by decide) ?_
    refine pm_bipush (v := nI 65) hG dX12_obeys_131 (by decide) ?_
    refine pm_iloadn hG dX12_obeys_133 rfl ?_
    refine pm_imulN (c := 65 * k3) hG dX12_obeys_134 (by omega) ?_
    refine pm_iaddN (c := 65 * k3 + 510) hG dX12_obeys_135 (by omega) ?_
    refine pm_iconst (v := nI 3) hG dX12_obeys_136 (by decide) ?_
    refine pm_iaddN (c := 65 * k3 + 513) hG dX12_obeys_137 (by omega) ?_
    refine pm_aloadn hG dX12_obeys_138 rfl ?_
    refine pm_getf hG dX12_obeys_139 (flX12_7 _ rfl) rfl rfl ?_
    refine pm_bipush (v := nI 8) hG dX12_obeys_142 (by decide) ?_
    refine pm_ialdN hG dX12_obeys_144 rfl (by decide) (by omega) ?_
    refine pm_top (v := nI kc8) ekc8 ?_
    refine pm_iastN hG dX12_obeys_145 rfl (by decide) (by omega) ?_
    refine mdn_now (fun n_112 en_112 => ?_)
    have hnn_112 := KI.w en_112 hn (okv_f (show kd (65 * k3 + 513) = (0, 0, false) from (kd_L (k := k3) (c := 3) (by omega) (by omega) (by decide))))
    have hrn_112 := NRx.w en_112 hr (by rw [(show kd (65 * k3 + 513) = (0, 0, false) from (kd_L (k := k3) (c := 3) (by omega) (by omega) (by decide)))])
    have ksn_112 := KS.w en_112 KS.rf (by unfold tS; omega)
    have e113 : n_112 (12 * ba + 1294) = nI c0 := by rw [en_112, pk_un (by omega)]; exact ec0
    have e114 : n_112 5 = nI c1 := by rw [en_112, pk_un (by omega)]; exact ec1
    have e115 : n_112 0 = nI kc0 := by rw [en_112, pk_un (by omega)]; exact ekc0
    have e116 : n_112 2 = nI kc2 := by rw [en_112, pk_un (by omega)]; exact ekc2
    have e117 : n_112 7 = nI kc7 := by rw [en_112, pk_un (by omega)]; exact ekc7
    have e118 : n_112 8 = nI kc8 := by rw [en_112, pk_un (by omega)]; exact ekc8
    have e119 : n_112 (12 * ba + 1292) = nI k3 := by rw [en_112, pk_un (by omega)]; exact ek3
    have e120 : n_112 (12 * ba + 1291) = x5 := by rw [en_112, pk_un (by omega)]; exact ex5
    have e121 : n_112 (65 * k3 + 513) = nI kc8 := by rw [en_112, pk_us]
    refine pm_iconst (v := nI 1) hG dX12_obeys_146 (by decide) ?_
    exact pm_iret hG hF dX12_obeys_147 rfl (Nat.le_refl _) (Nat.le_refl _) ⟨_, rfl, ⟨_, _, _, rfl, hnn_112, hrn_112, e115.trans ekc0.symm, e116.trans ekc2.symm, e117.trans ekc7.symm, e118.trans ekc8.symm, ksn_112⟩, rfl⟩
  have tc6 : ¬ x5.toInt = 0 := fun q => c6 (Int32.toInt_inj.mp (q.trans (by decide)))
  have tc31 : ¬ x5.toInt = 1 := fun q => c31 (Int32.toInt_inj.mp (q.trans (by decide)))
  have tc40 : ¬ x5.toInt = 2 := fun q => c40 (Int32.toInt_inj.mp (q.trans (by decide)))
  have tc110 : ¬ x5.toInt = 3 := fun q => c110 (Int32.toInt_inj.mp (q.trans (by decide)))
  refine pm_tswOut (tgt := 148) hG dX12_obeys_20 (by omega) rfl ?_
  refine pm_iconst (v := nI 0) hG dX12_obeys_148 (by decide) ?_
  refine pm_istoreXi (loc' := [some (.ref (B + 54)), some (.int (nI ba)), some (.int (nI c0)), some (.int (nI k3)), none, some (.int (nI 0)), none]) hG dX12_obeys_149 (by decide) (pm_c1b rfl) rfl ?_
  refine pm_iconst (v := nI 0) hG dX12_obeys_151 (by decide) ?_
  refine pm_istoreXi (loc' := [some (.ref (B + 54)), some (.int (nI ba)), some (.int (nI c0)), some (.int (nI k3)), none, some (.int (nI 0)), some (.int (nI 0))]) hG dX12_obeys_152 (by decide) (pm_c1b rfl) rfl ?_
  have loop154_122 : ∀ (m122 : Nat) (I122 : Nat → Int32) (A122 : Nat → Nat → Int32) (n_122 : Nat → Int32) (x122_5 : Int32) (i122 : Nat), KI n_122 → KS n_122 n → NRx 40 n_122 → n_122 0 = nI kc0 → n_122 2 = nI kc2 → n_122 7 = nI kc7 → n_122 8 = nI kc8 → i122 ≤ 30 → 30 - i122 < m122 → pm_wp mX12_obeys G B 154 [some (.ref (B + 54)), some (.int (nI ba)), some (.int (nI c0)), some (.int (nI k3)), none, some (.int x122_5), some (.int (nI i122))] [] 0 0 cnt (pm_mid σ (md_L B I122 A122 n_122 k z ac wt pl (nI p0) (nI t0) im)) := by
    intro m122
    induction m122 with
    | zero => intro I122 A122 n_122 x122_5 i122 _ _ _ _ _ _ _ _ hm; exact absurd hm (Nat.not_lt_zero _)
    | succ m122 ih122 =>
      intro I122 A122 n_122 x122_5 i122 hnn_122 ksn_122 hrn_122 kc122_0 kc122_2 kc122_7 kc122_8 hi122 hm122
      refine pm_iloadi hG dX12_obeys_154 rfl ?_
      refine pm_aloadn hG dX12_obeys_156 rfl ?_
      refine pm_getf hG dX12_obeys_157 (flX12_7 _ rfl) rfl rfl ?_
      refine pm_bipush (v := nI 7) hG dX12_obeys_160 (by decide) ?_
      refine pm_ialdN hG dX12_obeys_162 rfl (by decide) (by omega) ?_
      refine pm_top (v := nI kc7) kc122_7 ?_
      refine pm_icmpN_ge (tgt := 215) hG dX12_obeys_163 rfl (by omega) (by omega) (fun c123 => ?_) (fun c123 => ?_)
      · refine pm_iloadi hG dX12_obeys_215 rfl ?_
        exact pm_iret hG hF dX12_obeys_217 rfl (Nat.le_refl _) (Nat.le_refl _) ⟨_, rfl, ⟨_, _, _, rfl, hnn_122, hrn_122, kc122_0.trans ekc0.symm, kc122_2.trans ekc2.symm, kc122_7.trans ekc7.symm, kc122_8.trans ekc8.symm, ksn_122⟩, rfl⟩
      · refine pm_aloadn hG dX12_obeys_166 rfl ?_
        refine pm_iloadi hG dX12_obeys_167 rfl ?_
        refine pm_iconst (v := nI 0) hG dX12_obeys_169 (by decide) ?_
        refine pm_callV (As := [.int (nI i122), .int (nI 0)]) (rest := []) hG hR dX12_obeys_170 (lkX12_223 _ rfl) okV_X12_promised rfl rfl (m_promised (d := 4) (e := 6 * i122 + 1806) (by omega) (by omega) (by omega)) rfl rfl hdd (Nat.le_refl _) (Nat.le_refl _) (by decide) (pm_ki (fun v124 σ' cnt' hq => ?_))
        obtain ⟨rfl, rfl, rfl⟩ := hq
        obtain ⟨k125, hk125, ek125⟩ := KI.nat hnn_122 (show kd (6 * i122 + 1806) = (1, 20, false) from (kd_Q (k := i122) (c := 0) (by omega) (by omega) (by decide)))
        refine pm_top (v := nI k125) ek125 ?_
        refine pm_iloadn hG dX12_obeys_173 rfl ?_
        refine pm_icmpN_ne (tgt := 209) hG dX12_obeys_174 rfl (by omega) (by omega) (fun c126 => ?_) (fun c126 => ?_)
        · refine pm_iincX (v := nI (i122 + 1)) (loc' := [some (.ref (B + 54)), some (.int (nI ba)), some (.int (nI c0)), some (.int (nI k3)), none, some (.int x122_5), some (.int (nI (i122 + 1)))]) hG dX12_obeys_209 rfl (nI_1 _) (by decide) (pm_c1b rfl) rfl ?_
          refine pm_goto (tgt := 154) hG dX12_obeys_212 rfl ?_
          exact ih122 I122 A122 n_122 x122_5 (i122 + 1) hnn_122 ksn_122 hrn_122 (kc122_0.trans (congrArg nI (by omega))) (kc122_2.trans (congrArg nI (by omega))) (kc122_7.trans (congrArg nI (by omega))) (kc122_8.trans (congrArg nI (by omega))) (by omega) (by omega)
        · refine pm_aloadn hG dX12_obeys_177 rfl ?_
          refine pm_iloadi hG dX12_obeys_178 rfl ?_
          refine pm_callV (As := [.int (nI i122)]) (rest := []) hG hR dX12_obeys_180 (lkX12_226 _ rfl) okV_X12_stands rfl rfl (m_stands (d := 4) (by decide) hnn_122 hz (by omega)) rfl rfl hdd (Nat.le_refl _) (Nat.le_refl _) (by decide) (pm_ki (fun v127 σ' cnt' hq => ?_))
          obtain ⟨rfl, rfl, bv127⟩ := hq
          refine pm_if_ne (tgt := 189) hG dX12_obeys_183 rfl (fun c129 => ?_) (fun c129 => ?_)
          · refine pm_aloadn hG dX12_obeys_189 rfl ?_
            refine pm_getf hG dX12_obeys_190 (flX12_7 _ rfl) rfl rfl ?_
            refine pm_sipush (v := nI 1806) hG dX12_obeys_193 (by decide) ?_
            refine pm_bipush (v := nI 6) hG dX12_obeys_196 (by decide) ?_
            refine pm_iloadi hG dX12_obeys_198 rfl ?_
            refine pm_imulN (c := 6 * i122) hG dX12_obeys_200 (by omega) ?_
            refine pm_iaddN (c := 6 * i122 + 1806) hG dX12_obeys_201 (by omega) ?_
            refine pm_iconst (v := nI 4) hG dX12_obeys_202 (by decide) ?_
            refine pm_iaddN (c := 6 * i122 + 1810) hG dX12_obeys_203 (by omega) ?_
            refine pm_iconst (v := nI 1) hG dX12_obeys_204 (by decide) ?_
            refine pm_iastN hG dX12_obeys_205 rfl (by decide) (by omega) ?_
            refine mdn_now (fun n_130 en_130 => ?_)
            have hnn_130 := KI.w en_130 hnn_122 (okv_f (show kd (6 * i122 + 1810) = (0, 0, false) from (kd_Q (k := i122) (c := 4) (by omega) (by omega) (by decide))))
            have hrn_130 := NRx.w en_130 hrn_122 (by rw [(show kd (6 * i122 + 1810) = (0, 0, false) from (kd_Q (k := i122) (c := 4) (by omega) (by omega) (by decide)))])
            have ksn_130 := KS.w en_130 ksn_122 (by unfold tS; omega)
            have e131 : n_130 0 = nI kc0 := by rw [en_130, pk_un (by omega)]; exact kc122_0
            have e132 : n_130 2 = nI kc2 := by rw [en_130, pk_un (by omega)]; exact kc122_2
            have e133 : n_130 7 = nI kc7 := by rw [en_130, pk_un (by omega)]; exact kc122_7
            have e134 : n_130 8 = nI kc8 := by rw [en_130, pk_un (by omega)]; exact kc122_8
            have e135 : n_130 (6 * i122 + 1806) = nI k125 := by rw [en_130, pk_un (by omega)]; exact ek125
            have e136 : n_130 (6 * i122 + 1810) = nI 1 := by rw [en_130, pk_us]
            refine pm_iincX (v := x122_5 + 1) (loc' := [some (.ref (B + 54)), some (.int (nI ba)), some (.int (nI c0)), some (.int (nI k3)), none, some (.int (x122_5 + 1)), some (.int (nI i122))]) hG dX12_obeys_206 rfl (by rfl) (by decide) (pm_c1b rfl) rfl ?_
            refine pm_iincX (v := nI (i122 + 1)) (loc' := [some (.ref (B + 54)), some (.int (nI ba)), some (.int (nI c0)), some (.int (nI k3)), none, some (.int (x122_5 + 1)), some (.int (nI (i122 + 1)))]) hG dX12_obeys_209 rfl (nI_1 _) (by decide) (pm_c1b rfl) rfl ?_
            refine pm_goto (tgt := 154) hG dX12_obeys_212 rfl ?_
            exact ih122 I122 A122 n_130 (x122_5 + 1) (i122 + 1) hnn_130 ksn_130 hrn_130 (e131.trans (congrArg nI (by omega))) (e132.trans (congrArg nI (by omega))) (e133.trans (congrArg nI (by omega))) (e134.trans (congrArg nI (by omega))) (by omega) (by omega)
          · refine pm_goto (tgt := 209) hG dX12_obeys_186 rfl ?_
            refine pm_iincX (v := nI (i122 + 1)) (loc' := [some (.ref (B + 54)), some (.int (nI ba)), some (.int (nI c0)), some (.int (nI k3)), none, some (.int x122_5), some (.int (nI (i122 + 1)))]) hG dX12_obeys_209 rfl (nI_1 _) (by decide) (pm_c1b rfl) rfl ?_
            refine pm_goto (tgt := 154) hG dX12_obeys_212 rfl ?_
            exact ih122 I122 A122 n_122 x122_5 (i122 + 1) hnn_122 ksn_122 hrn_122 (kc122_0.trans (congrArg nI (by omega))) (kc122_2.trans (congrArg nI (by omega))) (kc122_7.trans (congrArg nI (by omega))) (kc122_8.trans (congrArg nI (by omega))) (by omega) (by omega)
  exact loop154_122 _ I A n (nI 0) 0 hn KS.rf hr (ekc0.trans (congrArg nI (by omega))) (ekc2.trans (congrArg nI (by omega))) (ekc7.trans (congrArg nI (by omega))) (ekc8.trans (congrArg nI (by omega))) (by omega) (Nat.lt_succ_self _)

set_option maxRecDepth 100000 in
set_option maxHeartbeats 4000000 in
theorem m_obey {d B cnt p0 t0 : Nat} {σ : pm_S} {I : Nat → Int32} {A : Nat → Nat → Int32} {n k z : Nat → Int32} {ac wt pl im : Int32} {za : Int32} (hdd : 6 ≤ d) (hn : KI n) (hr : NR n) (hz : SZ z)  : pm_met mX12_obey d 0 0 B [.ref (B + 54), .int za] cnt (pm_mid σ (md_L B I A n k z ac wt pl (nI p0) (nI t0) im)) (pm_Qi (fun v σ' cnt' => (∃ (I' : Nat → Int32) (A' : Nat → Nat → Int32) (n' : Nat → Int32), σ' = pm_mid σ (md_L B I' A' n' k z ac wt pl (nI p0) (nI t0) im) ∧ KI n' ∧ NR n' ∧ n' 0 = n 0 ∧ n' 2 = n 2 ∧ n' 7 = n 7 ∧ n' 8 = n 8 ∧ KS n' n) ∧ cnt = cnt')) := by
  obtain ⟨kc0, hkc0, ekc0⟩ := KI.nat hn (show kd 0 = (1, 11, true) by decide)
  obtain ⟨kc2, hkc2, ekc2⟩ := KI.nat hn (show kd 2 = (1, 21, true) by decide)
  obtain ⟨kc7, hkc7, ekc7⟩ := KI.nat hn (show kd 7 = (1, 31, false) by decide)
  obtain ⟨kc8, hkc8, ekc8⟩ := KI.nat hn (show kd 8 = (1, 2001, false) by decide)
  refine pm_enter 0 (by decide) (Nat.le_of_ble_eq_true rfl) rfl (fun G hG hR hF => ?_)
  refine pm_aloadn hG dX12_obey_0 rfl ?_
  refine pm_iloadn hG dX12_obey_1 rfl ?_
  obtain ⟨k1, hk1, ek1⟩ := KI.nat hn (show kd 5 = (1, 41, true) by decide)
  refine pm_callV (As := [.int za]) (rest := []) hG hR dX12_obey_2 (lkX12_211 _ rfl) okV_X12_isLetter rfl rfl (m_isLetter (d := 5) (by decide) ek1 (by omega)) rfl rfl hdd (Nat.le_refl _) (Nat.le_refl _) (by decide) (pm_ki (fun v2 σ' cnt' hq => ?_))
  obtain ⟨hq, rfl, rfl⟩ := hq
  rcases hq with ⟨rfl, k4, hk4, ek4⟩ | rfl
  · refine pm_ifN_ne (tgt := 14) hG dX12_obey_5 rfl (by omega) (fun _ => ?_) (fun q => absurd q (by omega))
    refine pm_aloadn hG dX12_obey_14 rfl ?_
    refine pm_iloadn hG dX12_obey_15 rfl ?_
    refine pm_top (v := nI k4) ek4 ?_
    refine pm_bipush (v := nI 6) hG dX12_obey_16 (by decide) ?_
    refine pm_callV (As := [.int (nI k4), .int (nI 6)]) (rest := []) hG hR dX12_obey_18 (lkX12_199 _ rfl) okV_X12_of rfl rfl (m_of (d := 5) (e := 12 * k4 + 1296) (by omega) (by omega) (by omega)) rfl rfl hdd (Nat.le_refl _) (Nat.le_refl _) (by decide) (pm_ki (fun v5 σ' cnt' hq => ?_))
    obtain ⟨rfl, rfl, rfl⟩ := hq
    refine pm_gen (fun x6 ex6 => ?_)
    refine pm_if_lt (tgt := 48) hG dX12_obey_21 rfl (fun c7 => ?_) (fun c7 => ?_)
    · refine pm_aloadn hG dX12_obey_48 rfl ?_
      refine pm_iconst (v := nI 3) hG dX12_obey_49 (by decide) ?_
      refine pm_callV (As := [.int (nI 3)]) (rest := []) hG hR dX12_obey_50 (lkX12_80 _ rfl) okV_X12_finds rfl rfl (m_finds (d := 5) (by decide) hn hz (by omega)) rfl rfl hdd (Nat.le_refl _) (Nat.le_refl _) (by decide) (pm_ki (fun v8 σ' cnt' hq => ?_))
      obtain ⟨⟨I9, A9, rfl⟩, rfl, fv8⟩ := hq
      exact pm_iret hG hF dX12_obey_53 rfl (Nat.le_refl _) (Nat.le_refl _) ⟨_, rfl, ⟨_, _, _, rfl, hn, hr, ekc0.trans ekc0.symm, ekc2.trans ekc2.symm, ekc7.trans ekc7.symm, ekc8.trans ekc8.symm, KS.rf⟩, rfl⟩
    · obtain ⟨k10, hk10, ek10⟩ := nI_of c7
      refine pm_aloadn hG dX12_obey_24 rfl ?_
      refine pm_iloadn hG dX12_obey_25 rfl ?_
      refine pm_top (v := nI k4) ek4 ?_
      refine pm_bipush (v := nI 8) hG dX12_obey_26 (by decide) ?_
      refine pm_callV (As := [.int (nI k4), .int (nI 8)]) (rest := []) hG hR dX12_obey_28 (lkX12_199 _ rfl) okV_X12_of rfl rfl (m_of (d := 5) (e := 12 * k4 + 1298) (by omega) (by omega) (by omega)) rfl rfl hdd (Nat.le_refl _) (Nat.le_refl _) (by decide) (pm_ki (fun v11 σ' cnt' hq => ?_))
      obtain ⟨rfl, rfl, rfl⟩ := hq
      refine pm_gen (fun x12 ex12 => ?_)
      refine pm_iconst (v := nI 1) hG dX12_obey_31 (by decide) ?_
      refine pm_icmp_eq (tgt := 48) hG dX12_obey_32 rfl (fun c13 => ?_) (fun c13 => ?_)
      · refine pm_aloadn hG dX12_obey_48 rfl ?_
        refine pm_iconst (v := nI 3) hG dX12_obey_49 (by decide) ?_
        refine pm_callV (As := [.int (nI 3)]) (rest := []) hG hR dX12_obey_50 (lkX12_80 _ rfl) okV_X12_finds rfl rfl (m_finds (d := 5) (by decide) hn hz (by omega)) rfl rfl hdd (Nat.le_refl _) (Nat.le_refl _) (by decide) (pm_ki (fun v14 σ' cnt' hq => ?_))
        obtain ⟨⟨I15, A15, rfl⟩, rfl, fv14⟩ := hq
        exact pm_iret hG hF dX12_obey_53 rfl (Nat.le_refl _) (Nat.le_refl _) ⟨_, rfl, ⟨_, _, _, rfl, hn, hr, ekc0.trans ekc0.symm, ekc2.trans ekc2.symm, ekc7.trans ekc7.symm, ekc8.trans ekc8.symm, KS.rf⟩, rfl⟩
      · refine pm_aloadn hG dX12_obey_35 rfl ?_
        refine pm_aloadn hG dX12_obey_36 rfl ?_
        refine pm_iloadn hG dX12_obey_37 rfl ?_
        refine pm_top (v := nI k4) ek4 ?_
        obtain ⟨k16, hk16, ek16⟩ := KI.sent (l := k4) hn hr (by omega) (by rw [ex6, ek10]; exact nI_m1 (by omega))
        refine pm_iconst (v := nI 4) hG dX12_obey_38 (by decide) ?_
        refine pm_callV (As := [.int (nI k4), .int (nI 4)]) (rest := [.ref (B + 54)]) hG hR dX12_obey_39 (lkX12_199 _ rfl) okV_X12_of rfl rfl (m_of (d := 5) (e := 12 * k4 + 1294) (by omega) (by omega) (by omega)) rfl rfl hdd (Nat.le_refl _) (Nat.le_refl _) (Nat.le_of_ble_eq_true rfl) (pm_ki (fun v17 σ' cnt' hq => ?_))
        obtain ⟨rfl, rfl, rfl⟩ := hq
        refine pm_top (v := nI k16) ek16 ?_
        rcases KI.opt hn (show kd (14 * k16 + 119) = (2, 2001, false) from (kd_P (k := k16) (c := 9) (by omega) (by omega) (by decide))) with ek18 | ⟨k18, hk18, ek18⟩
        · refine pm_callV (As := [.int (nI k16)]) (rest := []) hG hR dX12_obey_42 (lkX12_101 _ rfl) okV_X12_lives rfl rfl (m_lives1 (d := 5) (by decide) (by omega) (by omega : 14 * k16 + 119 = 14 * k16 + 119) ek18) rfl rfl hdd (Nat.le_refl _) (Nat.le_refl _) (by decide) (pm_ki (fun v19 σ' cnt' hq => ?_))
          obtain ⟨rfl, rfl, rfl⟩ := hq
          refine pm_ifN_ne (tgt := 54) hG dX12_obey_45 rfl (by omega) (fun _ => ?_) (fun q => absurd q (by omega))
          refine pm_aloadn hG dX12_obey_54 rfl ?_
          refine pm_iloadn hG dX12_obey_55 rfl ?_
          refine pm_top (v := nI k4) ek4 ?_
          refine pm_bipush (v := nI 7) hG dX12_obey_56 (by decide) ?_
          refine pm_callV (As := [.int (nI k4), .int (nI 7)]) (rest := []) hG hR dX12_obey_58 (lkX12_199 _ rfl) okV_X12_of rfl rfl (m_of (d := 5) (e := 12 * k4 + 1297) (by omega) (by omega) (by omega)) rfl rfl hdd (Nat.le_refl _) (Nat.le_refl _) (by decide) (pm_ki (fun v20 σ' cnt' hq => ?_))
          obtain ⟨rfl, rfl, rfl⟩ := hq
          refine pm_gen (fun x21 ex21 => ?_)
          refine pm_iconst (v := nI 1) hG dX12_obey_61 (by decide) ?_
          refine pm_icmp_eq (tgt := 71) hG dX12_obey_62 rfl (fun c22 => ?_) (fun c22 => ?_)
          · refine pm_aloadn hG dX12_obey_71 rfl ?_
            refine pm_iloadn hG dX12_obey_72 rfl ?_
            refine pm_top (v := nI k4) ek4 ?_
            refine pm_callV (As := [.int (nI k4)]) (rest := []) hG hR dX12_obey_73 (lkX12_229 _ rfl) okV_X12_cannot rfl rfl (m_cannot (d := 5) (by decide) hn hr hz (by omega) ek16 (by omega) ek1 (by omega) (by omega)) rfl rfl hdd (Nat.le_refl _) (Nat.le_refl _) (by decide) (pm_ki (fun v23 σ' cnt' hq => ?_))
            obtain ⟨⟨I24, A24, rfl⟩, rfl, rv24⟩ := hq
            rcases rv24 with rfl | ⟨rfl, ob24⟩
            · refine pm_ifN_eq (tgt := 85) hG dX12_obey_76 rfl (by omega) (fun q => absurd q (by omega)) (fun _ => ?_)
              refine pm_aloadn hG dX12_obey_79 rfl ?_
              refine pm_iconst (v := nI 2) hG dX12_obey_80 (by decide) ?_
              refine pm_callV (As := [.int (nI 2)]) (rest := []) hG hR dX12_obey_81 (lkX12_80 _ rfl) okV_X12_finds rfl rfl (m_finds (d := 5) (by decide) hn hz (by omega)) rfl rfl hdd (Nat.le_refl _) (Nat.le_refl _) (by decide) (pm_ki (fun v25 σ' cnt' hq => ?_))
              obtain ⟨⟨I26, A26, rfl⟩, rfl, fv25⟩ := hq
              exact pm_iret hG hF dX12_obey_84 rfl (Nat.le_refl _) (Nat.le_refl _) ⟨_, rfl, ⟨_, _, _, rfl, hn, hr, ekc0.trans ekc0.symm, ekc2.trans ekc2.symm, ekc7.trans ekc7.symm, ekc8.trans ekc8.symm, KS.rf⟩, rfl⟩
            · refine pm_ifN_eq (tgt := 85) hG dX12_obey_76 rfl (by omega) (fun _ => ?_) (fun q => absurd q (by omega))
              refine pm_aloadn hG dX12_obey_85 rfl ?_
              refine pm_iloadn hG dX12_obey_86 rfl ?_
              refine pm_top (v := nI k4) ek4 ?_
              refine pm_bipush (v := nI 8) hG dX12_obey_87 (by decide) ?_
              refine pm_iconst (v := nI 1) hG dX12_obey_89 (by decide) ?_
              refine pm_callV (As := [.int (nI k4), .int (nI 8), .int (nI 1)]) (rest := []) hG hR dX12_obey_90 (lkX12_217 _ rfl) okV_X12_writes rfl rfl (m_writes (d := 5) (e := 12 * k4 + 1298) (by omega) (by omega) (by omega)) rfl rfl hdd (Nat.le_refl _) (Nat.le_refl _) (by decide) (pm_kv (fun σ' cnt' hq => ?_))
              obtain ⟨rfl, rfl⟩ := hq
              obtain ⟨n_27, en_27⟩ : ∃ f : Nat → Int32, f = upd n (12 * k4 + 1298) (nI 1) := ⟨_, rfl⟩
              rw [← en_27]
              have hnn_27 := KI.w en_27 hn (okv_f (show kd (12 * k4 + 1298) = (0, 0, false) from (kd_E (k := k4) (c := 8) (by omega) (by omega) (by decide))))
              have hrn_27 := NRx.w en_27 hr (by rw [(show kd (12 * k4 + 1298) = (0, 0, false) from (kd_E (k := k4) (c := 8) (by omega) (by omega) (by decide)))])
              have ksn_27 := KS.w en_27 KS.rf (by unfold tS; omega)
              have e28 : n_27 0 = nI kc0 := by rw [en_27, pk_un (by omega)]; exact ekc0
              have e29 : n_27 2 = nI kc2 := by rw [en_27, pk_un (by omega)]; exact ekc2
              have e30 : n_27 7 = nI kc7 := by rw [en_27, pk_un (by omega)]; exact ekc7
              have e31 : n_27 8 = nI kc8 := by rw [en_27, pk_un (by omega)]; exact ekc8
              have e32 : n_27 5 = nI k1 := by rw [en_27, pk_un (by omega)]; exact ek1
              have e33 : n_27 (12 * k4 + 1296) = x6 := by rw [en_27, pk_un (by omega)]; exact ex6
              have e34 : n_27 (12 * k4 + 1294) = nI k16 := by rw [en_27, pk_un (by omega)]; exact ek16
              have e35 : n_27 (14 * k16 + 119) = (-1) := by rw [en_27, pk_un (by omega)]; exact ek18
              have e36 : n_27 (12 * k4 + 1297) = x21 := by rw [en_27, pk_un (by omega)]; exact ex21
              have e37 : n_27 (12 * k4 + 1298) = nI 1 := by rw [en_27, pk_us]
              have o38 : obOK n_27 k4 := by
                unfold obOK
                rw [en_27, pk_un (by omega), pk_un (by omega)]; exact ob24
              refine pm_aloadn hG dX12_obey_93 rfl ?_
              refine pm_iloadn hG dX12_obey_94 rfl ?_
              refine pm_top (v := nI k4) ek4 ?_
              refine pm_callV (As := [.int (nI k4)]) (rest := []) hG hR dX12_obey_95 (lkX12_232 _ rfl) okV_X12_obeys rfl rfl (m_obeys (d := 5) (by decide) hnn_27 hrn_27 hz (by omega) e34 (by omega) e32 (by omega) (by omega) o38) rfl rfl hdd (Nat.le_refl _) (Nat.le_refl _) (by decide) (pm_ki (fun v39 σ' cnt' hq => ?_))
              obtain ⟨⟨I40, A40, n_40, rfl, hn40, hr40, hc40_0, hc40_2, hc40_7, hc40_8, hks40⟩, rfl⟩ := hq
              have e41 : n_40 0 = nI kc0 := hc40_0.trans e28
              have e42 : n_40 2 = nI kc2 := hc40_2.trans e29
              have e43 : n_40 7 = nI kc7 := hc40_7.trans e30
              have e44 : n_40 8 = nI kc8 := hc40_8.trans e31
              exact pm_iret hG hF dX12_obey_98 rfl (Nat.le_refl _) (Nat.le_refl _) ⟨_, rfl, ⟨_, _, _, rfl, hn40, hr40, e41.trans ekc0.symm, e42.trans ekc2.symm, e43.trans ekc7.symm, e44.trans ekc8.symm, (hks40.tr ksn_27)⟩, rfl⟩
          · refine pm_aloadn hG dX12_obey_65 rfl ?_
            refine pm_iconst (v := nI 5) hG dX12_obey_66 (by decide) ?_
            refine pm_callV (As := [.int (nI 5)]) (rest := []) hG hR dX12_obey_67 (lkX12_80 _ rfl) okV_X12_finds rfl rfl (m_finds (d := 5) (by decide) hn hz (by omega)) rfl rfl hdd (Nat.le_refl _) (Nat.le_refl _) (by decide) (pm_ki (fun v45 σ' cnt' hq => ?_))
            obtain ⟨⟨I46, A46, rfl⟩, rfl, fv45⟩ := hq
            exact pm_iret hG hF dX12_obey_70 rfl (Nat.le_refl _) (Nat.le_refl _) ⟨_, rfl, ⟨_, _, _, rfl, hn, hr, ekc0.trans ekc0.symm, ekc2.trans ekc2.symm, ekc7.trans ekc7.symm, ekc8.trans ekc8.symm, KS.rf⟩, rfl⟩
        · refine pm_callV (As := [.int (nI k16)]) (rest := []) hG hR dX12_obey_42 (lkX12_101 _ rfl) okV_X12_lives rfl rfl (m_lives0 (d := 5) (by decide) (by omega) (by omega : 14 * k16 + 119 = 14 * k16 + 119) ek18 (by omega)) rfl rfl hdd (Nat.le_refl _) (Nat.le_refl _) (by decide) (pm_ki (fun v47 σ' cnt' hq => ?_))
          obtain ⟨rfl, rfl, rfl⟩ := hq
          refine pm_ifN_ne (tgt := 54) hG dX12_obey_45 rfl (by omega) (fun q => absurd q (by omega)) (fun _ => ?_)
          refine pm_aloadn hG dX12_obey_48 rfl ?_
          refine pm_iconst (v := nI 3) hG dX12_obey_49 (by decide) ?_
          refine pm_callV (As := [.int (nI 3)]) (rest := []) hG hR dX12_obey_50 (lkX12_80 _ rfl) okV_X12_finds rfl rfl (m_finds (d := 5) (by decide) hn hz (by omega)) rfl rfl hdd (Nat.le_refl _) (Nat.le_refl _) (by decide) (pm_ki (fun v48 σ' cnt' hq => ?_))
          obtain ⟨⟨I49, A49, rfl⟩, rfl, fv48⟩ := hq
          exact pm_iret hG hF dX12_obey_53 rfl (Nat.le_refl _) (Nat.le_refl _) ⟨_, rfl, ⟨_, _, _, rfl, hn, hr, ekc0.trans ekc0.symm, ekc2.trans ekc2.symm, ekc7.trans ekc7.symm, ekc8.trans ekc8.symm, KS.rf⟩, rfl⟩
  · refine pm_ifN_ne (tgt := 14) hG dX12_obey_5 rfl (by omega) (fun q => absurd q (by omega)) (fun _ => ?_)
    refine pm_aloadn hG dX12_obey_8 rfl ?_
    refine pm_iconst (v := nI 1) hG dX12_obey_9 (by decide) ?_
    refine pm_callV (As := [.int (nI 1)]) (rest := []) hG hR dX12_obey_10 (lkX12_80 _ rfl) okV_X12_finds rfl rfl (m_finds (d := 5) (by decide) hn hz (by omega)) rfl rfl hdd (Nat.le_refl _) (Nat.le_refl _) (by decide) (pm_ki (fun v50 σ' cnt' hq => ?_))
    obtain ⟨⟨I51, A51, rfl⟩, rfl, fv50⟩ := hq
    exact pm_iret hG hF dX12_obey_13 rfl (Nat.le_refl _) (Nat.le_refl _) ⟨_, rfl, ⟨_, _, _, rfl, hn, hr, ekc0.trans ekc0.symm, ekc2.trans ekc2.symm, ekc7.trans ekc7.symm, ekc8.trans ekc8.symm, KS.rf⟩, rfl⟩

set_option maxRecDepth 100000 in
set_option maxHeartbeats 4000000 in
theorem m_comesTo_m_n20_n40 {d B cnt p0 t0 : Nat} {σ : pm_S} {I : Nat → Int32} {A : Nat → Nat → Int32} {n k z : Nat → Int32} {ac wt pl im : Int32} {zd : Int32} {bb bc : Nat} (hdd : 1 ≤ d) (hn : KI n) (hr : NR n) (hz : SZ z) (hbb : bb < 20) (hbc : bc < 40) : pm_met mX12_comesTo d 0 0 B [.ref (B + 54), .int (-1), .int (nI bb), .int (nI bc), .int zd] cnt (pm_mid σ (md_L B I A n k z ac wt pl (nI p0) (nI t0) im)) (pm_Qi (fun v σ' cnt' => (∃ (I' : Nat → Int32) (A' : Nat → Nat → Int32), σ' = pm_mid σ (md_L B I' A' n k z ac wt pl (nI p0) (nI t0) im)) ∧ cnt = cnt')) := by
  refine pm_enter 4 (by decide) (Nat.le_of_ble_eq_true rfl) rfl (fun G hG hR hF => ?_)
  refine pm_iloadn hG dX12_comesTo_0 rfl ?_
  refine pm_if_ge (tgt := 6) hG dX12_comesTo_1 rfl (fun q => absurd q (by decide)) (fun _ => ?_)
  refine pm_iconst (v := nI 1) hG dX12_comesTo_4 (by decide) ?_
  exact pm_iret hG hF dX12_comesTo_5 rfl (Nat.le_refl _) (Nat.le_refl _) ⟨_, rfl, ⟨_, _, rfl⟩, rfl⟩

set_option maxRecDepth 100000 in
set_option maxHeartbeats 4000000 in
theorem m_setNames_n20_n40 {d B cnt p0 t0 : Nat} {σ : pm_S} {I : Nat → Int32} {A : Nat → Nat → Int32} {n k z : Nat → Int32} {ac wt pl im : Int32} {zc : Int32} {ba bb : Nat} (hdd : 2 ≤ d) (hn : KI n) (hz : SZ z) (hba : ba < 20) (hbb : bb < 40) : pm_met mX12_setNames d 0 0 B [.ref (B + 54), .int (nI ba), .int (nI bb), .int zc] cnt (pm_mid σ (md_L B I A n k z ac wt pl (nI p0) (nI t0) im)) (pm_Qv (fun σ' cnt' => (∃ (I' : Nat → Int32) (A' : Nat → Nat → Int32), σ' = pm_mid σ (md_L B I' A' n k z ac wt pl (nI p0) (nI t0) im)) ∧ cnt = cnt')) := by
  refine pm_enter 0 (by decide) (Nat.le_of_ble_eq_true rfl) rfl (fun G hG hR hF => ?_)
  refine pm_aloadn hG dX12_setNames_0 rfl ?_
  refine pm_getf hG dX12_setNames_1 (flX12_34 _ rfl) rfl rfl ?_
  refine pm_iconst (v := nI 0) hG dX12_setNames_4 (by decide) ?_
  refine pm_iloadn hG dX12_setNames_5 rfl ?_
  refine pm_ifN_ge (tgt := 13) hG dX12_setNames_6 rfl (by omega) ?_
  refine pm_iloadn hG dX12_setNames_13 rfl ?_
  refine pm_aloadn hG dX12_setNames_14 rfl ?_
  refine pm_iloadn hG dX12_setNames_15 rfl ?_
  refine pm_iconst (v := nI 1) hG dX12_setNames_16 (by decide) ?_
  refine pm_callV (As := [.int (nI ba), .int (nI 1)]) (rest := [.int zc, .int (nI 0), .ref (B + 63)]) hG hR dX12_setNames_17 (lkX12_72 _ rfl) okV_X12_man rfl rfl (m_man (d := 1) (e := 14 * ba + 111) (by omega) (by omega) (by omega)) rfl rfl hdd (Nat.le_refl _) (Nat.le_refl _) (Nat.le_of_ble_eq_true rfl) (pm_ki (fun v1 σ' cnt' hq => ?_))
  obtain ⟨rfl, rfl, rfl⟩ := hq
  refine pm_gen (fun x2 ex2 => ?_)
  refine pm_isub hG dX12_setNames_20 ?_
  refine pm_sipush (v := nI 360) hG dX12_setNames_21 (by decide) ?_
  refine pm_idiv hG dX12_setNames_24 (by decide) ?_
  refine pm_any (fun x3 => ?_)
  refine pm_iastN hG dX12_setNames_25 rfl (by decide) (by omega) ?_
  refine mdn_names (fun A_4 => ?_)
  refine pm_aloadn hG dX12_setNames_26 rfl ?_
  refine pm_getf hG dX12_setNames_27 (flX12_34 _ rfl) rfl rfl ?_
  refine pm_iconst (v := nI 1) hG dX12_setNames_30 (by decide) ?_
  refine pm_iloadn hG dX12_setNames_31 rfl ?_
  refine pm_ifN_ge (tgt := 39) hG dX12_setNames_32 rfl (by omega) ?_
  refine pm_aloadn hG dX12_setNames_39 rfl ?_
  refine pm_iloadn hG dX12_setNames_40 rfl ?_
  refine pm_iconst (v := nI 0) hG dX12_setNames_41 (by decide) ?_
  refine pm_callV (As := [.int (nI ba), .int (nI 0)]) (rest := [.int (nI 1), .ref (B + 63)]) hG hR dX12_setNames_42 (lkX12_72 _ rfl) okV_X12_man rfl rfl (m_man (d := 1) (e := 14 * ba + 110) (by omega) (by omega) (by omega)) rfl rfl hdd (Nat.le_refl _) (Nat.le_refl _) (Nat.le_of_ble_eq_true rfl) (pm_ki (fun v5 σ' cnt' hq => ?_))
  obtain ⟨rfl, rfl, rfl⟩ := hq
  refine pm_gen (fun x6 ex6 => ?_)
  refine pm_iastN hG dX12_setNames_45 rfl (by decide) (by omega) ?_
  refine mdn_names (fun A_7 => ?_)
  refine pm_aloadn hG dX12_setNames_46 rfl ?_
  refine pm_getf hG dX12_setNames_47 (flX12_34 _ rfl) rfl rfl ?_
  refine pm_iconst (v := nI 2) hG dX12_setNames_50 (by decide) ?_
  refine pm_iloadn hG dX12_setNames_51 rfl ?_
  refine pm_ifN_ge (tgt := 59) hG dX12_setNames_52 rfl (by omega) ?_
  refine pm_aloadn hG dX12_setNames_59 rfl ?_
  refine pm_iloadn hG dX12_setNames_60 rfl ?_
  refine pm_callV (As := [.int (nI ba)]) (rest := [.int (nI 2), .ref (B + 63)]) hG hR dX12_setNames_61 (lkX12_122 _ rfl) okV_X12_holdsMany rfl rfl (m_holdsMany (d := 1) (by decide) hn hz) rfl rfl hdd (Nat.le_refl _) (Nat.le_refl _) (Nat.le_of_ble_eq_true rfl) (pm_ki (fun v8 σ' cnt' hq => ?_))
  obtain ⟨rfl, rfl⟩ := hq
  refine pm_iastN hG dX12_setNames_64 rfl (by decide) (by omega) ?_
  refine mdn_names (fun A_10 => ?_)
  refine pm_aloadn hG dX12_setNames_65 rfl ?_
  refine pm_getf hG dX12_setNames_66 (flX12_34 _ rfl) rfl rfl ?_
  refine pm_iconst (v := nI 3) hG dX12_setNames_69 (by decide) ?_
  refine pm_iloadn hG dX12_setNames_70 rfl ?_
  refine pm_ifN_ge (tgt := 78) hG dX12_setNames_71 rfl (by omega) ?_
  refine pm_aloadn hG dX12_setNames_78 rfl ?_
  refine pm_iloadn hG dX12_setNames_79 rfl ?_
  refine pm_bipush (v := nI 7) hG dX12_setNames_80 (by decide) ?_
  refine pm_callV (As := [.int (nI ba), .int (nI 7)]) (rest := [.int (nI 3), .ref (B + 63)]) hG hR dX12_setNames_82 (lkX12_72 _ rfl) okV_X12_man rfl rfl (m_man (d := 1) (e := 14 * ba + 117) (by omega) (by omega) (by omega)) rfl rfl hdd (Nat.le_refl _) (Nat.le_refl _) (Nat.le_of_ble_eq_true rfl) (pm_ki (fun v11 σ' cnt' hq => ?_))
  obtain ⟨rfl, rfl, rfl⟩ := hq
  refine pm_gen (fun x12 ex12 => ?_)
  refine pm_iastN hG dX12_setNames_85 rfl (by decide) (by omega) ?_
  refine mdn_names (fun A_13 => ?_)
  refine pm_aloadn hG dX12_setNames_86 rfl ?_
  refine pm_getf hG dX12_setNames_87 (flX12_34 _ rfl) rfl rfl ?_
  refine pm_iconst (v := nI 4) hG dX12_setNames_90 (by decide) ?_
  refine pm_iloadn hG dX12_setNames_91 rfl ?_
  refine pm_ifN_ge (tgt := 99) hG dX12_setNames_92 rfl (by omega) ?_
  refine pm_aloadn hG dX12_setNames_99 rfl ?_
  refine pm_iloadn hG dX12_setNames_100 rfl ?_
  refine pm_bipush (v := nI 8) hG dX12_setNames_101 (by decide) ?_
  refine pm_callV (As := [.int (nI ba), .int (nI 8)]) (rest := [.int (nI 4), .ref (B + 63)]) hG hR dX12_setNames_103 (lkX12_72 _ rfl) okV_X12_man rfl rfl (m_man (d := 1) (e := 14 * ba + 118) (by omega) (by omega) (by omega)) rfl rfl hdd (Nat.le_refl _) (Nat.le_refl _) (Nat.le_of_ble_eq_true rfl) (pm_ki (fun v14 σ' cnt' hq => ?_))
  obtain ⟨rfl, rfl, rfl⟩ := hq
  refine pm_gen (fun x15 ex15 => ?_)
  refine pm_iastN hG dX12_setNames_106 rfl (by decide) (by omega) ?_
  refine mdn_names (fun A_16 => ?_)
  refine pm_aloadn hG dX12_setNames_107 rfl ?_
  refine pm_getf hG dX12_setNames_108 (flX12_34 _ rfl) rfl rfl ?_
  refine pm_iconst (v := nI 5) hG dX12_setNames_111 (by decide) ?_
  refine pm_iloadn hG dX12_setNames_112 rfl ?_
  refine pm_ifN_ge (tgt := 120) hG dX12_setNames_113 rfl (by omega) ?_
  refine pm_aloadn hG dX12_setNames_120 rfl ?_
  refine pm_iloadn hG dX12_setNames_121 rfl ?_
  refine pm_iconst (v := nI 4) hG dX12_setNames_122 (by decide) ?_
  refine pm_callV (As := [.int (nI ba), .int (nI 4)]) (rest := [.int (nI 5), .ref (B + 63)]) hG hR dX12_setNames_123 (lkX12_72 _ rfl) okV_X12_man rfl rfl (m_man (d := 1) (e := 14 * ba + 114) (by omega) (by omega) (by omega)) rfl rfl hdd (Nat.le_refl _) (Nat.le_refl _) (Nat.le_of_ble_eq_true rfl) (pm_ki (fun v17 σ' cnt' hq => ?_))
  obtain ⟨rfl, rfl, rfl⟩ := hq
  rcases KI.opt hn (show kd (14 * ba + 114) = (2, 10, false) from (kd_P (k := ba) (c := 4) (by omega) (by omega) (by decide))) with ek18 | ⟨k18, hk18, ek18⟩
  · refine pm_top (v := (-1)) ek18 ?_
    refine pm_if_ge (tgt := 134) hG dX12_setNames_126 rfl (fun q => absurd q (by decide)) (fun _ => ?_)
    refine pm_bipush (v := nI 10) hG dX12_setNames_129 (by decide) ?_
    refine pm_goto (tgt := 140) hG dX12_setNames_131 rfl ?_
    refine pm_iastN hG dX12_setNames_140 rfl (by decide) (by omega) ?_
    refine mdn_names (fun A_19 => ?_)
    refine pm_aloadn hG dX12_setNames_141 rfl ?_
    refine pm_getf hG dX12_setNames_142 (flX12_34 _ rfl) rfl rfl ?_
    refine pm_bipush (v := nI 6) hG dX12_setNames_145 (by decide) ?_
    refine pm_iloadn hG dX12_setNames_147 rfl ?_
    refine pm_ifN_ge (tgt := 155) hG dX12_setNames_148 rfl (by omega) ?_
    refine pm_aloadn hG dX12_setNames_155 rfl ?_
    refine pm_iloadn hG dX12_setNames_156 rfl ?_
    refine pm_callV (As := [.int (nI ba)]) (rest := [.int (nI 6), .ref (B + 63)]) hG hR dX12_setNames_157 (lkX12_125 _ rfl) okV_X12_stepsOf rfl rfl (m_stepsOf (d := 1) (by decide) hn hz (by omega)) rfl rfl hdd (Nat.le_refl _) (Nat.le_refl _) (Nat.le_of_ble_eq_true rfl) (pm_ki (fun v20 σ' cnt' hq => ?_))
    obtain ⟨⟨I21, A21, rfl⟩, rfl⟩ := hq
    refine pm_iastN hG dX12_setNames_160 rfl (by decide) (by omega) ?_
    refine mdn_names (fun A_22 => ?_)
    refine pm_aloadn hG dX12_setNames_161 rfl ?_
    refine pm_getf hG dX12_setNames_162 (flX12_34 _ rfl) rfl rfl ?_
    refine pm_bipush (v := nI 7) hG dX12_setNames_165 (by decide) ?_
    refine pm_iloadn hG dX12_setNames_167 rfl ?_
    refine pm_ifN_ge (tgt := 175) hG dX12_setNames_168 rfl (by omega) ?_
    refine pm_aloadn hG dX12_setNames_175 rfl ?_
    refine pm_iloadn hG dX12_setNames_176 rfl ?_
    refine pm_iconst (v := nI 3) hG dX12_setNames_177 (by decide) ?_
    refine pm_callV (As := [.int (nI bb), .int (nI 3)]) (rest := [.int (nI 7), .ref (B + 63)]) hG hR dX12_setNames_178 (lkX12_199 _ rfl) okV_X12_of rfl rfl (m_of (d := 1) (e := 12 * bb + 1293) (by omega) (by omega) (by omega)) rfl rfl hdd (Nat.le_refl _) (Nat.le_refl _) (Nat.le_of_ble_eq_true rfl) (pm_ki (fun v23 σ' cnt' hq => ?_))
    obtain ⟨rfl, rfl, rfl⟩ := hq
    refine pm_gen (fun x24 ex24 => ?_)
    refine pm_callS (As := [.int x24]) (rest := [.int (nI 7), .ref (B + 63)]) hG hR dX12_setNames_181 (lkX12_202 _ rfl) okS_X12_bits (m_bits (d := 1) (by decide) hn hz) rfl rfl hdd (Nat.le_refl _) (Nat.le_refl _) (Nat.le_of_ble_eq_true rfl) (pm_ki (fun v25 σ' cnt' hq => ?_))
    obtain ⟨rfl, rfl⟩ := hq
    refine pm_iastN hG dX12_setNames_184 rfl (by decide) (by omega) ?_
    refine mdn_names (fun A_27 => ?_)
    refine pm_aloadn hG dX12_setNames_185 rfl ?_
    refine pm_getf hG dX12_setNames_186 (flX12_34 _ rfl) rfl rfl ?_
    refine pm_bipush (v := nI 8) hG dX12_setNames_189 (by decide) ?_
    refine pm_iloadn hG dX12_setNames_191 rfl ?_
    refine pm_ifN_ge (tgt := 199) hG dX12_setNames_192 rfl (by omega) ?_
    refine pm_aloadn hG dX12_setNames_199 rfl ?_
    refine pm_iloadn hG dX12_setNames_200 rfl ?_
    refine pm_iconst (v := nI 1) hG dX12_setNames_201 (by decide) ?_
    refine pm_callV (As := [.int (nI bb), .int (nI 1)]) (rest := [.int (nI 8), .ref (B + 63)]) hG hR dX12_setNames_202 (lkX12_199 _ rfl) okV_X12_of rfl rfl (m_of (d := 1) (e := 12 * bb + 1291) (by omega) (by omega) (by omega)) rfl rfl hdd (Nat.le_refl _) (Nat.le_refl _) (Nat.le_of_ble_eq_true rfl) (pm_ki (fun v28 σ' cnt' hq => ?_))
    obtain ⟨rfl, rfl, rfl⟩ := hq
    refine pm_gen (fun x29 ex29 => ?_)
    refine pm_iastN hG dX12_setNames_205 rfl (by decide) (by omega) ?_
    refine mdn_names (fun A_30 => ?_)
    refine pm_aloadn hG dX12_setNames_206 rfl ?_
    refine pm_getf hG dX12_setNames_207 (flX12_34 _ rfl) rfl rfl ?_
    refine pm_bipush (v := nI 9) hG dX12_setNames_210 (by decide) ?_
    refine pm_iloadn hG dX12_setNames_212 rfl ?_
    refine pm_ifN_ge (tgt := 220) hG dX12_setNames_213 rfl (by omega) ?_
    refine pm_aloadn hG dX12_setNames_220 rfl ?_
    refine pm_iloadn hG dX12_setNames_221 rfl ?_
    refine pm_iconst (v := nI 2) hG dX12_setNames_222 (by decide) ?_
    refine pm_callV (As := [.int (nI bb), .int (nI 2)]) (rest := [.int (nI 9), .ref (B + 63)]) hG hR dX12_setNames_223 (lkX12_199 _ rfl) okV_X12_of rfl rfl (m_of (d := 1) (e := 12 * bb + 1292) (by omega) (by omega) (by omega)) rfl rfl hdd (Nat.le_refl _) (Nat.le_refl _) (Nat.le_of_ble_eq_true rfl) (pm_ki (fun v31 σ' cnt' hq => ?_))
    obtain ⟨rfl, rfl, rfl⟩ := hq
    obtain ⟨k32, hk32, ek32⟩ := KI.nat hn (show kd (12 * bb + 1292) = (1, 1000, false) from (kd_E (k := bb) (c := 2) (by omega) (by omega) (by decide)))
    refine pm_top (v := nI k32) ek32 ?_
    refine pm_iastN hG dX12_setNames_226 rfl (by decide) (by omega) ?_
    refine mdn_names (fun A_33 => ?_)
    refine pm_aloadn hG dX12_setNames_227 rfl ?_
    refine pm_getf hG dX12_setNames_228 (flX12_34 _ rfl) rfl rfl ?_
    refine pm_bipush (v := nI 10) hG dX12_setNames_231 (by decide) ?_
    refine pm_iloadn hG dX12_setNames_233 rfl ?_
    refine pm_iastN hG dX12_setNames_234 rfl (by decide) (by omega) ?_
    refine mdn_names (fun A_34 => ?_)
    exact pm_vret hG hF dX12_setNames_235 rfl (Nat.le_refl _) (Nat.le_refl _) ⟨rfl, ⟨_, _, rfl⟩, rfl⟩
  · refine pm_top (v := nI k18) ek18 ?_
    refine pm_ifN_ge (tgt := 134) hG dX12_setNames_126 rfl (by omega) ?_
    refine pm_aloadn hG dX12_setNames_134 rfl ?_
    refine pm_iloadn hG dX12_setNames_135 rfl ?_
    refine pm_iconst (v := nI 4) hG dX12_setNames_136 (by decide) ?_
    refine pm_callV (As := [.int (nI ba), .int (nI 4)]) (rest := [.int (nI 5), .ref (B + 63)]) hG hR dX12_setNames_137 (lkX12_72 _ rfl) okV_X12_man rfl rfl (m_man (d := 1) (e := 14 * ba + 114) (by omega) (by omega) (by omega)) rfl rfl hdd (Nat.le_refl _) (Nat.le_refl _) (Nat.le_of_ble_eq_true rfl) (pm_ki (fun v35 σ' cnt' hq => ?_))
    obtain ⟨rfl, rfl, rfl⟩ := hq
    refine pm_top (v := nI k18) ek18 ?_
    refine pm_iastN hG dX12_setNames_140 rfl (by decide) (by omega) ?_
    refine mdn_names (fun A_36 => ?_)
    refine pm_aloadn hG dX12_setNames_141 rfl ?_
    refine pm_getf hG dX12_setNames_142 (flX12_34 _ rfl) rfl rfl ?_
    refine pm_bipush (v := nI 6) hG dX12_setNames_145 (by decide) ?_
    refine pm_iloadn hG dX12_setNames_147 rfl ?_
    refine pm_ifN_ge (tgt := 155) hG dX12_setNames_148 rfl (by omega) ?_
    refine pm_aloadn hG dX12_setNames_155 rfl ?_
    refine pm_iloadn hG dX12_setNames_156 rfl ?_
    refine pm_callV (As := [.int (nI ba)]) (rest := [.int (nI 6), .ref (B + 63)]) hG hR dX12_setNames_157 (lkX12_125 _ rfl) okV_X12_stepsOf rfl rfl (m_stepsOf (d := 1) (by decide) hn hz (by omega)) rfl rfl hdd (Nat.le_refl _) (Nat.le_refl _) (Nat.le_of_ble_eq_true rfl) (pm_ki (fun v37 σ' cnt' hq => ?_))
    obtain ⟨⟨I38, A38, rfl⟩, rfl⟩ := hq
    refine pm_iastN hG dX12_setNames_160 rfl (by decide) (by omega) ?_
    refine mdn_names (fun A_39 => ?_)
    refine pm_aloadn hG dX12_setNames_161 rfl ?_
    refine pm_getf hG dX12_setNames_162 (flX12_34 _ rfl) rfl rfl ?_
    refine pm_bipush (v := nI 7) hG dX12_setNames_165 (by decide) ?_
    refine pm_iloadn hG dX12_setNames_167 rfl ?_
    refine pm_ifN_ge (tgt := 175) hG dX12_setNames_168 rfl (by omega) ?_
    refine pm_aloadn hG dX12_setNames_175 rfl ?_
    refine pm_iloadn hG dX12_setNames_176 rfl ?_
    refine pm_iconst (v := nI 3) hG dX12_setNames_177 (by decide) ?_
    refine pm_callV (As := [.int (nI bb), .int (nI 3)]) (rest := [.int (nI 7), .ref (B + 63)]) hG hR dX12_setNames_178 (lkX12_199 _ rfl) okV_X12_of rfl rfl (m_of (d := 1) (e := 12 * bb + 1293) (by omega) (by omega) (by omega)) rfl rfl hdd (Nat.le_refl _) (Nat.le_refl _) (Nat.le_of_ble_eq_true rfl) (pm_ki (fun v40 σ' cnt' hq => ?_))
    obtain ⟨rfl, rfl, rfl⟩ := hq
    refine pm_gen (fun x41 ex41 => ?_)
    refine pm_callS (As := [.int x41]) (rest := [.int (nI 7), .ref (B + 63)]) hG hR dX12_setNames_181 (lkX12_202 _ rfl) okS_X12_bits (m_bits (d := 1) (by decide) hn hz) rfl rfl hdd (Nat.le_refl _) (Nat.le_refl _) (Nat.le_of_ble_eq_true rfl) (pm_ki (fun v42 σ' cnt' hq => ?_))
    obtain ⟨rfl, rfl⟩ := hq
    refine pm_iastN hG dX12_setNames_184 rfl (by decide) (by omega) ?_
    refine mdn_names (fun A_44 => ?_)
    refine pm_aloadn hG dX12_setNames_185 rfl ?_
    refine pm_getf hG dX12_setNames_186 (flX12_34 _ rfl) rfl rfl ?_
    refine pm_bipush (v := nI 8) hG dX12_setNames_189 (by decide) ?_
    refine pm_iloadn hG dX12_setNames_191 rfl ?_
    refine pm_ifN_ge (tgt := 199) hG dX12_setNames_192 rfl (by omega) ?_
    refine pm_aloadn hG dX12_setNames_199 rfl ?_
    refine pm_iloadn hG dX12_setNames_200 rfl ?_
    refine pm_iconst (v := nI 1) hG dX12_setNames_201 (by decide) ?_
    refine pm_callV (As := [.int (nI bb), .int (nI 1)]) (rest := [.int (nI 8), .ref (B + 63)]) hG hR dX12_setNames_202 (lkX12_199 _ rfl) okV_X12_of rfl rfl (m_of (d := 1) (e := 12 * bb + 1291) (by omega) (by omega) (by omega)) rfl rfl hdd (Nat.le_refl _) (Nat.le_refl _) (Nat.le_of_ble_eq_true rfl) (pm_ki (fun v45 σ' cnt' hq => ?_))
    obtain ⟨rfl, rfl, rfl⟩ := hq
    refine pm_gen (fun x46 ex46 => ?_)
    refine pm_iastN hG dX12_setNames_205 rfl (by decide) (by omega) ?_
    refine mdn_names (fun A_47 => ?_)
    refine pm_aloadn hG dX12_setNames_206 rfl ?_
    refine pm_getf hG dX12_setNames_207 (flX12_34 _ rfl) rfl rfl ?_
    refine pm_bipush (v := nI 9) hG dX12_setNames_210 (by decide) ?_
    refine pm_iloadn hG dX12_setNames_212 rfl ?_
    refine pm_ifN_ge (tgt := 220) hG dX12_setNames_213 rfl (by omega) ?_
    refine pm_aloadn hG dX12_setNames_220 rfl ?_
    refine pm_iloadn hG dX12_setNames_221 rfl ?_
    refine pm_iconst (v := nI 2) hG dX12_setNames_222 (by decide) ?_
    refine pm_callV (As := [.int (nI bb), .int (nI 2)]) (rest := [.int (nI 9), .ref (B + 63)]) hG hR dX12_setNames_223 (lkX12_199 _ rfl) okV_X12_of rfl rfl (m_of (d := 1) (e := 12 * bb + 1292) (by omega) (by omega) (by omega)) rfl rfl hdd (Nat.le_refl _) (Nat.le_refl _) (Nat.le_of_ble_eq_true rfl) (pm_ki (fun v48 σ' cnt' hq => ?_))
    obtain ⟨rfl, rfl, rfl⟩ := hq
    obtain ⟨k49, hk49, ek49⟩ := KI.nat hn (show kd (12 * bb + 1292) = (1, 1000, false) from (kd_E (k := bb) (c := 2) (by omega) (by omega) (by decide)))
    refine pm_top (v := nI k49) ek49 ?_
    refine pm_iastN hG dX12_setNames_226 rfl (by decide) (by omega) ?_
    refine mdn_names (fun A_50 => ?_)
    refine pm_aloadn hG dX12_setNames_227 rfl ?_
    refine pm_getf hG dX12_setNames_228 (flX12_34 _ rfl) rfl rfl ?_
    refine pm_bipush (v := nI 10) hG dX12_setNames_231 (by decide) ?_
    refine pm_iloadn hG dX12_setNames_233 rfl ?_
    refine pm_iastN hG dX12_setNames_234 rfl (by decide) (by omega) ?_
    refine mdn_names (fun A_51 => ?_)
    exact pm_vret hG hF dX12_setNames_235 rfl (Nat.le_refl _) (Nat.le_refl _) ⟨rfl, ⟨_, _, rfl⟩, rfl⟩
