set_option maxRecDepth 100000 in
set_option maxHeartbeats 4000000 in
theorem m_goes {d B cnt p0 t0 : Nat} {σ : pm_S} {I : Nat → Int32} {A : Nat → Nat → Int32} {n k z : Nat → Int32} {ac wt pl im : Int32} {y : Nat → Int32} {ba bb : Nat} (hdd : 4 ≤ d) (hn : KI n) (hr : NR n) (hz : SZ z) (hba : ba < 20) (hbb : bb < 10) : pm_met mX12_goes d 0 0 B [.ref (B + 54), .int (nI ba), .int (nI bb)] cnt (pm_mid σ (md_L B I A n k z ac wt pl (nI p0) (nI t0) im y)) (pm_Qi (fun v σ' cnt' => (∃ (I' : Nat → Int32) (A' : Nat → Nat → Int32) (n' : Nat → Int32), σ' = pm_mid σ (md_L B I' A' n' k z ac wt pl (nI p0) (nI t0) im y) ∧ KI n' ∧ NR n') ∧ cnt = cnt')) := by
  refine pm_enter 1 (by decide) (Nat.le_of_ble_eq_true rfl) rfl (fun G hG hR hF => ?_)
  refine pm_aloadn hG dX12_goes_0 rfl ?_
  refine pm_aloadn hG dX12_goes_1 rfl ?_
  refine pm_iloadn hG dX12_goes_2 rfl ?_
  refine pm_iconst (v := nI 4) hG dX12_goes_3 (by decide) ?_
  refine pm_callV (As := [.int (nI ba), .int (nI 4)]) (rest := [.ref (B + 54)]) hG hR dX12_goes_4 (lkX12_72 _ rfl) okV_X12_man rfl rfl (m_man (d := 3) (e := 14 * ba + 114) (by omega) (by omega) (by omega)) rfl rfl hdd (Nat.le_refl _) (Nat.le_refl _) (Nat.le_of_ble_eq_true rfl) (pm_ki (fun v1 σ' cnt' hq => ?_))
  obtain ⟨rfl, rfl, rfl⟩ := hq
  rcases KI.opt hn (show kd (14 * ba + 114) = (2, 10, false) from (kd_P (k := ba) (c := 4) (by omega) (by omega) (by decide))) with ek2 | ⟨k2, hk2, ek2⟩
  · refine pm_top (v := (-1)) ek2 ?_
    refine pm_iloadn hG dX12_goes_7 rfl ?_
    refine pm_callV (As := [.int (-1), .int (nI bb)]) (rest := []) hG hR dX12_goes_8 (lkX12_88 _ rfl) okV_X12_farOf rfl rfl (m_farOf (d := 3) (by decide) hn hz (by omega)) rfl rfl hdd (Nat.le_refl _) (Nat.le_refl _) (by decide) (pm_ki (fun v3 σ' cnt' hq => ?_))
    obtain ⟨⟨I4, A4, rfl⟩, rfl⟩ := hq
    refine pm_istoreXn (loc' := [some (.ref (B + 54)), some (.int (nI ba)), some (.int (nI bb)), some (.int v3)]) hG dX12_goes_11 (by decide) (pm_c1b rfl) rfl ?_
    refine pm_iloadn hG dX12_goes_12 rfl ?_
    refine pm_if_ge (tgt := 18) hG dX12_goes_13 rfl (fun c5 => ?_) (fun c5 => ?_)
    · obtain ⟨k6, hk6, ek6⟩ := nI_of (Int32.not_lt.mpr c5)
      refine pm_iloadn hG dX12_goes_18 rfl ?_
      refine pm_top (v := nI k6) ek6 ?_
      refine pm_ifN_le (tgt := 64) hG dX12_goes_19 rfl (by omega) (fun c7 => ?_) (fun c7 => ?_)
      · refine pm_aloadn hG dX12_goes_64 rfl ?_
        refine pm_getf hG dX12_goes_65 (flX12_7 _ rfl) rfl rfl ?_
        refine pm_bipush (v := nI 8) hG dX12_goes_68 (by decide) ?_
        refine pm_ialdN hG dX12_goes_70 rfl (by decide) (by omega) ?_
        obtain ⟨k8, hk8, ek8⟩ := KI.nat hn (show kd 8 = (1, 2001, false) by decide)
        refine pm_top (v := nI k8) ek8 ?_
        refine pm_iloadn hG dX12_goes_71 rfl ?_
        refine pm_top (v := nI k6) ek6 ?_
        refine pm_iaddN (c := k6 + k8) hG dX12_goes_72 (by omega) ?_
        exact pm_iret hG hF dX12_goes_73 rfl (Nat.le_refl _) (Nat.le_refl _) ⟨_, rfl, ⟨_, _, _, rfl, hn, hr⟩, rfl⟩
      · refine pm_aloadn hG dX12_goes_22 rfl ?_
        refine pm_iloadn hG dX12_goes_23 rfl ?_
        refine pm_bipush (v := nI 10) hG dX12_goes_24 (by decide) ?_
        refine pm_aloadn hG dX12_goes_26 rfl ?_
        refine pm_iloadn hG dX12_goes_27 rfl ?_
        refine pm_callV (As := [.int (nI ba)]) (rest := [.int (nI 10), .int (nI ba), .ref (B + 54)]) hG hR dX12_goes_28 (lkX12_104 _ rfl) okV_X12_knownTo rfl rfl (m_knownTo (d := 3) (by decide) hn hz (by omega)) rfl rfl hdd (Nat.le_refl _) (Nat.le_refl _) (Nat.le_of_ble_eq_true rfl) (pm_ki (fun v9 σ' cnt' hq => ?_))
        obtain ⟨⟨I10, A10, rfl⟩, rfl⟩ := hq
        refine pm_callV (As := [.int (nI ba), .int (nI 10), .int v9]) (rest := []) hG hR dX12_goes_31 (lkX12_97 _ rfl) okV_X12_sets rfl rfl (m_sets (d := 3) (e := 14 * ba + 120) (by omega) (by omega) (by omega)) rfl rfl hdd (Nat.le_refl _) (Nat.le_refl _) (by decide) (pm_kv (fun σ' cnt' hq => ?_))
        obtain ⟨rfl, rfl⟩ := hq
        obtain ⟨n_11, en_11⟩ : ∃ f : Nat → Int32, f = upd n (14 * ba + 120) v9 := ⟨_, rfl⟩
        rw [← en_11]
        have hnn_11 := KI.w en_11 hn (okv_f (show kd (14 * ba + 120) = (0, 0, false) from (kd_P (k := ba) (c := 10) (by omega) (by omega) (by decide))))
        have hrn_11 := NRx.w en_11 hr (by rw [(show kd (14 * ba + 120) = (0, 0, false) from (kd_P (k := ba) (c := 10) (by omega) (by omega) (by decide)))])
        have e12 : n_11 (14 * ba + 114) = (-1) := by rw [en_11, pk_un (by omega)]; exact ek2
        have e13 : n_11 (14 * ba + 120) = v9 := by rw [en_11, pk_us]
        refine pm_aloadn hG dX12_goes_34 rfl ?_
        refine pm_iloadn hG dX12_goes_35 rfl ?_
        refine pm_iconst (v := nI 4) hG dX12_goes_36 (by decide) ?_
        refine pm_iconst (v := (-1)) hG dX12_goes_37 (by decide) ?_
        refine pm_callV (As := [.int (nI ba), .int (nI 4), .int (-1)]) (rest := []) hG hR dX12_goes_38 (lkX12_97 _ rfl) okV_X12_sets rfl rfl (m_sets (d := 3) (e := 14 * ba + 114) (by omega) (by omega) (by omega)) rfl rfl hdd (Nat.le_refl _) (Nat.le_refl _) (by decide) (pm_kv (fun σ' cnt' hq => ?_))
        obtain ⟨rfl, rfl⟩ := hq
        obtain ⟨n_14, en_14⟩ : ∃ f : Nat → Int32, f = upd n_11 (14 * ba + 114) (-1) := ⟨_, rfl⟩
        rw [← en_14]
        have hnn_14 := KI.w en_14 hnn_11 (okv_m (show kd (14 * ba + 114) = (2, 10, false) from (kd_P (k := ba) (c := 4) (by omega) (by omega) (by decide))))
        have hrn_14 := NRx.w en_14 hrn_11 (by rw [(show kd (14 * ba + 114) = (2, 10, false) from (kd_P (k := ba) (c := 4) (by omega) (by omega) (by decide)))])
        have e15 : n_14 (14 * ba + 120) = v9 := by rw [en_14, pk_un (by omega)]; exact e13
        have e16 : n_14 (14 * ba + 114) = (-1) := by rw [en_14, pk_us]
        refine pm_aloadn hG dX12_goes_41 rfl ?_
        refine pm_iloadn hG dX12_goes_42 rfl ?_
        refine pm_iconst (v := nI 5) hG dX12_goes_43 (by decide) ?_
        refine pm_iloadn hG dX12_goes_44 rfl ?_
        refine pm_callV (As := [.int (nI ba), .int (nI 5), .int (nI bb)]) (rest := []) hG hR dX12_goes_45 (lkX12_97 _ rfl) okV_X12_sets rfl rfl (m_sets (d := 3) (e := 14 * ba + 115) (by omega) (by omega) (by omega)) rfl rfl hdd (Nat.le_refl _) (Nat.le_refl _) (by decide) (pm_kv (fun σ' cnt' hq => ?_))
        obtain ⟨rfl, rfl⟩ := hq
        obtain ⟨n_17, en_17⟩ : ∃ f : Nat → Int32, f = upd n_14 (14 * ba + 115) (nI bb) := ⟨_, rfl⟩
        rw [← en_17]
        have hnn_17 := KI.w en_17 hnn_14 (okv_n (show kd (14 * ba + 115) = (1, 10, false) from (kd_P (k := ba) (c := 5) (by omega) (by omega) (by decide))) (by omega))
        have hrn_17 := NRx.w en_17 hrn_14 (by rw [(show kd (14 * ba + 115) = (1, 10, false) from (kd_P (k := ba) (c := 5) (by omega) (by omega) (by decide)))])
        have e18 : n_17 (14 * ba + 120) = v9 := by rw [en_17, pk_un (by omega)]; exact e15
        have e19 : n_17 (14 * ba + 114) = (-1) := by rw [en_17, pk_un (by omega)]; exact e16
        have e20 : n_17 (14 * ba + 115) = nI bb := by rw [en_17, pk_us]
        refine pm_aloadn hG dX12_goes_48 rfl ?_
        refine pm_iloadn hG dX12_goes_49 rfl ?_
        refine pm_bipush (v := nI 6) hG dX12_goes_50 (by decide) ?_
        refine pm_aloadn hG dX12_goes_52 rfl ?_
        refine pm_getf hG dX12_goes_53 (flX12_7 _ rfl) rfl rfl ?_
        refine pm_bipush (v := nI 8) hG dX12_goes_56 (by decide) ?_
        refine pm_ialdN hG dX12_goes_58 rfl (by decide) (by omega) ?_
        obtain ⟨k21, hk21, ek21⟩ := KI.nat hnn_17 (show kd 8 = (1, 2001, false) by decide)
        refine pm_top (v := nI k21) ek21 ?_
        refine pm_iloadn hG dX12_goes_59 rfl ?_
        refine pm_top (v := nI k6) ek6 ?_
        refine pm_iaddN (c := k21 + k6) hG dX12_goes_60 (by omega) ?_
        refine pm_callV (As := [.int (nI ba), .int (nI 6), .int (nI (k21 + k6))]) (rest := []) hG hR dX12_goes_61 (lkX12_97 _ rfl) okV_X12_sets rfl rfl (m_sets (d := 3) (e := 14 * ba + 116) (by omega) (by omega) (by omega)) rfl rfl hdd (Nat.le_refl _) (Nat.le_refl _) (by decide) (pm_kv (fun σ' cnt' hq => ?_))
        obtain ⟨rfl, rfl⟩ := hq
        obtain ⟨n_22, en_22⟩ : ∃ f : Nat → Int32, f = upd n_17 (14 * ba + 116) (nI (k21 + k6)) := ⟨_, rfl⟩
        rw [← en_22]
        have hnn_22 := KI.w en_22 hnn_17 (okv_f (show kd (14 * ba + 116) = (0, 0, false) from (kd_P (k := ba) (c := 6) (by omega) (by omega) (by decide))))
        have hrn_22 := NRx.w en_22 hrn_17 (by rw [(show kd (14 * ba + 116) = (0, 0, false) from (kd_P (k := ba) (c := 6) (by omega) (by omega) (by decide)))])
        have e23 : n_22 (14 * ba + 120) = v9 := by rw [en_22, pk_un (by omega)]; exact e18
        have e24 : n_22 (14 * ba + 114) = (-1) := by rw [en_22, pk_un (by omega)]; exact e19
        have e25 : n_22 (14 * ba + 115) = nI bb := by rw [en_22, pk_un (by omega)]; exact e20
        have e26 : n_22 8 = nI k21 := by rw [en_22, pk_un (by omega)]; exact ek21
        have e27 : n_22 (14 * ba + 116) = nI (k21 + k6) := by rw [en_22, pk_us]
        refine pm_aloadn hG dX12_goes_64 rfl ?_
        refine pm_getf hG dX12_goes_65 (flX12_7 _ rfl) rfl rfl ?_
        refine pm_bipush (v := nI 8) hG dX12_goes_68 (by decide) ?_
        refine pm_ialdN hG dX12_goes_70 rfl (by decide) (by omega) ?_
        refine pm_top (v := nI k21) e26 ?_
        refine pm_iloadn hG dX12_goes_71 rfl ?_
        refine pm_top (v := nI k6) ek6 ?_
        refine pm_iaddN (c := k21 + k6) hG dX12_goes_72 (by omega) ?_
        exact pm_iret hG hF dX12_goes_73 rfl (Nat.le_refl _) (Nat.le_refl _) ⟨_, rfl, ⟨_, _, _, rfl, hnn_22, hrn_22⟩, rfl⟩
    · refine pm_iconst (v := (-1)) hG dX12_goes_16 (by decide) ?_
      exact pm_iret hG hF dX12_goes_17 rfl (Nat.le_refl _) (Nat.le_refl _) ⟨_, rfl, ⟨_, _, _, rfl, hn, hr⟩, rfl⟩
  · refine pm_top (v := nI k2) ek2 ?_
    refine pm_iloadn hG dX12_goes_7 rfl ?_
    refine pm_callV (As := [.int (nI k2), .int (nI bb)]) (rest := []) hG hR dX12_goes_8 (lkX12_88 _ rfl) okV_X12_farOf rfl rfl (m_farOf (d := 3) (by decide) hn hz (by omega)) rfl rfl hdd (Nat.le_refl _) (Nat.le_refl _) (by decide) (pm_ki (fun v28 σ' cnt' hq => ?_))
    obtain ⟨⟨I29, A29, rfl⟩, rfl⟩ := hq
    refine pm_istoreXn (loc' := [some (.ref (B + 54)), some (.int (nI ba)), some (.int (nI bb)), some (.int v28)]) hG dX12_goes_11 (by decide) (pm_c1b rfl) rfl ?_
    refine pm_iloadn hG dX12_goes_12 rfl ?_
    refine pm_if_ge (tgt := 18) hG dX12_goes_13 rfl (fun c30 => ?_) (fun c30 => ?_)
    · obtain ⟨k31, hk31, ek31⟩ := nI_of (Int32.not_lt.mpr c30)
      refine pm_iloadn hG dX12_goes_18 rfl ?_
      refine pm_top (v := nI k31) ek31 ?_
      refine pm_ifN_le (tgt := 64) hG dX12_goes_19 rfl (by omega) (fun c32 => ?_) (fun c32 => ?_)
      · refine pm_aloadn hG dX12_goes_64 rfl ?_
        refine pm_getf hG dX12_goes_65 (flX12_7 _ rfl) rfl rfl ?_
        refine pm_bipush (v := nI 8) hG dX12_goes_68 (by decide) ?_
        refine pm_ialdN hG dX12_goes_70 rfl (by decide) (by omega) ?_
        obtain ⟨k33, hk33, ek33⟩ := KI.nat hn (show kd 8 = (1, 2001, false) by decide)
        refine pm_top (v := nI k33) ek33 ?_
        refine pm_iloadn hG dX12_goes_71 rfl ?_
        refine pm_top (v := nI k31) ek31 ?_
        refine pm_iaddN (c := k31 + k33) hG dX12_goes_72 (by omega) ?_
        exact pm_iret hG hF dX12_goes_73 rfl (Nat.le_refl _) (Nat.le_refl _) ⟨_, rfl, ⟨_, _, _, rfl, hn, hr⟩, rfl⟩
      · refine pm_aloadn hG dX12_goes_22 rfl ?_
        refine pm_iloadn hG dX12_goes_23 rfl ?_
        refine pm_bipush (v := nI 10) hG dX12_goes_24 (by decide) ?_
        refine pm_aloadn hG dX12_goes_26 rfl ?_
        refine pm_iloadn hG dX12_goes_27 rfl ?_
        refine pm_callV (As := [.int (nI ba)]) (rest := [.int (nI 10), .int (nI ba), .ref (B + 54)]) hG hR dX12_goes_28 (lkX12_104 _ rfl) okV_X12_knownTo rfl rfl (m_knownTo (d := 3) (by decide) hn hz (by omega)) rfl rfl hdd (Nat.le_refl _) (Nat.le_refl _) (Nat.le_of_ble_eq_true rfl) (pm_ki (fun v34 σ' cnt' hq => ?_))
        obtain ⟨⟨I35, A35, rfl⟩, rfl⟩ := hq
        refine pm_callV (As := [.int (nI ba), .int (nI 10), .int v34]) (rest := []) hG hR dX12_goes_31 (lkX12_97 _ rfl) okV_X12_sets rfl rfl (m_sets (d := 3) (e := 14 * ba + 120) (by omega) (by omega) (by omega)) rfl rfl hdd (Nat.le_refl _) (Nat.le_refl _) (by decide) (pm_kv (fun σ' cnt' hq => ?_))
        obtain ⟨rfl, rfl⟩ := hq
        obtain ⟨n_36, en_36⟩ : ∃ f : Nat → Int32, f = upd n (14 * ba + 120) v34 := ⟨_, rfl⟩
        rw [← en_36]
        have hnn_36 := KI.w en_36 hn (okv_f (show kd (14 * ba + 120) = (0, 0, false) from (kd_P (k := ba) (c := 10) (by omega) (by omega) (by decide))))
        have hrn_36 := NRx.w en_36 hr (by rw [(show kd (14 * ba + 120) = (0, 0, false) from (kd_P (k := ba) (c := 10) (by omega) (by omega) (by decide)))])
        have e37 : n_36 (14 * ba + 114) = nI k2 := by rw [en_36, pk_un (by omega)]; exact ek2
        have e38 : n_36 (14 * ba + 120) = v34 := by rw [en_36, pk_us]
        refine pm_aloadn hG dX12_goes_34 rfl ?_
        refine pm_iloadn hG dX12_goes_35 rfl ?_
        refine pm_iconst (v := nI 4) hG dX12_goes_36 (by decide) ?_
        refine pm_iconst (v := (-1)) hG dX12_goes_37 (by decide) ?_
        refine pm_callV (As := [.int (nI ba), .int (nI 4), .int (-1)]) (rest := []) hG hR dX12_goes_38 (lkX12_97 _ rfl) okV_X12_sets rfl rfl (m_sets (d := 3) (e := 14 * ba + 114) (by omega) (by omega) (by omega)) rfl rfl hdd (Nat.le_refl _) (Nat.le_refl _) (by decide) (pm_kv (fun σ' cnt' hq => ?_))
        obtain ⟨rfl, rfl⟩ := hq
        obtain ⟨n_39, en_39⟩ : ∃ f : Nat → Int32, f = upd n_36 (14 * ba + 114) (-1) := ⟨_, rfl⟩
        rw [← en_39]
        have hnn_39 := KI.w en_39 hnn_36 (okv_m (show kd (14 * ba + 114) = (2, 10, false) from (kd_P (k := ba) (c := 4) (by omega) (by omega) (by decide))))
        have hrn_39 := NRx.w en_39 hrn_36 (by rw [(show kd (14 * ba + 114) = (2, 10, false) from (kd_P (k := ba) (c := 4) (by omega) (by omega) (by decide)))])
        have e40 : n_39 (14 * ba + 120) = v34 := by rw [en_39, pk_un (by omega)]; exact e38
        have e41 : n_39 (14 * ba + 114) = (-1) := by rw [en_39, pk_us]
        refine pm_aloadn hG dX12_goes_41 rfl ?_
        refine pm_iloadn hG dX12_goes_42 rfl ?_
        refine pm_iconst (v := nI 5) hG dX12_goes_43 (by decide) ?_
        refine pm_iloadn hG dX12_goes_44 rfl ?_
        refine pm_callV (As := [.int (nI ba), .int (nI 5), .int (nI bb)]) (rest := []) hG hR dX12_goes_45 (lkX12_97 _ rfl) okV_X12_sets rfl rfl (m_sets (d := 3) (e := 14 * ba + 115) (by omega) (by omega) (by omega)) rfl rfl hdd (Nat.le_refl _) (Nat.le_refl _) (by decide) (pm_kv (fun σ' cnt' hq => ?_))
        obtain ⟨rfl, rfl⟩ := hq
        obtain ⟨n_42, en_42⟩ : ∃ f : Nat → Int32, f = upd n_39 (14 * ba + 115) (nI bb) := ⟨_, rfl⟩
        rw [← en_42]
        have hnn_42 := KI.w en_42 hnn_39 (okv_n (show kd (14 * ba + 115) = (1, 10, false) from (kd_P (k := ba) (c := 5) (by omega) (by omega) (by decide))) (by omega))
        have hrn_42 := NRx.w en_42 hrn_39 (by rw [(show kd (14 * ba + 115) = (1, 10, false) from (kd_P (k := ba) (c := 5) (by omega) (by omega) (by decide)))])
        have e43 : n_42 (14 * ba + 120) = v34 := by rw [en_42, pk_un (by omega)]; exact e40
        have e44 : n_42 (14 * ba + 114) = (-1) := by rw [en_42, pk_un (by omega)]; exact e41
        have e45 : n_42 (14 * ba + 115) = nI bb := by rw [en_42, pk_us]
        refine pm_aloadn hG dX12_goes_48 rfl ?_
        refine pm_iloadn hG dX12_goes_49 rfl ?_
        refine pm_bipush (v := nI 6) hG dX12_goes_50 (by decide) ?_
        refine pm_aloadn hG dX12_goes_52 rfl ?_
        refine pm_getf hG dX12_goes_53 (flX12_7 _ rfl) rfl rfl ?_
        refine pm_bipush (v := nI 8) hG dX12_goes_56 (by decide) ?_
        refine pm_ialdN hG dX12_goes_58 rfl (by decide) (by omega) ?_
        obtain ⟨k46, hk46, ek46⟩ := KI.nat hnn_42 (show kd 8 = (1, 2001, false) by decide)
        refine pm_top (v := nI k46) ek46 ?_
        refine pm_iloadn hG dX12_goes_59 rfl ?_
        refine pm_top (v := nI k31) ek31 ?_
        refine pm_iaddN (c := k31 + k46) hG dX12_goes_60 (by omega) ?_
        refine pm_callV (As := [.int (nI ba), .int (nI 6), .int (nI (k31 + k46))]) (rest := []) hG hR dX12_goes_61 (lkX12_97 _ rfl) okV_X12_sets rfl rfl (m_sets (d := 3) (e := 14 * ba + 116) (by omega) (by omega) (by omega)) rfl rfl hdd (Nat.le_refl _) (Nat.le_refl _) (by decide) (pm_kv (fun σ' cnt' hq => ?_))
        obtain ⟨rfl, rfl⟩ := hq
        obtain ⟨n_47, en_47⟩ : ∃ f : Nat → Int32, f = upd n_42 (14 * ba + 116) (nI (k31 + k46)) := ⟨_, rfl⟩
        rw [← en_47]
        have hnn_47 := KI.w en_47 hnn_42 (okv_f (show kd (14 * ba + 116) = (0, 0, false) from (kd_P (k := ba) (c := 6) (by omega) (by omega) (by decide))))
        have hrn_47 := NRx.w en_47 hrn_42 (by rw [(show kd (14 * ba + 116) = (0, 0, false) from (kd_P (k := ba) (c := 6) (by omega) (by omega) (by decide)))])
        have e48 : n_47 (14 * ba + 120) = v34 := by rw [en_47, pk_un (by omega)]; exact e43
        have e49 : n_47 (14 * ba + 114) = (-1) := by rw [en_47, pk_un (by omega)]; exact e44
        have e50 : n_47 (14 * ba + 115) = nI bb := by rw [en_47, pk_un (by omega)]; exact e45
        have e51 : n_47 8 = nI k46 := by rw [en_47, pk_un (by omega)]; exact ek46
        have e52 : n_47 (14 * ba + 116) = nI (k31 + k46) := by rw [en_47, pk_us]
        refine pm_aloadn hG dX12_goes_64 rfl ?_
        refine pm_getf hG dX12_goes_65 (flX12_7 _ rfl) rfl rfl ?_
        refine pm_bipush (v := nI 8) hG dX12_goes_68 (by decide) ?_
        refine pm_ialdN hG dX12_goes_70 rfl (by decide) (by omega) ?_
        refine pm_top (v := nI k46) e51 ?_
        refine pm_iloadn hG dX12_goes_71 rfl ?_
        refine pm_top (v := nI k31) ek31 ?_
        refine pm_iaddN (c := k31 + k46) hG dX12_goes_72 (by omega) ?_
        exact pm_iret hG hF dX12_goes_73 rfl (Nat.le_refl _) (Nat.le_refl _) ⟨_, rfl, ⟨_, _, _, rfl, hnn_47, hrn_47⟩, rfl⟩
    · refine pm_iconst (v := (-1)) hG dX12_goes_16 (by decide) ?_
      exact pm_iret hG hF dX12_goes_17 rfl (Nat.le_refl _) (Nat.le_refl _) ⟨_, rfl, ⟨_, _, _, rfl, hn, hr⟩, rfl⟩
