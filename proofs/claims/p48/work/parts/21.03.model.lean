set_option maxRecDepth 100000 in
set_option maxHeartbeats 4000000 in
theorem m_newPower_n20 {d B cnt p0 t0 : Nat} {σ : pm_S} {I : Nat → Int32} {A : Nat → Nat → Int32} {n k z : Nat → Int32} {ac wt pl : Int32} {za zc zd : Int32} {ab c0 : Nat} (hdd : 2 ≤ d) (hn : KI n) (hr : NR n) (hz : SZ z) (hab : ab < 20) (ec0 : n 3 = nI c0) (hc0 : c0 < 20) : pm_met mX12_newPower d 0 0 B [.ref (B + 54), .int za, .int (nI ab), .int zc, .int zd] cnt (pm_mid σ (md_L B I A n k z ac wt pl (nI p0) (nI t0))) (pm_Qi (fun v σ' cnt' => (∃ (n' : Nat → Int32), σ' = pm_mid σ (md_L B I A n' k z ac wt pl (nI p0) (nI t0)) ∧ KI n' ∧ NR n') ∧ cnt' = cnt)) := by
  refine pm_enter 1 (by decide) (Nat.le_of_ble_eq_true rfl) rfl (fun G hG hR hF => ?_)
  refine pm_aloadn hG dX12_newPower_0 rfl ?_
  refine pm_getf hG dX12_newPower_1 (flX12_7 _ rfl) rfl rfl ?_
  refine pm_iconst (v := nI 3) hG dX12_newPower_4 (by decide) ?_
  refine pm_ialdN hG dX12_newPower_5 rfl (by decide) (by omega) ?_
  refine pm_top (v := nI c0) ec0 ?_
  refine pm_istoreXi (loc' := [some (.ref (B + 54)), some (.int za), some (.int (nI ab)), some (.int zc), some (.int zd), some (.int (nI c0))]) hG dX12_newPower_6 (by decide) (pm_c1b rfl) rfl ?_
  refine pm_aloadn hG dX12_newPower_8 rfl ?_
  refine pm_getf hG dX12_newPower_9 (flX12_7 _ rfl) rfl rfl ?_
  refine pm_iconst (v := nI 3) hG dX12_newPower_12 (by decide) ?_
  refine pm_dup2 hG dX12_newPower_13 rfl rfl ?_
  refine pm_ialdN hG dX12_newPower_14 rfl (by decide) (by omega) ?_
  refine pm_top (v := nI c0) ec0 ?_
  refine pm_iconst (v := nI 1) hG dX12_newPower_15 (by decide) ?_
  refine pm_iaddN (c := c0 + 1) hG dX12_newPower_16 (by omega) ?_
  refine pm_iastN hG dX12_newPower_17 rfl (by decide) (by omega) ?_
  refine mdn_now (fun n_1 en_1 => ?_)
  have hnn_1 := KI.w en_1 hn (okv_n (by decide) (by omega))
  have hrn_1 := NRx.w en_1 hr (by decide)
  have e2 : n_1 3 = nI (c0 + 1) := by rw [en_1, pk_us]
  refine pm_aloadn hG dX12_newPower_18 rfl ?_
  refine pm_iloadi hG dX12_newPower_19 rfl ?_
  refine pm_iconst (v := nI 0) hG dX12_newPower_21 (by decide) ?_
  refine pm_iloadn hG dX12_newPower_22 rfl ?_
  refine pm_callV (As := [.int (nI c0), .int (nI 0), .int za]) (rest := []) hG hR dX12_newPower_23 (lkX12_113 _ rfl) okV_X12_makes rfl rfl (m_makes (d := 1) (e := 6 * c0 + 390) (by omega) (by omega) (by omega)) rfl rfl hdd (Nat.le_refl _) (Nat.le_refl _) (by decide) (pm_kv (fun σ' cnt' hq => ?_))
  obtain ⟨rfl, rfl⟩ := hq
  obtain ⟨n_3, en_3⟩ : ∃ f : Nat → Int32, f = upd n_1 (6 * c0 + 390) za := ⟨_, rfl⟩
  rw [← en_3]
  have hnn_3 := KI.w en_3 hnn_1 (okv_f (kd_W (k := c0) (c := 0) (by omega) (by omega) (by decide)))
  have hrn_3 := NRx.w en_3 hrn_1 (by rw [(kd_W (k := c0) (c := 0) (by omega) (by omega) (by decide))]; rfl)
  have e4 : n_3 3 = nI (c0 + 1) := by rw [en_3, pk_un (by omega)]; exact e2
  have e5 : n_3 (6 * c0 + 390) = za := by rw [en_3, pk_us]
  refine pm_aloadn hG dX12_newPower_26 rfl ?_
  refine pm_iloadi hG dX12_newPower_27 rfl ?_
  refine pm_iconst (v := nI 1) hG dX12_newPower_29 (by decide) ?_
  refine pm_iloadn hG dX12_newPower_30 rfl ?_
  refine pm_callV (As := [.int (nI c0), .int (nI 1), .int (nI ab)]) (rest := []) hG hR dX12_newPower_31 (lkX12_113 _ rfl) okV_X12_makes rfl rfl (m_makes (d := 1) (e := 6 * c0 + 391) (by omega) (by omega) (by omega)) rfl rfl hdd (Nat.le_refl _) (Nat.le_refl _) (by decide) (pm_kv (fun σ' cnt' hq => ?_))
  obtain ⟨rfl, rfl⟩ := hq
  obtain ⟨n_6, en_6⟩ : ∃ f : Nat → Int32, f = upd n_3 (6 * c0 + 391) (nI ab) := ⟨_, rfl⟩
  rw [← en_6]
  have hnn_6 := KI.w en_6 hnn_3 (okv_o (kd_W (k := c0) (c := 1) (by omega) (by omega) (by decide)) (by omega))
  have hrn_6 := NRx.w en_6 hrn_3 (by rw [(kd_W (k := c0) (c := 1) (by omega) (by omega) (by decide))]; rfl)
  have e7 : n_6 3 = nI (c0 + 1) := by rw [en_6, pk_un (by omega)]; exact e4
  have e8 : n_6 (6 * c0 + 390) = za := by rw [en_6, pk_un (by omega)]; exact e5
  have e9 : n_6 (6 * c0 + 391) = nI ab := by rw [en_6, pk_us]
  refine pm_aloadn hG dX12_newPower_34 rfl ?_
  refine pm_iloadi hG dX12_newPower_35 rfl ?_
  refine pm_iconst (v := nI 4) hG dX12_newPower_37 (by decide) ?_
  refine pm_iloadn hG dX12_newPower_38 rfl ?_
  refine pm_callV (As := [.int (nI c0), .int (nI 4), .int zc]) (rest := []) hG hR dX12_newPower_39 (lkX12_113 _ rfl) okV_X12_makes rfl rfl (m_makes (d := 1) (e := 6 * c0 + 394) (by omega) (by omega) (by omega)) rfl rfl hdd (Nat.le_refl _) (Nat.le_refl _) (by decide) (pm_kv (fun σ' cnt' hq => ?_))
  obtain ⟨rfl, rfl⟩ := hq
  obtain ⟨n_10, en_10⟩ : ∃ f : Nat → Int32, f = upd n_6 (6 * c0 + 394) zc := ⟨_, rfl⟩
  rw [← en_10]
  have hnn_10 := KI.w en_10 hnn_6 (okv_f (kd_W (k := c0) (c := 4) (by omega) (by omega) (by decide)))
  have hrn_10 := NRx.w en_10 hrn_6 (by rw [(kd_W (k := c0) (c := 4) (by omega) (by omega) (by decide))]; rfl)
  have e11 : n_10 3 = nI (c0 + 1) := by rw [en_10, pk_un (by omega)]; exact e7
  have e12 : n_10 (6 * c0 + 390) = za := by rw [en_10, pk_un (by omega)]; exact e8
  have e13 : n_10 (6 * c0 + 391) = nI ab := by rw [en_10, pk_un (by omega)]; exact e9
  have e14 : n_10 (6 * c0 + 394) = zc := by rw [en_10, pk_us]
  refine pm_aloadn hG dX12_newPower_42 rfl ?_
  refine pm_iloadi hG dX12_newPower_43 rfl ?_
  refine pm_iconst (v := nI 5) hG dX12_newPower_45 (by decide) ?_
  refine pm_iloadi hG dX12_newPower_46 rfl ?_
  refine pm_if_ge (tgt := 56) hG dX12_newPower_48 rfl (fun c15 => ?_) (fun c15 => ?_)
  · obtain ⟨k16, hk16, ek16⟩ := nI_of (Int32.not_lt.mpr c15)
    refine pm_iloadi hG dX12_newPower_56 rfl ?_
    refine pm_top (v := nI k16) ek16 ?_
    refine pm_callV (As := [.int (nI c0), .int (nI 5), .int (nI k16)]) (rest := []) hG hR dX12_newPower_58 (lkX12_113 _ rfl) okV_X12_makes rfl rfl (m_makes (d := 1) (e := 6 * c0 + 395) (by omega) (by omega) (by omega)) rfl rfl hdd (Nat.le_refl _) (Nat.le_refl _) (by decide) (pm_kv (fun σ' cnt' hq => ?_))
    obtain ⟨rfl, rfl⟩ := hq
    obtain ⟨n_17, en_17⟩ : ∃ f : Nat → Int32, f = upd n_10 (6 * c0 + 395) (nI k16) := ⟨_, rfl⟩
    rw [← en_17]
    have hnn_17 := KI.w en_17 hnn_10 (okv_f (kd_W (k := c0) (c := 5) (by omega) (by omega) (by decide)))
    have hrn_17 := NRx.w en_17 hrn_10 (by rw [(kd_W (k := c0) (c := 5) (by omega) (by omega) (by decide))]; rfl)
    have e18 : n_17 3 = nI (c0 + 1) := by rw [en_17, pk_un (by omega)]; exact e11
    have e19 : n_17 (6 * c0 + 390) = za := by rw [en_17, pk_un (by omega)]; exact e12
    have e20 : n_17 (6 * c0 + 391) = nI ab := by rw [en_17, pk_un (by omega)]; exact e13
    have e21 : n_17 (6 * c0 + 394) = zc := by rw [en_17, pk_un (by omega)]; exact e14
    have e22 : n_17 (6 * c0 + 395) = nI k16 := by rw [en_17, pk_us]
    refine pm_aloadn hG dX12_newPower_61 rfl ?_
    refine pm_iloadi hG dX12_newPower_62 rfl ?_
    refine pm_callV (As := [.int (nI c0)]) (rest := []) hG hR dX12_newPower_64 (lkX12_116 _ rfl) okV_X12_comesBack rfl rfl (m_comesBack (d := 1) (e := 6 * c0 + 392) (e2 := 6 * c0 + 393) (by decide) (by omega) (by omega) (by omega)) rfl rfl hdd (Nat.le_refl _) (Nat.le_refl _) (by decide) (pm_kv (fun σ' cnt' hq => ?_))
    obtain ⟨rfl, rfl⟩ := hq
    obtain ⟨n_23, en_23⟩ : ∃ f : Nat → Int32, f = upd n_17 (6 * c0 + 392) (-1) := ⟨_, rfl⟩
    rw [← en_23]
    have hnn_23 := KI.w en_23 hnn_17 (okv_m (kd_W (k := c0) (c := 2) (by omega) (by omega) (by decide)))
    have hrn_23 := NRx.w en_23 hrn_17 (by rw [(kd_W (k := c0) (c := 2) (by omega) (by omega) (by decide))]; rfl)
    have e24 : n_23 3 = nI (c0 + 1) := by rw [en_23, pk_un (by omega)]; exact e18
    have e25 : n_23 (6 * c0 + 390) = za := by rw [en_23, pk_un (by omega)]; exact e19
    have e26 : n_23 (6 * c0 + 391) = nI ab := by rw [en_23, pk_un (by omega)]; exact e20
    have e27 : n_23 (6 * c0 + 394) = zc := by rw [en_23, pk_un (by omega)]; exact e21
    have e28 : n_23 (6 * c0 + 395) = nI k16 := by rw [en_23, pk_un (by omega)]; exact e22
    have e29 : n_23 (6 * c0 + 392) = (-1) := by rw [en_23, pk_us]
    obtain ⟨n_30, en_30⟩ : ∃ f : Nat → Int32, f = upd n_23 (6 * c0 + 393) (-1) := ⟨_, rfl⟩
    rw [← en_30]
    have hnn_30 := KI.w en_30 hnn_23 (okv_f (kd_W (k := c0) (c := 3) (by omega) (by omega) (by decide)))
    have hrn_30 := NRx.w en_30 hrn_23 (by rw [(kd_W (k := c0) (c := 3) (by omega) (by omega) (by decide))]; rfl)
    have e31 : n_30 3 = nI (c0 + 1) := by rw [en_30, pk_un (by omega)]; exact e24
    have e32 : n_30 (6 * c0 + 390) = za := by rw [en_30, pk_un (by omega)]; exact e25
    have e33 : n_30 (6 * c0 + 391) = nI ab := by rw [en_30, pk_un (by omega)]; exact e26
    have e34 : n_30 (6 * c0 + 394) = zc := by rw [en_30, pk_un (by omega)]; exact e27
    have e35 : n_30 (6 * c0 + 395) = nI k16 := by rw [en_30, pk_un (by omega)]; exact e28
    have e36 : n_30 (6 * c0 + 392) = (-1) := by rw [en_30, pk_un (by omega)]; exact e29
    have e37 : n_30 (6 * c0 + 393) = (-1) := by rw [en_30, pk_us]
    refine pm_iloadi hG dX12_newPower_67 rfl ?_
    exact pm_iret hG hF dX12_newPower_69 rfl (Nat.le_refl _) (Nat.le_refl _) ⟨_, rfl, ⟨_, rfl, hnn_30, hrn_30⟩, rfl⟩
  · refine pm_iloadi hG dX12_newPower_51 rfl ?_
    refine pm_goto (tgt := 58) hG dX12_newPower_53 rfl ?_
    refine pm_callV (As := [.int (nI c0), .int (nI 5), .int (nI c0)]) (rest := []) hG hR dX12_newPower_58 (lkX12_113 _ rfl) okV_X12_makes rfl rfl (m_makes (d := 1) (e := 6 * c0 + 395) (by omega) (by omega) (by omega)) rfl rfl hdd (Nat.le_refl _) (Nat.le_refl _) (by decide) (pm_kv (fun σ' cnt' hq => ?_))
    obtain ⟨rfl, rfl⟩ := hq
    obtain ⟨n_38, en_38⟩ : ∃ f : Nat → Int32, f = upd n_10 (6 * c0 + 395) (nI c0) := ⟨_, rfl⟩
    rw [← en_38]
    have hnn_38 := KI.w en_38 hnn_10 (okv_f (kd_W (k := c0) (c := 5) (by omega) (by omega) (by decide)))
    have hrn_38 := NRx.w en_38 hrn_10 (by rw [(kd_W (k := c0) (c := 5) (by omega) (by omega) (by decide))]; rfl)
    have e39 : n_38 3 = nI (c0 + 1) := by rw [en_38, pk_un (by omega)]; exact e11
    have e40 : n_38 (6 * c0 + 390) = za := by rw [en_38, pk_un (by omega)]; exact e12
    have e41 : n_38 (6 * c0 + 391) = nI ab := by rw [en_38, pk_un (by omega)]; exact e13
    have e42 : n_38 (6 * c0 + 394) = zc := by rw [en_38, pk_un (by omega)]; exact e14
    have e43 : n_38 (6 * c0 + 395) = nI c0 := by rw [en_38, pk_us]
    refine pm_aloadn hG dX12_newPower_61 rfl ?_
    refine pm_iloadi hG dX12_newPower_62 rfl ?_
    refine pm_callV (As := [.int (nI c0)]) (rest := []) hG hR dX12_newPower_64 (lkX12_116 _ rfl) okV_X12_comesBack rfl rfl (m_comesBack (d := 1) (e := 6 * c0 + 392) (e2 := 6 * c0 + 393) (by decide) (by omega) (by omega) (by omega)) rfl rfl hdd (Nat.le_refl _) (Nat.le_refl _) (by decide) (pm_kv (fun σ' cnt' hq => ?_))
    obtain ⟨rfl, rfl⟩ := hq
    obtain ⟨n_44, en_44⟩ : ∃ f : Nat → Int32, f = upd n_38 (6 * c0 + 392) (-1) := ⟨_, rfl⟩
    rw [← en_44]
    have hnn_44 := KI.w en_44 hnn_38 (okv_m (kd_W (k := c0) (c := 2) (by omega) (by omega) (by decide)))
    have hrn_44 := NRx.w en_44 hrn_38 (by rw [(kd_W (k := c0) (c := 2) (by omega) (by omega) (by decide))]; rfl)
    have e45 : n_44 3 = nI (c0 + 1) := by rw [en_44, pk_un (by omega)]; exact e39
    have e46 : n_44 (6 * c0 + 390) = za := by rw [en_44, pk_un (by omega)]; exact e40
    have e47 : n_44 (6 * c0 + 391) = nI ab := by rw [en_44, pk_un (by omega)]; exact e41
    have e48 : n_44 (6 * c0 + 394) = zc := by rw [en_44, pk_un (by omega)]; exact e42
    have e49 : n_44 (6 * c0 + 395) = nI c0 := by rw [en_44, pk_un (by omega)]; exact e43
    have e50 : n_44 (6 * c0 + 392) = (-1) := by rw [en_44, pk_us]
    obtain ⟨n_51, en_51⟩ : ∃ f : Nat → Int32, f = upd n_44 (6 * c0 + 393) (-1) := ⟨_, rfl⟩
    rw [← en_51]
    have hnn_51 := KI.w en_51 hnn_44 (okv_f (kd_W (k := c0) (c := 3) (by omega) (by omega) (by decide)))
    have hrn_51 := NRx.w en_51 hrn_44 (by rw [(kd_W (k := c0) (c := 3) (by omega) (by omega) (by decide))]; rfl)
    have e52 : n_51 3 = nI (c0 + 1) := by rw [en_51, pk_un (by omega)]; exact e45
    have e53 : n_51 (6 * c0 + 390) = za := by rw [en_51, pk_un (by omega)]; exact e46
    have e54 : n_51 (6 * c0 + 391) = nI ab := by rw [en_51, pk_un (by omega)]; exact e47
    have e55 : n_51 (6 * c0 + 394) = zc := by rw [en_51, pk_un (by omega)]; exact e48
    have e56 : n_51 (6 * c0 + 395) = nI c0 := by rw [en_51, pk_un (by omega)]; exact e49
    have e57 : n_51 (6 * c0 + 392) = (-1) := by rw [en_51, pk_un (by omega)]; exact e50
    have e58 : n_51 (6 * c0 + 393) = (-1) := by rw [en_51, pk_us]
    refine pm_iloadi hG dX12_newPower_67 rfl ?_
    exact pm_iret hG hF dX12_newPower_69 rfl (Nat.le_refl _) (Nat.le_refl _) ⟨_, rfl, ⟨_, rfl, hnn_51, hrn_51⟩, rfl⟩

set_option maxRecDepth 100000 in
set_option maxHeartbeats 4000000 in
theorem m_copy {d B cnt p0 t0 : Nat} {σ : pm_S} {I : Nat → Int32} {A : Nat → Nat → Int32} {n k z : Nat → Int32} {ac wt pl : Int32} {za : Int32} (hdd : 3 ≤ d) (hn : KI n) (hr : NR n) (hz : SZ z)  : pm_met mX12_copy d 0 0 B [.ref (B + 54), .int za] cnt (pm_mid σ (md_L B I A n k z ac wt pl (nI p0) (nI t0))) (pm_Qi (fun v σ' cnt' => (∃ (I' : Nat → Int32) (A' : Nat → Nat → Int32) (n' : Nat → Int32), σ' = pm_mid σ (md_L B I' A' n' k z ac wt pl (nI p0) (nI t0)) ∧ KI n' ∧ NR n') ∧ cnt' = cnt)) := by
  refine pm_enter 0 (by decide) (Nat.le_of_ble_eq_true rfl) rfl (fun G hG hR hF => ?_)
  refine pm_aloadn hG dX12_copy_0 rfl ?_
  refine pm_iloadn hG dX12_copy_1 rfl ?_
  obtain ⟨k1, hk1, ek1⟩ := KI.nat hn (by decide)
  refine pm_callV (As := [.int za]) (rest := []) hG hR dX12_copy_2 (lkX12_132 _ rfl) okV_X12_isPower rfl rfl (m_isPower (d := 2) (by decide) ek1 (by omega)) rfl rfl hdd (Nat.le_refl _) (Nat.le_refl _) (by decide) (pm_ki (fun v2 σ' cnt' hq => ?_))
  obtain ⟨hq, rfl, rfl⟩ := hq
  rcases hq with ⟨rfl, k4, hk4, ek4⟩ | rfl
  · refine pm_ifN_ne (tgt := 14) hG dX12_copy_5 rfl (by omega) (fun _ => ?_) (fun q => absurd q (by omega))
    refine pm_aloadn hG dX12_copy_14 rfl ?_
    refine pm_iloadn hG dX12_copy_15 rfl ?_
    refine pm_top (v := nI k4) ek4 ?_
    refine pm_iconst (v := nI 0) hG dX12_copy_16 (by decide) ?_
    refine pm_callV (As := [.int (nI k4), .int (nI 0)]) (rest := []) hG hR dX12_copy_17 (lkX12_110 _ rfl) okV_X12_its rfl rfl (m_its (d := 2) (e := 6 * k4 + 390) (by omega) (by omega) (by omega)) rfl rfl hdd (Nat.le_refl _) (Nat.le_refl _) (by decide) (pm_ki (fun v5 σ' cnt' hq => ?_))
    obtain ⟨rfl, rfl, rfl⟩ := hq
    refine pm_gen (fun x6 ex6 => ?_)
    refine pm_iconst (v := nI 2) hG dX12_copy_20 (by decide) ?_
    refine pm_icmp_eq (tgt := 30) hG dX12_copy_21 rfl (fun c7 => ?_) (fun c7 => ?_)
    · refine pm_aloadn hG dX12_copy_30 rfl ?_
      refine pm_iloadn hG dX12_copy_31 rfl ?_
      refine pm_top (v := nI k4) ek4 ?_
      rcases KI.opt hn (kd_W (k := k4) (c := 2) (by omega) (by omega) (by decide)) with ek8 | ⟨k8, hk8, ek8⟩
      · rcases KI.opt hn (kd_W (k := k4) (c := 1) (by omega) (by omega) (by decide)) with ek9 | ⟨k9, hk9, ek9⟩
        · refine pm_callV (As := [.int (nI k4)]) (rest := []) hG hR dX12_copy_32 (lkX12_139 _ rfl) okV_X12_whoHas rfl rfl (m_whoHas0 (d := 2) (e := 6 * k4 + 392) (e2 := 6 * k4 + 391) (by decide) (by omega) (by omega) (by omega) ek8 ek9) rfl rfl hdd (Nat.le_refl _) (Nat.le_refl _) (by decide) (pm_ki (fun v10 σ' cnt' hq => ?_))
          obtain ⟨rfl, rfl, rfl⟩ := hq
          refine pm_if_ge (tgt := 44) hG dX12_copy_35 rfl (fun q => absurd q (by decide)) (fun _ => ?_)
          refine pm_aloadn hG dX12_copy_38 rfl ?_
          refine pm_iconst (v := nI 3) hG dX12_copy_39 (by decide) ?_
          refine pm_callV (As := [.int (nI 3)]) (rest := []) hG hR dX12_copy_40 (lkX12_80 _ rfl) okV_X12_finds rfl rfl (m_finds (d := 2) (by decide) hn hz (by omega)) rfl rfl hdd (Nat.le_refl _) (Nat.le_refl _) (by decide) (pm_ki (fun v11 σ' cnt' hq => ?_))
          obtain ⟨⟨I12, A12, rfl⟩, rfl⟩ := hq
          exact pm_iret hG hF dX12_copy_43 rfl (Nat.le_refl _) (Nat.le_refl _) ⟨_, rfl, ⟨_, _, _, rfl, hn, hr⟩, rfl⟩
        · refine pm_callV (As := [.int (nI k4)]) (rest := []) hG hR dX12_copy_32 (lkX12_139 _ rfl) okV_X12_whoHas rfl rfl (m_whoHas0 (d := 2) (e := 6 * k4 + 392) (e2 := 6 * k4 + 391) (by decide) (by omega) (by omega) (by omega) ek8 ek9) rfl rfl hdd (Nat.le_refl _) (Nat.le_refl _) (by decide) (pm_ki (fun v13 σ' cnt' hq => ?_))
          obtain ⟨rfl, rfl, rfl⟩ := hq
          refine pm_ifN_ge (tgt := 44) hG dX12_copy_35 rfl (by omega) ?_
          refine pm_aloadn hG dX12_copy_44 rfl ?_
          refine pm_getf hG dX12_copy_45 (flX12_7 _ rfl) rfl rfl ?_
          refine pm_iconst (v := nI 3) hG dX12_copy_48 (by decide) ?_
          refine pm_ialdN hG dX12_copy_49 rfl (by decide) (by omega) ?_
          refine pm_top (v := nI k1) ek1 ?_
          refine pm_bipush (v := nI 20) hG dX12_copy_50 (by decide) ?_
          refine pm_icmpN_ne (tgt := 63) hG dX12_copy_52 rfl (by omega) (by omega) (fun c14 => ?_) (fun c14 => ?_)
          · refine pm_aloadn hG dX12_copy_63 rfl ?_
            refine pm_iconst (v := nI 2) hG dX12_copy_64 (by decide) ?_
            refine pm_aloadn hG dX12_copy_65 rfl ?_
            refine pm_iloadn hG dX12_copy_66 rfl ?_
            refine pm_top (v := nI k4) ek4 ?_
            refine pm_callV (As := [.int (nI k4)]) (rest := [.int (nI 2), .ref (B + 54)]) hG hR dX12_copy_67 (lkX12_139 _ rfl) okV_X12_whoHas rfl rfl (m_whoHas0 (d := 2) (e := 6 * k4 + 392) (e2 := 6 * k4 + 391) (by decide) (by omega) (by omega) (by omega) ek8 ek9) rfl rfl hdd (Nat.le_refl _) (Nat.le_refl _) (Nat.le_of_ble_eq_true rfl) (pm_ki (fun v15 σ' cnt' hq => ?_))
            obtain ⟨rfl, rfl, rfl⟩ := hq
            refine pm_iconst (v := nI 0) hG dX12_copy_70 (by decide) ?_
            refine pm_aloadn hG dX12_copy_71 rfl ?_
            refine pm_iloadn hG dX12_copy_72 rfl ?_
            refine pm_top (v := nI k4) ek4 ?_
            refine pm_iconst (v := nI 5) hG dX12_copy_73 (by decide) ?_
            refine pm_callV (As := [.int (nI k4), .int (nI 5)]) (rest := [.int (nI 0), .int (nI k9), .int (nI 2), .ref (B + 54)]) hG hR dX12_copy_74 (lkX12_110 _ rfl) okV_X12_its rfl rfl (m_its (d := 2) (e := 6 * k4 + 395) (by omega) (by omega) (by omega)) rfl rfl hdd (Nat.le_refl _) (Nat.le_refl _) (Nat.le_of_ble_eq_true rfl) (pm_ki (fun v16 σ' cnt' hq => ?_))
            obtain ⟨rfl, rfl, rfl⟩ := hq
            refine pm_gen (fun x17 ex17 => ?_)
            refine pm_callV (As := [.int (nI 2), .int (nI k9), .int (nI 0), .int x17]) (rest := []) hG hR dX12_copy_77 (lkX12_128 _ rfl) okV_X12_newPower rfl rfl (m_newPower_n20 (d := 2) (by decide) hn hr hz (by omega) ek1 (by omega)) rfl rfl hdd (Nat.le_refl _) (Nat.le_refl _) (by decide) (pm_ki (fun v18 σ' cnt' hq => ?_))
            obtain ⟨⟨n_19, rfl, hn19, hr19⟩, rfl⟩ := hq
            exact pm_iret hG hF dX12_copy_80 rfl (Nat.le_refl _) (Nat.le_refl _) ⟨_, rfl, ⟨_, _, _, rfl, hn19, hr19⟩, rfl⟩
          · refine pm_aloadn hG dX12_copy_55 rfl ?_
            refine pm_iconst (v := nI 4) hG dX12_copy_56 (by decide) ?_
            refine pm_callV (As := [.int (nI 4)]) (rest := []) hG hR dX12_copy_57 (lkX12_80 _ rfl) okV_X12_finds rfl rfl (m_finds (d := 2) (by decide) hn hz (by omega)) rfl rfl hdd (Nat.le_refl _) (Nat.le_refl _) (by decide) (pm_ki (fun v20 σ' cnt' hq => ?_))
            obtain ⟨⟨I21, A21, rfl⟩, rfl⟩ := hq
            refine pm_goto (tgt := 80) hG dX12_copy_60 rfl ?_
            exact pm_iret hG hF dX12_copy_80 rfl (Nat.le_refl _) (Nat.le_refl _) ⟨_, rfl, ⟨_, _, _, rfl, hn, hr⟩, rfl⟩
      · refine pm_callV (As := [.int (nI k4)]) (rest := []) hG hR dX12_copy_32 (lkX12_139 _ rfl) okV_X12_whoHas rfl rfl (m_whoHas1 (d := 2) (e := 6 * k4 + 392) (by decide) (by omega) (by omega) ek8 (by omega)) rfl rfl hdd (Nat.le_refl _) (Nat.le_refl _) (by decide) (pm_ki (fun v22 σ' cnt' hq => ?_))
        obtain ⟨rfl, rfl, rfl⟩ := hq
        refine pm_ifN_ge (tgt := 44) hG dX12_copy_35 rfl (by omega) ?_
        refine pm_aloadn hG dX12_copy_44 rfl ?_
        refine pm_getf hG dX12_copy_45 (flX12_7 _ rfl) rfl rfl ?_
        refine pm_iconst (v := nI 3) hG dX12_copy_48 (by decide) ?_
        refine pm_ialdN hG dX12_copy_49 rfl (by decide) (by omega) ?_
        refine pm_top (v := nI k1) ek1 ?_
        refine pm_bipush (v := nI 20) hG dX12_copy_50 (by decide) ?_
        refine pm_icmpN_ne (tgt := 63) hG dX12_copy_52 rfl (by omega) (by omega) (fun c23 => ?_) (fun c23 => ?_)
        · refine pm_aloadn hG dX12_copy_63 rfl ?_
          refine pm_iconst (v := nI 2) hG dX12_copy_64 (by decide) ?_
          refine pm_aloadn hG dX12_copy_65 rfl ?_
          refine pm_iloadn hG dX12_copy_66 rfl ?_
          refine pm_top (v := nI k4) ek4 ?_
          refine pm_callV (As := [.int (nI k4)]) (rest := [.int (nI 2), .ref (B + 54)]) hG hR dX12_copy_67 (lkX12_139 _ rfl) okV_X12_whoHas rfl rfl (m_whoHas1 (d := 2) (e := 6 * k4 + 392) (by decide) (by omega) (by omega) ek8 (by omega)) rfl rfl hdd (Nat.le_refl _) (Nat.le_refl _) (Nat.le_of_ble_eq_true rfl) (pm_ki (fun v24 σ' cnt' hq => ?_))
          obtain ⟨rfl, rfl, rfl⟩ := hq
          refine pm_iconst (v := nI 0) hG dX12_copy_70 (by decide) ?_
          refine pm_aloadn hG dX12_copy_71 rfl ?_
          refine pm_iloadn hG dX12_copy_72 rfl ?_
          refine pm_top (v := nI k4) ek4 ?_
          refine pm_iconst (v := nI 5) hG dX12_copy_73 (by decide) ?_
          refine pm_callV (As := [.int (nI k4), .int (nI 5)]) (rest := [.int (nI 0), .int (nI k8), .int (nI 2), .ref (B + 54)]) hG hR dX12_copy_74 (lkX12_110 _ rfl) okV_X12_its rfl rfl (m_its (d := 2) (e := 6 * k4 + 395) (by omega) (by omega) (by omega)) rfl rfl hdd (Nat.le_refl _) (Nat.le_refl _) (Nat.le_of_ble_eq_true rfl) (pm_ki (fun v25 σ' cnt' hq => ?_))
          obtain ⟨rfl, rfl, rfl⟩ := hq
          refine pm_gen (fun x26 ex26 => ?_)
          refine pm_callV (As := [.int (nI 2), .int (nI k8), .int (nI 0), .int x26]) (rest := []) hG hR dX12_copy_77 (lkX12_128 _ rfl) okV_X12_newPower rfl rfl (m_newPower_n20 (d := 2) (by decide) hn hr hz (by omega) ek1 (by omega)) rfl rfl hdd (Nat.le_refl _) (Nat.le_refl _) (by decide) (pm_ki (fun v27 σ' cnt' hq => ?_))
          obtain ⟨⟨n_28, rfl, hn28, hr28⟩, rfl⟩ := hq
          exact pm_iret hG hF dX12_copy_80 rfl (Nat.le_refl _) (Nat.le_refl _) ⟨_, rfl, ⟨_, _, _, rfl, hn28, hr28⟩, rfl⟩
        · refine pm_aloadn hG dX12_copy_55 rfl ?_
          refine pm_iconst (v := nI 4) hG dX12_copy_56 (by decide) ?_
          refine pm_callV (As := [.int (nI 4)]) (rest := []) hG hR dX12_copy_57 (lkX12_80 _ rfl) okV_X12_finds rfl rfl (m_finds (d := 2) (by decide) hn hz (by omega)) rfl rfl hdd (Nat.le_refl _) (Nat.le_refl _) (by decide) (pm_ki (fun v29 σ' cnt' hq => ?_))
          obtain ⟨⟨I30, A30, rfl⟩, rfl⟩ := hq
          refine pm_goto (tgt := 80) hG dX12_copy_60 rfl ?_
          exact pm_iret hG hF dX12_copy_80 rfl (Nat.le_refl _) (Nat.le_refl _) ⟨_, rfl, ⟨_, _, _, rfl, hn, hr⟩, rfl⟩
    · refine pm_aloadn hG dX12_copy_24 rfl ?_
      refine pm_iconst (v := nI 5) hG dX12_copy_25 (by decide) ?_
      refine pm_callV (As := [.int (nI 5)]) (rest := []) hG hR dX12_copy_26 (lkX12_80 _ rfl) okV_X12_finds rfl rfl (m_finds (d := 2) (by decide) hn hz (by omega)) rfl rfl hdd (Nat.le_refl _) (Nat.le_refl _) (by decide) (pm_ki (fun v31 σ' cnt' hq => ?_))
      obtain ⟨⟨I32, A32, rfl⟩, rfl⟩ := hq
      exact pm_iret hG hF dX12_copy_29 rfl (Nat.le_refl _) (Nat.le_refl _) ⟨_, rfl, ⟨_, _, _, rfl, hn, hr⟩, rfl⟩
  · refine pm_ifN_ne (tgt := 14) hG dX12_copy_5 rfl (by omega) (fun q => absurd q (by omega)) (fun _ => ?_)
    refine pm_aloadn hG dX12_copy_8 rfl ?_
    refine pm_iconst (v := nI 1) hG dX12_copy_9 (by decide) ?_
    refine pm_callV (As := [.int (nI 1)]) (rest := []) hG hR dX12_copy_10 (lkX12_80 _ rfl) okV_X12_finds rfl rfl (m_finds (d := 2) (by decide) hn hz (by omega)) rfl rfl hdd (Nat.le_refl _) (Nat.le_refl _) (by decide) (pm_ki (fun v33 σ' cnt' hq => ?_))
    obtain ⟨⟨I34, A34, rfl⟩, rfl⟩ := hq
    exact pm_iret hG hF dX12_copy_13 rfl (Nat.le_refl _) (Nat.le_refl _) ⟨_, rfl, ⟨_, _, _, rfl, hn, hr⟩, rfl⟩

set_option maxRecDepth 100000 in
set_option maxHeartbeats 4000000 in
theorem m_seatedMany {d B cnt p0 t0 : Nat} {σ : pm_S} {I : Nat → Int32} {A : Nat → Nat → Int32} {n k z : Nat → Int32} {ac wt pl : Int32} (hdd : 1 ≤ d) (hn : KI n) (hr : NR n) (hz : SZ z)  : pm_met mX12_seatedMany d 0 0 B [.ref (B + 54)] cnt (pm_mid σ (md_L B I A n k z ac wt pl (nI p0) (nI t0))) (pm_Qi (fun v σ' cnt' => σ' = pm_mid σ (md_L B I A n k z ac wt pl (nI p0) (nI t0)) ∧ cnt' = cnt)) := by
  refine pm_enter 2 (by decide) (Nat.le_of_ble_eq_true rfl) rfl (fun G hG hR hF => ?_)
  refine pm_iconst (v := nI 0) hG dX12_seatedMany_0 (by decide) ?_
  refine pm_istoreXn (loc' := [some (.ref (B + 54)), some (.int (nI 0)), none]) hG dX12_seatedMany_1 (by decide) (pm_c1b rfl) rfl ?_
  refine pm_iconst (v := nI 0) hG dX12_seatedMany_2 (by decide) ?_
  refine pm_istoreXn (loc' := [some (.ref (B + 54)), some (.int (nI 0)), some (.int (nI 0))]) hG dX12_seatedMany_3 (by decide) (pm_c1b rfl) rfl ?_
  have loop4_1 : ∀ (m1 : Nat) (x1_1 : Int32) (i1 : Nat), i1 ≤ 20 → 20 - i1 < m1 → pm_wp mX12_seatedMany G B 4 [some (.ref (B + 54)), some (.int x1_1), some (.int (nI i1))] [] 0 0 cnt (pm_mid σ (md_L B I A n k z ac wt pl (nI p0) (nI t0))) := by
    intro m1
    induction m1 with
    | zero => intro x1_1 i1 _ hm; exact absurd hm (Nat.not_lt_zero _)
    | succ m1 ih1 =>
      intro x1_1 i1 hi1 hm1
      refine pm_iloadn hG dX12_seatedMany_4 rfl ?_
      refine pm_aloadn hG dX12_seatedMany_5 rfl ?_
      refine pm_getf hG dX12_seatedMany_6 (flX12_7 _ rfl) rfl rfl ?_
      refine pm_iconst (v := nI 2) hG dX12_seatedMany_9 (by decide) ?_
      refine pm_ialdN hG dX12_seatedMany_10 rfl (by decide) (by omega) ?_
      obtain ⟨k2, hk2, ek2⟩ := KI.nat hn (by decide)
      refine pm_top (v := nI k2) ek2 ?_
      refine pm_icmpN_ge (tgt := 30) hG dX12_seatedMany_11 rfl (by omega) (by omega) (fun c3 => ?_) (fun c3 => ?_)
      · refine pm_iloadn hG dX12_seatedMany_30 rfl ?_
        exact pm_iret hG hF dX12_seatedMany_31 rfl (Nat.le_refl _) (Nat.le_refl _) ⟨_, rfl, rfl, rfl⟩
      · refine pm_iloadn hG dX12_seatedMany_14 rfl ?_
        refine pm_aloadn hG dX12_seatedMany_15 rfl ?_
        refine pm_iloadn hG dX12_seatedMany_16 rfl ?_
        refine pm_bipush (v := nI 11) hG dX12_seatedMany_17 (by decide) ?_
        refine pm_callV (As := [.int (nI i1), .int (nI 11)]) (rest := [.int x1_1]) hG hR dX12_seatedMany_19 (lkX12_72 _ rfl) okV_X12_man rfl rfl (m_man (d := 0) (e := 14 * i1 + 121) (by omega) (by omega) (by omega)) rfl rfl hdd (Nat.le_refl _) (Nat.le_refl _) (Nat.le_of_ble_eq_true rfl) (pm_ki (fun v4 σ' cnt' hq => ?_))
        obtain ⟨rfl, rfl, rfl⟩ := hq
        obtain ⟨k5, hk5, ek5⟩ := KI.nat hn (kd_P (k := i1) (c := 11) (by omega) (by omega) (by decide))
        refine pm_top (v := nI k5) ek5 ?_
        refine pm_iadd hG dX12_seatedMany_22 ?_
        refine pm_istoreXn (loc' := [some (.ref (B + 54)), some (.int (x1_1 + (nI k5))), some (.int (nI i1))]) hG dX12_seatedMany_23 (by decide) (pm_c1b rfl) rfl ?_
        refine pm_iincX (v := nI (i1 + 1)) (loc' := [some (.ref (B + 54)), some (.int (x1_1 + (nI k5))), some (.int (nI (i1 + 1)))]) hG dX12_seatedMany_24 rfl (nI_1 _) (by decide) (pm_c1b rfl) rfl ?_
        refine pm_goto (tgt := 4) hG dX12_seatedMany_27 rfl ?_
        exact ih1 (x1_1 + (nI k5)) (i1 + 1) (by omega) (by omega)
  exact loop4_1 _ (nI 0) 0 (by omega) (Nat.lt_succ_self _)

set_option maxRecDepth 100000 in
set_option maxHeartbeats 4000000 in
theorem m_count {d B cnt p0 t0 : Nat} {σ : pm_S} {I : Nat → Int32} {A : Nat → Nat → Int32} {n k z : Nat → Int32} {ac wt pl : Int32} {za : Int32} (hdd : 2 ≤ d) (hn : KI n) (hr : NR n) (hz : SZ z) (ht0 : t0 ≤ 40)  : pm_met mX12_count d 0 0 B [.ref (B + 54), .int za] cnt (pm_mid σ (md_L B I A n k z ac wt pl (nI p0) (nI t0))) (pm_Qi (fun v σ' cnt' => (∃ (I' : Nat → Int32) (A' : Nat → Nat → Int32), σ' = pm_mid σ (md_L B I' A' n k z ac wt pl (nI p0) (nI t0))) ∧ cnt' = cnt)) := by
  refine pm_enter 2 (by decide) (Nat.le_of_ble_eq_true rfl) rfl (fun G hG hR hF => ?_)
  refine pm_iconst (v := nI 0) hG dX12_count_0 (by decide) ?_
  refine pm_istoreXn (loc' := [some (.ref (B + 54)), some (.int za), some (.int (nI 0)), none]) hG dX12_count_1 (by decide) (pm_c1b rfl) rfl ?_
  refine pm_iloadn hG dX12_count_2 rfl ?_
  by_cases c1 : za = nI 0
  · refine pm_top (v := nI 0) c1 ?_
    refine pm_tswIn (tgt := 80) hG dX12_count_3 (by decide) (by decide) rfl rfl ?_
    refine pm_aloadn hG dX12_count_80 rfl ?_
    refine pm_getf hG dX12_count_81 (flX12_7 _ rfl) rfl rfl ?_
    refine pm_iloadn hG dX12_count_84 rfl ?_
    refine pm_top (v := nI 0) c1 ?_
    refine pm_ialdN hG dX12_count_85 rfl (by decide) (by omega) ?_
    obtain ⟨k2, hk2, ek2⟩ := KI.nat hn (by decide)
    refine pm_top (v := nI k2) ek2 ?_
    exact pm_iret hG hF dX12_count_86 rfl (Nat.le_refl _) (Nat.le_refl _) ⟨_, rfl, ⟨_, _, rfl⟩, rfl⟩
  by_cases c3 : za = nI 1
  · refine pm_top (v := nI 1) c3 ?_
    refine pm_tswIn (tgt := 80) hG dX12_count_3 (by decide) (by decide) rfl rfl ?_
    refine pm_aloadn hG dX12_count_80 rfl ?_
    refine pm_getf hG dX12_count_81 (flX12_7 _ rfl) rfl rfl ?_
    refine pm_iloadn hG dX12_count_84 rfl ?_
    refine pm_top (v := nI 1) c3 ?_
    refine pm_ialdN hG dX12_count_85 rfl (by decide) (by omega) ?_
    obtain ⟨k4, hk4, ek4⟩ := KI.nat hn (by decide)
    refine pm_top (v := nI k4) ek4 ?_
    exact pm_iret hG hF dX12_count_86 rfl (Nat.le_refl _) (Nat.le_refl _) ⟨_, rfl, ⟨_, _, rfl⟩, rfl⟩
  by_cases c5 : za = nI 2
  · refine pm_top (v := nI 2) c5 ?_
    refine pm_tswIn (tgt := 80) hG dX12_count_3 (by decide) (by decide) rfl rfl ?_
    refine pm_aloadn hG dX12_count_80 rfl ?_
    refine pm_getf hG dX12_count_81 (flX12_7 _ rfl) rfl rfl ?_
    refine pm_iloadn hG dX12_count_84 rfl ?_
    refine pm_top (v := nI 2) c5 ?_
    refine pm_ialdN hG dX12_count_85 rfl (by decide) (by omega) ?_
    obtain ⟨k6, hk6, ek6⟩ := KI.nat hn (by decide)
    refine pm_top (v := nI k6) ek6 ?_
    exact pm_iret hG hF dX12_count_86 rfl (Nat.le_refl _) (Nat.le_refl _) ⟨_, rfl, ⟨_, _, rfl⟩, rfl⟩
  by_cases c7 : za = nI 3
  · refine pm_top (v := nI 3) c7 ?_
    refine pm_tswIn (tgt := 80) hG dX12_count_3 (by decide) (by decide) rfl rfl ?_
    refine pm_aloadn hG dX12_count_80 rfl ?_
    refine pm_getf hG dX12_count_81 (flX12_7 _ rfl) rfl rfl ?_
    refine pm_iloadn hG dX12_count_84 rfl ?_
    refine pm_top (v := nI 3) c7 ?_
    refine pm_ialdN hG dX12_count_85 rfl (by decide) (by omega) ?_
    obtain ⟨k8, hk8, ek8⟩ := KI.nat hn (by decide)
    refine pm_top (v := nI k8) ek8 ?_
    exact pm_iret hG hF dX12_count_86 rfl (Nat.le_refl _) (Nat.le_refl _) ⟨_, rfl, ⟨_, _, rfl⟩, rfl⟩
  by_cases c9 : za = nI 4
  · refine pm_top (v := nI 4) c9 ?_
    refine pm_tswIn (tgt := 80) hG dX12_count_3 (by decide) (by decide) rfl rfl ?_
    refine pm_aloadn hG dX12_count_80 rfl ?_
    refine pm_getf hG dX12_count_81 (flX12_7 _ rfl) rfl rfl ?_
    refine pm_iloadn hG dX12_count_84 rfl ?_
    refine pm_top (v := nI 4) c9 ?_
    refine pm_ialdN hG dX12_count_85 rfl (by decide) (by omega) ?_
    obtain ⟨k10, hk10, ek10⟩ := KI.nat hn (by decide)
    refine pm_top (v := nI k10) ek10 ?_
    exact pm_iret hG hF dX12_count_86 rfl (Nat.le_refl _) (Nat.le_refl _) ⟨_, rfl, ⟨_, _, rfl⟩, rfl⟩
  by_cases c11 : za = nI 5
  · refine pm_top (v := nI 5) c11 ?_
    refine pm_tswIn (tgt := 80) hG dX12_count_3 (by decide) (by decide) rfl rfl ?_
    refine pm_aloadn hG dX12_count_80 rfl ?_
    refine pm_getf hG dX12_count_81 (flX12_7 _ rfl) rfl rfl ?_
    refine pm_iloadn hG dX12_count_84 rfl ?_
    refine pm_top (v := nI 5) c11 ?_
    refine pm_ialdN hG dX12_count_85 rfl (by decide) (by omega) ?_
    obtain ⟨k12, hk12, ek12⟩ := KI.nat hn (by decide)
    refine pm_top (v := nI k12) ek12 ?_
    exact pm_iret hG hF dX12_count_86 rfl (Nat.le_refl _) (Nat.le_refl _) ⟨_, rfl, ⟨_, _, rfl⟩, rfl⟩
  by_cases c13 : za = nI 6
  · refine pm_top (v := nI 6) c13 ?_
    refine pm_tswIn (tgt := 80) hG dX12_count_3 (by decide) (by decide) rfl rfl ?_
    refine pm_aloadn hG dX12_count_80 rfl ?_
    refine pm_getf hG dX12_count_81 (flX12_7 _ rfl) rfl rfl ?_
    refine pm_iloadn hG dX12_count_84 rfl ?_
    refine pm_top (v := nI 6) c13 ?_
    refine pm_ialdN hG dX12_count_85 rfl (by decide) (by omega) ?_
    obtain ⟨k14, hk14, ek14⟩ := KI.nat hn (by decide)
    refine pm_top (v := nI k14) ek14 ?_
    exact pm_iret hG hF dX12_count_86 rfl (Nat.le_refl _) (Nat.le_refl _) ⟨_, rfl, ⟨_, _, rfl⟩, rfl⟩
  by_cases c15 : za = nI 7
  · refine pm_top (v := nI 7) c15 ?_
    refine pm_tswIn (tgt := 80) hG dX12_count_3 (by decide) (by decide) rfl rfl ?_
    refine pm_aloadn hG dX12_count_80 rfl ?_
    refine pm_getf hG dX12_count_81 (flX12_7 _ rfl) rfl rfl ?_
    refine pm_iloadn hG dX12_count_84 rfl ?_
    refine pm_top (v := nI 7) c15 ?_
    refine pm_ialdN hG dX12_count_85 rfl (by decide) (by omega) ?_
    obtain ⟨k16, hk16, ek16⟩ := KI.nat hn (by decide)
    refine pm_top (v := nI k16) ek16 ?_
    exact pm_iret hG hF dX12_count_86 rfl (Nat.le_refl _) (Nat.le_refl _) ⟨_, rfl, ⟨_, _, rfl⟩, rfl⟩
  by_cases c17 : za = nI 8
  · refine pm_top (v := nI 8) c17 ?_
    refine pm_tswIn (tgt := 80) hG dX12_count_3 (by decide) (by decide) rfl rfl ?_
    refine pm_aloadn hG dX12_count_80 rfl ?_
    refine pm_getf hG dX12_count_81 (flX12_7 _ rfl) rfl rfl ?_
    refine pm_iloadn hG dX12_count_84 rfl ?_
    refine pm_top (v := nI 8) c17 ?_
    refine pm_ialdN hG dX12_count_85 rfl (by decide) (by omega) ?_
    obtain ⟨k18, hk18, ek18⟩ := KI.nat hn (by decide)
    refine pm_top (v := nI k18) ek18 ?_
    exact pm_iret hG hF dX12_count_86 rfl (Nat.le_refl _) (Nat.le_refl _) ⟨_, rfl, ⟨_, _, rfl⟩, rfl⟩
  by_cases c19 : za = nI 9
  · refine pm_top (v := nI 9) c19 ?_
    refine pm_tswIn (tgt := 80) hG dX12_count_3 (by decide) (by decide) rfl rfl ?_
    refine pm_aloadn hG dX12_count_80 rfl ?_
    refine pm_getf hG dX12_count_81 (flX12_7 _ rfl) rfl rfl ?_
    refine pm_iloadn hG dX12_count_84 rfl ?_
    refine pm_top (v := nI 9) c19 ?_
    refine pm_ialdN hG dX12_count_85 rfl (by decide) (by omega) ?_
    refine pm_gen (fun x20 ex20 => ?_)
    exact pm_iret hG hF dX12_count_86 rfl (Nat.le_refl _) (Nat.le_refl _) ⟨_, rfl, ⟨_, _, rfl⟩, rfl⟩
  by_cases c21 : za = nI 10
  · refine pm_top (v := nI 10) c21 ?_
    refine pm_tswIn (tgt := 80) hG dX12_count_3 (by decide) (by decide) rfl rfl ?_
    refine pm_aloadn hG dX12_count_80 rfl ?_
    refine pm_getf hG dX12_count_81 (flX12_7 _ rfl) rfl rfl ?_
    refine pm_iloadn hG dX12_count_84 rfl ?_
    refine pm_top (v := nI 10) c21 ?_
    refine pm_ialdN hG dX12_count_85 rfl (by decide) (by omega) ?_
    obtain ⟨k22, hk22, ek22⟩ := KI.nat hn (by decide)
    refine pm_top (v := nI k22) ek22 ?_
    exact pm_iret hG hF dX12_count_86 rfl (Nat.le_refl _) (Nat.le_refl _) ⟨_, rfl, ⟨_, _, rfl⟩, rfl⟩
  by_cases c23 : za = nI 11
  · refine pm_top (v := nI 11) c23 ?_
    refine pm_tswIn (tgt := 87) hG dX12_count_3 (by decide) (by decide) rfl rfl ?_
    refine pm_aloadn hG dX12_count_87 rfl ?_
    refine pm_callV (As := []) (rest := []) hG hR dX12_count_88 (lkX12_243 _ rfl) okV_X12_seatedMany rfl rfl (m_seatedMany (d := 1) (by decide) hn hr hz) rfl rfl hdd (Nat.le_refl _) (Nat.le_refl _) (by decide) (pm_ki (fun v24 σ' cnt' hq => ?_))
    obtain ⟨rfl, rfl⟩ := hq
    exact pm_iret hG hF dX12_count_91 rfl (Nat.le_refl _) (Nat.le_refl _) ⟨_, rfl, ⟨_, _, rfl⟩, rfl⟩
  by_cases c26 : za = nI 12
  · refine pm_top (v := nI 12) c26 ?_
    refine pm_tswIn (tgt := 92) hG dX12_count_3 (by decide) (by decide) rfl rfl ?_
    refine pm_aloadn hG dX12_count_92 rfl ?_
    refine pm_getf hG dX12_count_93 (flX12_283 _ rfl) rfl rfl ?_
    exact pm_iret hG hF dX12_count_96 rfl (Nat.le_refl _) (Nat.le_refl _) ⟨_, rfl, ⟨_, _, rfl⟩, rfl⟩
  by_cases c27 : za = nI 13
  · refine pm_top (v := nI 13) c27 ?_
    refine pm_tswIn (tgt := 97) hG dX12_count_3 (by decide) (by decide) rfl rfl ?_
    refine pm_aloadn hG dX12_count_97 rfl ?_
    refine pm_getf hG dX12_count_98 (flX12_7 _ rfl) rfl rfl ?_
    refine pm_bipush (v := nI 11) hG dX12_count_101 (by decide) ?_
    refine pm_ialdN hG dX12_count_103 rfl (by decide) (by omega) ?_
    obtain ⟨k28, hk28, ek28⟩ := KI.nat hn (by decide)
    refine pm_top (v := nI k28) ek28 ?_
    exact pm_iret hG hF dX12_count_104 rfl (Nat.le_refl _) (Nat.le_refl _) ⟨_, rfl, ⟨_, _, rfl⟩, rfl⟩
  by_cases c29 : za = nI 14
  · refine pm_top (v := nI 14) c29 ?_
    refine pm_tswIn (tgt := 105) hG dX12_count_3 (by decide) (by decide) rfl rfl ?_
    refine pm_iconst (v := nI 0) hG dX12_count_105 (by decide) ?_
    refine pm_istoreXn (loc' := [some (.ref (B + 54)), some (.int za), some (.int (nI 0)), some (.int (nI 0))]) hG dX12_count_106 (by decide) (pm_c1b rfl) rfl ?_
    have loop107_30 : ∀ (m30 : Nat) (I30 : Nat → Int32) (A30 : Nat → Nat → Int32) (x30_2 : Int32) (i30 : Nat), i30 ≤ 20 → 20 - i30 < m30 → pm_wp mX12_count G B 107 [some (.ref (B + 54)), some (.int za), some (.int x30_2), some (.int (nI i30))] [] 0 0 cnt (pm_mid σ (md_L B I30 A30 n k z ac wt pl (nI p0) (nI t0))) := by
      intro m30
      induction m30 with
      | zero => intro I30 A30 x30_2 i30 _ hm; exact absurd hm (Nat.not_lt_zero _)
      | succ m30 ih30 =>
        intro I30 A30 x30_2 i30 hi30 hm30
        refine pm_iloadn hG dX12_count_107 rfl ?_
        refine pm_aloadn hG dX12_count_108 rfl ?_
        refine pm_getf hG dX12_count_109 (flX12_7 _ rfl) rfl rfl ?_
        refine pm_iconst (v := nI 2) hG dX12_count_112 (by decide) ?_
        refine pm_ialdN hG dX12_count_113 rfl (by decide) (by omega) ?_
        obtain ⟨k31, hk31, ek31⟩ := KI.nat hn (by decide)
        refine pm_top (v := nI k31) ek31 ?_
        refine pm_icmpN_ge (tgt := 133) hG dX12_count_114 rfl (by omega) (by omega) (fun c32 => ?_) (fun c32 => ?_)
        · refine pm_iloadn hG dX12_count_133 rfl ?_
          exact pm_iret hG hF dX12_count_134 rfl (Nat.le_refl _) (Nat.le_refl _) ⟨_, rfl, ⟨_, _, rfl⟩, rfl⟩
        · refine pm_iloadn hG dX12_count_117 rfl ?_
          refine pm_aloadn hG dX12_count_118 rfl ?_
          refine pm_iloadn hG dX12_count_119 rfl ?_
          refine pm_bipush (v := nI 7) hG dX12_count_120 (by decide) ?_
          refine pm_callV (As := [.int (nI i30), .int (nI 7)]) (rest := [.int x30_2]) hG hR dX12_count_122 (lkX12_72 _ rfl) okV_X12_man rfl rfl (m_man (d := 1) (e := 14 * i30 + 117) (by omega) (by omega) (by omega)) rfl rfl hdd (Nat.le_refl _) (Nat.le_refl _) (Nat.le_of_ble_eq_true rfl) (pm_ki (fun v33 σ' cnt' hq => ?_))
          obtain ⟨rfl, rfl, rfl⟩ := hq
          refine pm_gen (fun x34 ex34 => ?_)
          refine pm_iadd hG dX12_count_125 ?_
          refine pm_istoreXn (loc' := [some (.ref (B + 54)), some (.int za), some (.int (x30_2 + x34)), some (.int (nI i30))]) hG dX12_count_126 (by decide) (pm_c1b rfl) rfl ?_
          refine pm_iincX (v := nI (i30 + 1)) (loc' := [some (.ref (B + 54)), some (.int za), some (.int (x30_2 + x34)), some (.int (nI (i30 + 1)))]) hG dX12_count_127 rfl (nI_1 _) (by decide) (pm_c1b rfl) rfl ?_
          refine pm_goto (tgt := 107) hG dX12_count_130 rfl ?_
          exact ih30 I30 A30 (x30_2 + x34) (i30 + 1) (by omega) (by omega)
    exact loop107_30 _ I A (nI 0) 0 (by omega) (Nat.lt_succ_self _)
  by_cases c35 : za = nI 15
  · refine pm_top (v := nI 15) c35 ?_
    refine pm_tswIn (tgt := 135) hG dX12_count_3 (by decide) (by decide) rfl rfl ?_
    refine pm_iconst (v := nI 0) hG dX12_count_135 (by decide) ?_
    refine pm_istoreXn (loc' := [some (.ref (B + 54)), some (.int za), some (.int (nI 0)), some (.int (nI 0))]) hG dX12_count_136 (by decide) (pm_c1b rfl) rfl ?_
    have loop137_36 : ∀ (m36 : Nat) (I36 : Nat → Int32) (A36 : Nat → Nat → Int32) (x36_2 : Int32) (i36 : Nat), i36 ≤ 40 → 40 - i36 < m36 → pm_wp mX12_count G B 137 [some (.ref (B + 54)), some (.int za), some (.int x36_2), some (.int (nI i36))] [] 0 0 cnt (pm_mid σ (md_L B I36 A36 n k z ac wt pl (nI p0) (nI t0))) := by
      intro m36
      induction m36 with
      | zero => intro I36 A36 x36_2 i36 _ hm; exact absurd hm (Nat.not_lt_zero _)
      | succ m36 ih36 =>
        intro I36 A36 x36_2 i36 hi36 hm36
        refine pm_iloadn hG dX12_count_137 rfl ?_
        refine pm_aloadn hG dX12_count_138 rfl ?_
        refine pm_getf hG dX12_count_139 (flX12_7 _ rfl) rfl rfl ?_
        refine pm_iconst (v := nI 5) hG dX12_count_142 (by decide) ?_
        refine pm_ialdN hG dX12_count_143 rfl (by decide) (by omega) ?_
        obtain ⟨k37, hk37, ek37⟩ := KI.nat hn (by decide)
        refine pm_top (v := nI k37) ek37 ?_
        refine pm_icmpN_ge (tgt := 186) hG dX12_count_144 rfl (by omega) (by omega) (fun c38 => ?_) (fun c38 => ?_)
        · refine pm_iloadn hG dX12_count_186 rfl ?_
          exact pm_iret hG hF dX12_count_187 rfl (Nat.le_refl _) (Nat.le_refl _) ⟨_, rfl, ⟨_, _, rfl⟩, rfl⟩
        · refine pm_iloadn hG dX12_count_147 rfl ?_
          refine pm_aloadn hG dX12_count_148 rfl ?_
          refine pm_iloadn hG dX12_count_149 rfl ?_
          refine pm_iconst (v := nI 4) hG dX12_count_150 (by decide) ?_
          refine pm_callV (As := [.int (nI i36), .int (nI 4)]) (rest := [.int x36_2]) hG hR dX12_count_151 (lkX12_199 _ rfl) okV_X12_of rfl rfl (m_of (d := 1) (e := 12 * i36 + 1294) (by omega) (by omega) (by omega)) rfl rfl hdd (Nat.le_refl _) (Nat.le_refl _) (Nat.le_of_ble_eq_true rfl) (pm_ki (fun v39 σ' cnt' hq => ?_))
          obtain ⟨rfl, rfl, rfl⟩ := hq
          rcases KI.opt hn (kd_E (k := i36) (c := 4) (by omega) (by omega) (by decide)) with ek40 | ⟨k40, hk40, ek40⟩
          · refine pm_top (v := (-1)) ek40 ?_
            refine pm_if_lt (tgt := 177) hG dX12_count_154 rfl (fun _ => ?_) (fun q => absurd q (by decide))
            refine pm_iconst (v := nI 0) hG dX12_count_177 (by decide) ?_
            refine pm_iadd hG dX12_count_178 ?_
            refine pm_istoreXn (loc' := [some (.ref (B + 54)), some (.int za), some (.int (x36_2 + (nI 0))), some (.int (nI i36))]) hG dX12_count_179 (by decide) (pm_c1b rfl) rfl ?_
            refine pm_iincX (v := nI (i36 + 1)) (loc' := [some (.ref (B + 54)), some (.int za), some (.int (x36_2 + (nI 0))), some (.int (nI (i36 + 1)))]) hG dX12_count_180 rfl (nI_1 _) (by decide) (pm_c1b rfl) rfl ?_
            refine pm_goto (tgt := 137) hG dX12_count_183 rfl ?_
            exact ih36 I36 A36 (x36_2 + (nI 0)) (i36 + 1) (by omega) (by omega)
          · refine pm_top (v := nI k40) ek40 ?_
            refine pm_ifN_lt hG dX12_count_154 rfl (by omega) ?_
            refine pm_aloadn hG dX12_count_157 rfl ?_
            refine pm_iloadn hG dX12_count_158 rfl ?_
            refine pm_iconst (v := nI 5) hG dX12_count_159 (by decide) ?_
            refine pm_callV (As := [.int (nI i36), .int (nI 5)]) (rest := [.int x36_2]) hG hR dX12_count_160 (lkX12_199 _ rfl) okV_X12_of rfl rfl (m_of (d := 1) (e := 12 * i36 + 1295) (by omega) (by omega) (by omega)) rfl rfl hdd (Nat.le_refl _) (Nat.le_refl _) (Nat.le_of_ble_eq_true rfl) (pm_ki (fun v41 σ' cnt' hq => ?_))
            obtain ⟨rfl, rfl, rfl⟩ := hq
            refine pm_gen (fun x42 ex42 => ?_)
            refine pm_aloadn hG dX12_count_163 rfl ?_
            refine pm_getf hG dX12_count_164 (flX12_7 _ rfl) rfl rfl ?_
            refine pm_bipush (v := nI 8) hG dX12_count_167 (by decide) ?_
            refine pm_ialdN hG dX12_count_169 rfl (by decide) (by omega) ?_
            obtain ⟨k43, hk43, ek43⟩ := KI.nat hn (by decide)
            refine pm_top (v := nI k43) ek43 ?_
            refine pm_icmp_le (tgt := 177) hG dX12_count_170 rfl (fun c44 => ?_) (fun c44 => ?_)
            · refine pm_iconst (v := nI 0) hG dX12_count_177 (by decide) ?_
              refine pm_iadd hG dX12_count_178 ?_
              refine pm_istoreXn (loc' := [some (.ref (B + 54)), some (.int za), some (.int (x36_2 + (nI 0))), some (.int (nI i36))]) hG dX12_count_179 (by decide) (pm_c1b rfl) rfl ?_
              refine pm_iincX (v := nI (i36 + 1)) (loc' := [some (.ref (B + 54)), some (.int za), some (.int (x36_2 + (nI 0))), some (.int (nI (i36 + 1)))]) hG dX12_count_180 rfl (nI_1 _) (by decide) (pm_c1b rfl) rfl ?_
              refine pm_goto (tgt := 137) hG dX12_count_183 rfl ?_
              exact ih36 I36 A36 (x36_2 + (nI 0)) (i36 + 1) (by omega) (by omega)
            · refine pm_iconst (v := nI 1) hG dX12_count_173 (by decide) ?_
              refine pm_goto (tgt := 178) hG dX12_count_174 rfl ?_
              refine pm_iadd hG dX12_count_178 ?_
              refine pm_istoreXn (loc' := [some (.ref (B + 54)), some (.int za), some (.int (x36_2 + (nI 1))), some (.int (nI i36))]) hG dX12_count_179 (by decide) (pm_c1b rfl) rfl ?_
              refine pm_iincX (v := nI (i36 + 1)) (loc' := [some (.ref (B + 54)), some (.int za), some (.int (x36_2 + (nI 1))), some (.int (nI (i36 + 1)))]) hG dX12_count_180 rfl (nI_1 _) (by decide) (pm_c1b rfl) rfl ?_
              refine pm_goto (tgt := 137) hG dX12_count_183 rfl ?_
              exact ih36 I36 A36 (x36_2 + (nI 1)) (i36 + 1) (by omega) (by omega)
    exact loop137_36 _ I A (nI 0) 0 (by omega) (Nat.lt_succ_self _)
  have tc1 : ¬ za.toInt = 0 := fun q => c1 (Int32.toInt_inj.mp (q.trans (by decide)))
  have tc3 : ¬ za.toInt = 1 := fun q => c3 (Int32.toInt_inj.mp (q.trans (by decide)))
  have tc5 : ¬ za.toInt = 2 := fun q => c5 (Int32.toInt_inj.mp (q.trans (by decide)))
  have tc7 : ¬ za.toInt = 3 := fun q => c7 (Int32.toInt_inj.mp (q.trans (by decide)))
  have tc9 : ¬ za.toInt = 4 := fun q => c9 (Int32.toInt_inj.mp (q.trans (by decide)))
  have tc11 : ¬ za.toInt = 5 := fun q => c11 (Int32.toInt_inj.mp (q.trans (by decide)))
  have tc13 : ¬ za.toInt = 6 := fun q => c13 (Int32.toInt_inj.mp (q.trans (by decide)))
  have tc15 : ¬ za.toInt = 7 := fun q => c15 (Int32.toInt_inj.mp (q.trans (by decide)))
  have tc17 : ¬ za.toInt = 8 := fun q => c17 (Int32.toInt_inj.mp (q.trans (by decide)))
  have tc19 : ¬ za.toInt = 9 := fun q => c19 (Int32.toInt_inj.mp (q.trans (by decide)))
  have tc21 : ¬ za.toInt = 10 := fun q => c21 (Int32.toInt_inj.mp (q.trans (by decide)))
  have tc23 : ¬ za.toInt = 11 := fun q => c23 (Int32.toInt_inj.mp (q.trans (by decide)))
  have tc26 : ¬ za.toInt = 12 := fun q => c26 (Int32.toInt_inj.mp (q.trans (by decide)))
  have tc27 : ¬ za.toInt = 13 := fun q => c27 (Int32.toInt_inj.mp (q.trans (by decide)))
  have tc29 : ¬ za.toInt = 14 := fun q => c29 (Int32.toInt_inj.mp (q.trans (by decide)))
  have tc35 : ¬ za.toInt = 15 := fun q => c35 (Int32.toInt_inj.mp (q.trans (by decide)))
  refine pm_tswOut (tgt := 188) hG dX12_count_3 (by omega) rfl ?_
  refine pm_aloadn hG dX12_count_188 rfl ?_
  refine pm_iconst (v := nI 1) hG dX12_count_189 (by decide) ?_
  refine pm_callV (As := [.int (nI 1)]) (rest := []) hG hR dX12_count_190 (lkX12_80 _ rfl) okV_X12_finds rfl rfl (m_finds (d := 1) (by decide) hn hz (by omega)) rfl rfl hdd (Nat.le_refl _) (Nat.le_refl _) (by decide) (pm_ki (fun v45 σ' cnt' hq => ?_))
  obtain ⟨⟨I46, A46, rfl⟩, rfl⟩ := hq
  exact pm_iret hG hF dX12_count_193 rfl (Nat.le_refl _) (Nat.le_refl _) ⟨_, rfl, ⟨_, _, rfl⟩, rfl⟩

set_option maxRecDepth 100000 in
set_option maxHeartbeats 4000000 in
theorem m_debt {d B cnt p0 t0 : Nat} {σ : pm_S} {I : Nat → Int32} {A : Nat → Nat → Int32} {n k z : Nat → Int32} {ac wt pl : Int32} {za zb zc : Int32} (hdd : 2 ≤ d) (hn : KI n) (hr : NR n) (hz : SZ z)  : pm_met mX12_debt d 0 0 B [.ref (B + 54), .int za, .int zb, .int zc] cnt (pm_mid σ (md_L B I A n k z ac wt pl (nI p0) (nI t0))) (pm_Qi (fun v σ' cnt' => (∃ (I' : Nat → Int32) (A' : Nat → Nat → Int32) (n' : Nat → Int32), σ' = pm_mid σ (md_L B I' A' n' k z ac wt pl (nI p0) (nI t0)) ∧ KI n' ∧ NR n') ∧ cnt' = cnt)) := by
  refine pm_enter 1 (by decide) (Nat.le_of_ble_eq_true rfl) rfl (fun G hG hR hF => ?_)
  refine pm_iloadn hG dX12_debt_0 rfl ?_
  refine pm_iconst (v := nI 0) hG dX12_debt_1 (by decide) ?_
  refine pm_ldc hG dX12_debt_2 (ctX12_242 _ rfl) ?_
  refine pm_top (v := nI 99999) (by decide) ?_
  refine pm_callS (As := [.int za, .int (nI 0), .int (nI 99999)]) (rest := []) hG hR dX12_debt_4 (lkX12_68 _ rfl) okS_X12_in (m_in (d := 1)) rfl rfl hdd (Nat.le_refl _) (Nat.le_refl _) (by decide) (pm_ki (fun v1 σ' cnt' hq => ?_))
  obtain ⟨hq, rfl, rfl⟩ := hq
  rcases hq with ⟨rfl, ac2, bc2⟩ | ⟨rfl, c2⟩
  · obtain ⟨k3, hk3, ek3⟩ := in_nat (by omega) (by omega) ac2 bc2
    refine pm_ifN_eq (tgt := 51) hG dX12_debt_7 rfl (by omega) (fun q => absurd q (by omega)) (fun _ => ?_)
    refine pm_iloadn hG dX12_debt_10 rfl ?_
    refine pm_if_lt (tgt := 51) hG dX12_debt_11 rfl (fun c4 => ?_) (fun c4 => ?_)
    · refine pm_aloadn hG dX12_debt_51 rfl ?_
      refine pm_iconst (v := nI 1) hG dX12_debt_52 (by decide) ?_
      refine pm_callV (As := [.int (nI 1)]) (rest := []) hG hR dX12_debt_53 (lkX12_80 _ rfl) okV_X12_finds rfl rfl (m_finds (d := 1) (by decide) hn hz (by omega)) rfl rfl hdd (Nat.le_refl _) (Nat.le_refl _) (by decide) (pm_ki (fun v5 σ' cnt' hq => ?_))
      obtain ⟨⟨I6, A6, rfl⟩, rfl⟩ := hq
      exact pm_iret hG hF dX12_debt_56 rfl (Nat.le_refl _) (Nat.le_refl _) ⟨_, rfl, ⟨_, _, _, rfl, hn, hr⟩, rfl⟩
    · obtain ⟨k7, hk7, ek7⟩ := nI_of c4
      refine pm_iloadn hG dX12_debt_14 rfl ?_
      refine pm_top (v := nI k7) ek7 ?_
      refine pm_sipush (v := nI 10000) hG dX12_debt_15 (by decide) ?_
      refine pm_idivN hG dX12_debt_18 (by omega) (by decide) (by decide) ?_
      refine pm_iconst (v := nI 0) hG dX12_debt_19 (by decide) ?_
      refine pm_bipush (v := nI 99) hG dX12_debt_20 (by decide) ?_
      refine pm_callS (As := [.int (nI ((k7 / 10000))), .int (nI 0), .int (nI 99)]) (rest := []) hG hR dX12_debt_22 (lkX12_68 _ rfl) okS_X12_in (m_in (d := 1)) rfl rfl hdd (Nat.le_refl _) (Nat.le_refl _) (by decide) (pm_ki (fun v8 σ' cnt' hq => ?_))
      obtain ⟨hq, rfl, rfl⟩ := hq
      rcases hq with ⟨rfl, ac9, bc9⟩ | ⟨rfl, c9⟩
      · have ic9 := (nI_leI (by omega) (by omega)).mp (Int32.not_lt.mp ac9)
        have jc9 := (nI_leI (by omega) (by omega)).mp (Int32.not_lt.mp bc9)
        refine pm_ifN_eq (tgt := 51) hG dX12_debt_25 rfl (by omega) (fun q => absurd q (by omega)) (fun _ => ?_)
        refine pm_iloadn hG dX12_debt_28 rfl ?_
        refine pm_top (v := nI k7) ek7 ?_
        refine pm_sipush (v := nI 10000) hG dX12_debt_29 (by decide) ?_
        refine pm_iremM hG dX12_debt_32 (by omega) (by decide) (by decide) ?_
        refine pm_iconst (v := nI 1) hG dX12_debt_33 (by decide) ?_
        refine pm_sipush (v := nI 9999) hG dX12_debt_34 (by decide) ?_
        refine pm_callS (As := [.int (nI ((k7 % 10000))), .int (nI 1), .int (nI 9999)]) (rest := []) hG hR dX12_debt_37 (lkX12_68 _ rfl) okS_X12_in (m_in (d := 1)) rfl rfl hdd (Nat.le_refl _) (Nat.le_refl _) (by decide) (pm_ki (fun v10 σ' cnt' hq => ?_))
        obtain ⟨hq, rfl, rfl⟩ := hq
        rcases hq with ⟨rfl, ac11, bc11⟩ | ⟨rfl, c11⟩
        · have ic11 := (nI_leI (by omega) (by omega)).mp (Int32.not_lt.mp ac11)
          have jc11 := (nI_leI (by omega) (by omega)).mp (Int32.not_lt.mp bc11)
          refine pm_ifN_eq (tgt := 51) hG dX12_debt_40 rfl (by omega) (fun q => absurd q (by omega)) (fun _ => ?_)
          refine pm_aloadn hG dX12_debt_43 rfl ?_
          refine pm_iloadn hG dX12_debt_44 rfl ?_
          obtain ⟨k12, hk12, ek12⟩ := KI.nat hn (by decide)
          refine pm_callV (As := [.int zc]) (rest := []) hG hR dX12_debt_45 (lkX12_84 _ rfl) okV_X12_isTown rfl rfl (m_isTown (d := 1) (by decide) ek12 (by omega)) rfl rfl hdd (Nat.le_refl _) (Nat.le_refl _) (by decide) (pm_ki (fun v13 σ' cnt' hq => ?_))
          obtain ⟨hq, rfl, rfl⟩ := hq
          rcases hq with ⟨rfl, k15, hk15, ek15⟩ | rfl
          · refine pm_ifN_ne (tgt := 57) hG dX12_debt_48 rfl (by omega) (fun _ => ?_) (fun q => absurd q (by omega))
            refine pm_aloadn hG dX12_debt_57 rfl ?_
            refine pm_getf hG dX12_debt_58 (flX12_7 _ rfl) rfl rfl ?_
            refine pm_bipush (v := nI 6) hG dX12_debt_61 (by decide) ?_
            refine pm_ialdN hG dX12_debt_63 rfl (by decide) (by omega) ?_
            obtain ⟨k16, hk16, ek16⟩ := KI.nat hn (by decide)
            refine pm_top (v := nI k16) ek16 ?_
            refine pm_istoreXi (loc' := [some (.ref (B + 54)), some (.int za), some (.int zb), some (.int zc), some (.int (nI k16))]) hG dX12_debt_64 (by decide) (pm_c1b rfl) rfl ?_
            refine pm_iloadi hG dX12_debt_66 rfl ?_
            refine pm_bipush (v := nI 6) hG dX12_debt_68 (by decide) ?_
            refine pm_icmpN_ne (tgt := 79) hG dX12_debt_70 rfl (by omega) (by omega) (fun c17 => ?_) (fun c17 => ?_)
            · refine pm_aloadn hG dX12_debt_79 rfl ?_
              refine pm_getf hG dX12_debt_80 (flX12_7 _ rfl) rfl rfl ?_
              refine pm_bipush (v := nI 6) hG dX12_debt_83 (by decide) ?_
              refine pm_dup2 hG dX12_debt_85 rfl rfl ?_
              refine pm_ialdN hG dX12_debt_86 rfl (by decide) (by omega) ?_
              refine pm_top (v := nI k16) ek16 ?_
              refine pm_iconst (v := nI 1) hG dX12_debt_87 (by decide) ?_
              refine pm_iaddN (c := k16 + 1) hG dX12_debt_88 (by omega) ?_
              refine pm_iastN hG dX12_debt_89 rfl (by decide) (by omega) ?_
              refine mdn_now (fun n_18 en_18 => ?_)
              have hnn_18 := KI.w en_18 hn (okv_n (by decide) (by omega))
              have hrn_18 := NRx.w en_18 hr (by decide)
              have e19 : n_18 0 = nI k12 := by rw [en_18, pk_un (by omega)]; exact ek12
              have e20 : n_18 6 = nI (k16 + 1) := by rw [en_18, pk_us]
              refine pm_aloadn hG dX12_debt_90 rfl ?_
              refine pm_getf hG dX12_debt_91 (flX12_7 _ rfl) rfl rfl ?_
              refine pm_sipush (v := nI 1770) hG dX12_debt_94 (by decide) ?_
              refine pm_bipush (v := nI 6) hG dX12_debt_97 (by decide) ?_
              refine pm_iloadi hG dX12_debt_99 rfl ?_
              refine pm_imulN (c := 6 * k16) hG dX12_debt_101 (by omega) ?_
              refine pm_iaddN (c := 6 * k16 + 1770) hG dX12_debt_102 (by omega) ?_
              refine pm_iloadn hG dX12_debt_103 rfl ?_
              refine pm_top (v := nI k3) ek3 ?_
              refine pm_iastN hG dX12_debt_104 rfl (by decide) (by omega) ?_
              refine mdn_now (fun n_21 en_21 => ?_)
              have hnn_21 := KI.w en_21 hnn_18 (okv_f (kd_D (k := k16) (c := 0) (by omega) (by omega) (by decide)))
              have hrn_21 := NRx.w en_21 hrn_18 (by rw [(kd_D (k := k16) (c := 0) (by omega) (by omega) (by decide))]; rfl)
              have e22 : n_21 0 = nI k12 := by rw [en_21, pk_un (by omega)]; exact e19
              have e23 : n_21 6 = nI (k16 + 1) := by rw [en_21, pk_un (by omega)]; exact e20
              have e24 : n_21 (6 * k16 + 1770) = nI k3 := by rw [en_21, pk_us]
              refine pm_aloadn hG dX12_debt_105 rfl ?_
              refine pm_getf hG dX12_debt_106 (flX12_7 _ rfl) rfl rfl ?_
              refine pm_sipush (v := nI 1770) hG dX12_debt_109 (by decide) ?_
              refine pm_bipush (v := nI 6) hG dX12_debt_112 (by decide) ?_
              refine pm_iloadi hG dX12_debt_114 rfl ?_
              refine pm_imulN (c := 6 * k16) hG dX12_debt_116 (by omega) ?_
              refine pm_iaddN (c := 6 * k16 + 1770) hG dX12_debt_117 (by omega) ?_
              refine pm_iconst (v := nI 1) hG dX12_debt_118 (by decide) ?_
              refine pm_iaddN (c := 6 * k16 + 1771) hG dX12_debt_119 (by omega) ?_
              refine pm_iloadn hG dX12_debt_120 rfl ?_
              refine pm_top (v := nI k7) ek7 ?_
              refine pm_sipush (v := nI 10000) hG dX12_debt_121 (by decide) ?_
              refine pm_idivN hG dX12_debt_124 (by omega) (by decide) (by decide) ?_
              refine pm_iastN hG dX12_debt_125 rfl (by decide) (by omega) ?_
              refine mdn_now (fun n_25 en_25 => ?_)
              have hnn_25 := KI.w en_25 hnn_21 (okv_f (kd_D (k := k16) (c := 1) (by omega) (by omega) (by decide)))
              have hrn_25 := NRx.w en_25 hrn_21 (by rw [(kd_D (k := k16) (c := 1) (by omega) (by omega) (by decide))]; rfl)
              have e26 : n_25 0 = nI k12 := by rw [en_25, pk_un (by omega)]; exact e22
              have e27 : n_25 6 = nI (k16 + 1) := by rw [en_25, pk_un (by omega)]; exact e23
              have e28 : n_25 (6 * k16 + 1770) = nI k3 := by rw [en_25, pk_un (by omega)]; exact e24
              have e29 : n_25 (6 * k16 + 1771) = nI ((k7 / 10000)) := by rw [en_25, pk_us]
              refine pm_aloadn hG dX12_debt_126 rfl ?_
              refine pm_getf hG dX12_debt_127 (flX12_7 _ rfl) rfl rfl ?_
              refine pm_sipush (v := nI 1770) hG dX12_debt_130 (by decide) ?_
              refine pm_bipush (v := nI 6) hG dX12_debt_133 (by decide) ?_
              refine pm_iloadi hG dX12_debt_135 rfl ?_
              refine pm_imulN (c := 6 * k16) hG dX12_debt_137 (by omega) ?_
              refine pm_iaddN (c := 6 * k16 + 1770) hG dX12_debt_138 (by omega) ?_
              refine pm_iconst (v := nI 2) hG dX12_debt_139 (by decide) ?_
              refine pm_iaddN (c := 6 * k16 + 1772) hG dX12_debt_140 (by omega) ?_
              refine pm_iloadn hG dX12_debt_141 rfl ?_
              refine pm_top (v := nI k7) ek7 ?_
              refine pm_sipush (v := nI 10000) hG dX12_debt_142 (by decide) ?_
              refine pm_iremM hG dX12_debt_145 (by omega) (by decide) (by decide) ?_
              refine pm_iastN hG dX12_debt_146 rfl (by decide) (by omega) ?_
              refine mdn_now (fun n_30 en_30 => ?_)
              have hnn_30 := KI.w en_30 hnn_25 (okv_f (kd_D (k := k16) (c := 2) (by omega) (by omega) (by decide)))
              have hrn_30 := NRx.w en_30 hrn_25 (by rw [(kd_D (k := k16) (c := 2) (by omega) (by omega) (by decide))]; rfl)
              have e31 : n_30 0 = nI k12 := by rw [en_30, pk_un (by omega)]; exact e26
              have e32 : n_30 6 = nI (k16 + 1) := by rw [en_30, pk_un (by omega)]; exact e27
              have e33 : n_30 (6 * k16 + 1770) = nI k3 := by rw [en_30, pk_un (by omega)]; exact e28
              have e34 : n_30 (6 * k16 + 1771) = nI ((k7 / 10000)) := by rw [en_30, pk_un (by omega)]; exact e29
              have e35 : n_30 (6 * k16 + 1772) = nI ((k7 % 10000)) := by rw [en_30, pk_us]
              refine pm_aloadn hG dX12_debt_147 rfl ?_
              refine pm_getf hG dX12_debt_148 (flX12_7 _ rfl) rfl rfl ?_
              refine pm_sipush (v := nI 1770) hG dX12_debt_151 (by decide) ?_
              refine pm_bipush (v := nI 6) hG dX12_debt_154 (by decide) ?_
              refine pm_iloadi hG dX12_debt_156 rfl ?_
              refine pm_imulN (c := 6 * k16) hG dX12_debt_158 (by omega) ?_
              refine pm_iaddN (c := 6 * k16 + 1770) hG dX12_debt_159 (by omega) ?_
              refine pm_iconst (v := nI 3) hG dX12_debt_160 (by decide) ?_
              refine pm_iaddN (c := 6 * k16 + 1773) hG dX12_debt_161 (by omega) ?_
              refine pm_iconst (v := nI 0) hG dX12_debt_162 (by decide) ?_
              refine pm_iastN hG dX12_debt_163 rfl (by decide) (by omega) ?_
              refine mdn_now (fun n_36 en_36 => ?_)
              have hnn_36 := KI.w en_36 hnn_30 (okv_f (kd_D (k := k16) (c := 3) (by omega) (by omega) (by decide)))
              have hrn_36 := NRx.w en_36 hrn_30 (by rw [(kd_D (k := k16) (c := 3) (by omega) (by omega) (by decide))]; rfl)
              have e37 : n_36 0 = nI k12 := by rw [en_36, pk_un (by omega)]; exact e31
              have e38 : n_36 6 = nI (k16 + 1) := by rw [en_36, pk_un (by omega)]; exact e32
              have e39 : n_36 (6 * k16 + 1770) = nI k3 := by rw [en_36, pk_un (by omega)]; exact e33
              have e40 : n_36 (6 * k16 + 1771) = nI ((k7 / 10000)) := by rw [en_36, pk_un (by omega)]; exact e34
              have e41 : n_36 (6 * k16 + 1772) = nI ((k7 % 10000)) := by rw [en_36, pk_un (by omega)]; exact e35
              have e42 : n_36 (6 * k16 + 1773) = nI 0 := by rw [en_36, pk_us]
              refine pm_aloadn hG dX12_debt_164 rfl ?_
              refine pm_getf hG dX12_debt_165 (flX12_7 _ rfl) rfl rfl ?_
              refine pm_sipush (v := nI 1770) hG dX12_debt_168 (by decide) ?_
              refine pm_bipush (v := nI 6) hG dX12_debt_171 (by decide) ?_
              refine pm_iloadi hG dX12_debt_173 rfl ?_
              refine pm_imulN (c := 6 * k16) hG dX12_debt_175 (by omega) ?_
              refine pm_iaddN (c := 6 * k16 + 1770) hG dX12_debt_176 (by omega) ?_
              refine pm_iconst (v := nI 4) hG dX12_debt_177 (by decide) ?_
              refine pm_iaddN (c := 6 * k16 + 1774) hG dX12_debt_178 (by omega) ?_
              refine pm_iloadn hG dX12_debt_179 rfl ?_
              refine pm_top (v := nI k15) ek15 ?_
              refine pm_iastN hG dX12_debt_180 rfl (by decide) (by omega) ?_
              refine mdn_now (fun n_43 en_43 => ?_)
              have hnn_43 := KI.w en_43 hnn_36 (okv_n (kd_D (k := k16) (c := 4) (by omega) (by omega) (by decide)) (by omega))
              have hrn_43 := NRx.w en_43 hrn_36 (by rw [(kd_D (k := k16) (c := 4) (by omega) (by omega) (by decide))]; rfl)
              have e44 : n_43 0 = nI k12 := by rw [en_43, pk_un (by omega)]; exact e37
              have e45 : n_43 6 = nI (k16 + 1) := by rw [en_43, pk_un (by omega)]; exact e38
              have e46 : n_43 (6 * k16 + 1770) = nI k3 := by rw [en_43, pk_un (by omega)]; exact e39
              have e47 : n_43 (6 * k16 + 1771) = nI ((k7 / 10000)) := by rw [en_43, pk_un (by omega)]; exact e40
              have e48 : n_43 (6 * k16 + 1772) = nI ((k7 % 10000)) := by rw [en_43, pk_un (by omega)]; exact e41
              have e49 : n_43 (6 * k16 + 1773) = nI 0 := by rw [en_43, pk_un (by omega)]; exact e42
              have e50 : n_43 (6 * k16 + 1774) = nI k15 := by rw [en_43, pk_us]
              refine pm_aloadn hG dX12_debt_181 rfl ?_
              refine pm_getf hG dX12_debt_182 (flX12_7 _ rfl) rfl rfl ?_
              refine pm_bipush (v := nI 9) hG dX12_debt_185 (by decide) ?_
              refine pm_dup2 hG dX12_debt_187 rfl rfl ?_
              refine pm_ialdN hG dX12_debt_188 rfl (by decide) (by omega) ?_
              refine pm_gen (fun x51 ex51 => ?_)
              refine pm_iloadn hG dX12_debt_189 rfl ?_
              refine pm_top (v := nI k3) ek3 ?_
              refine pm_iadd hG dX12_debt_190 ?_
              refine pm_iastN hG dX12_debt_191 rfl (by decide) (by omega) ?_
              refine mdn_now (fun n_52 en_52 => ?_)
              have hnn_52 := KI.w en_52 hnn_43 (okv_f (by decide))
              have hrn_52 := NRx.w en_52 hrn_43 (by decide)
              have e53 : n_52 0 = nI k12 := by rw [en_52, pk_un (by omega)]; exact e44
              have e54 : n_52 6 = nI (k16 + 1) := by rw [en_52, pk_un (by omega)]; exact e45
              have e55 : n_52 (6 * k16 + 1770) = nI k3 := by rw [en_52, pk_un (by omega)]; exact e46
              have e56 : n_52 (6 * k16 + 1771) = nI ((k7 / 10000)) := by rw [en_52, pk_un (by omega)]; exact e47
              have e57 : n_52 (6 * k16 + 1772) = nI ((k7 % 10000)) := by rw [en_52, pk_un (by omega)]; exact e48
              have e58 : n_52 (6 * k16 + 1773) = nI 0 := by rw [en_52, pk_un (by omega)]; exact e49
              have e59 : n_52 (6 * k16 + 1774) = nI k15 := by rw [en_52, pk_un (by omega)]; exact e50
              have e60 : n_52 9 = x51 + (nI k3) := by rw [en_52, pk_us]
              refine pm_iloadi hG dX12_debt_192 rfl ?_
              exact pm_iret hG hF dX12_debt_194 rfl (Nat.le_refl _) (Nat.le_refl _) ⟨_, rfl, ⟨_, _, _, rfl, hnn_52, hrn_52⟩, rfl⟩
            · refine pm_aloadn hG dX12_debt_73 rfl ?_
              refine pm_iconst (v := nI 4) hG dX12_debt_74 (by decide) ?_
              refine pm_callV (As := [.int (nI 4)]) (rest := []) hG hR dX12_debt_75 (lkX12_80 _ rfl) okV_X12_finds rfl rfl (m_finds (d := 1) (by decide) hn hz (by omega)) rfl rfl hdd (Nat.le_refl _) (Nat.le_refl _) (by decide) (pm_ki (fun v61 σ' cnt' hq => ?_))
              obtain ⟨⟨I62, A62, rfl⟩, rfl⟩ := hq
              exact pm_iret hG hF dX12_debt_78 rfl (Nat.le_refl _) (Nat.le_refl _) ⟨_, rfl, ⟨_, _, _, rfl, hn, hr⟩, rfl⟩
          · refine pm_ifN_ne (tgt := 57) hG dX12_debt_48 rfl (by omega) (fun q => absurd q (by omega)) (fun _ => ?_)
            refine pm_aloadn hG dX12_debt_51 rfl ?_
            refine pm_iconst (v := nI 1) hG dX12_debt_52 (by decide) ?_
            refine pm_callV (As := [.int (nI 1)]) (rest := []) hG hR dX12_debt_53 (lkX12_80 _ rfl) okV_X12_finds rfl rfl (m_finds (d := 1) (by decide) hn hz (by omega)) rfl rfl hdd (Nat.le_refl _) (Nat.le_refl _) (by decide) (pm_ki (fun v63 σ' cnt' hq => ?_))
            obtain ⟨⟨I64, A64, rfl⟩, rfl⟩ := hq
            exact pm_iret hG hF dX12_debt_56 rfl (Nat.le_refl _) (Nat.le_refl _) ⟨_, rfl, ⟨_, _, _, rfl, hn, hr⟩, rfl⟩
        · refine pm_ifN_eq (tgt := 51) hG dX12_debt_40 rfl (by omega) (fun _ => ?_) (fun q => absurd q (by omega))
          refine pm_aloadn hG dX12_debt_51 rfl ?_
          refine pm_iconst (v := nI 1) hG dX12_debt_52 (by decide) ?_
          refine pm_callV (As := [.int (nI 1)]) (rest := []) hG hR dX12_debt_53 (lkX12_80 _ rfl) okV_X12_finds rfl rfl (m_finds (d := 1) (by decide) hn hz (by omega)) rfl rfl hdd (Nat.le_refl _) (Nat.le_refl _) (by decide) (pm_ki (fun v65 σ' cnt' hq => ?_))
          obtain ⟨⟨I66, A66, rfl⟩, rfl⟩ := hq
          exact pm_iret hG hF dX12_debt_56 rfl (Nat.le_refl _) (Nat.le_refl _) ⟨_, rfl, ⟨_, _, _, rfl, hn, hr⟩, rfl⟩
      · refine pm_ifN_eq (tgt := 51) hG dX12_debt_25 rfl (by omega) (fun _ => ?_) (fun q => absurd q (by omega))
        refine pm_aloadn hG dX12_debt_51 rfl ?_
        refine pm_iconst (v := nI 1) hG dX12_debt_52 (by decide) ?_
        refine pm_callV (As := [.int (nI 1)]) (rest := []) hG hR dX12_debt_53 (lkX12_80 _ rfl) okV_X12_finds rfl rfl (m_finds (d := 1) (by decide) hn hz (by omega)) rfl rfl hdd (Nat.le_refl _) (Nat.le_refl _) (by decide) (pm_ki (fun v67 σ' cnt' hq => ?_))
        obtain ⟨⟨I68, A68, rfl⟩, rfl⟩ := hq
        exact pm_iret hG hF dX12_debt_56 rfl (Nat.le_refl _) (Nat.le_refl _) ⟨_, rfl, ⟨_, _, _, rfl, hn, hr⟩, rfl⟩
  · refine pm_ifN_eq (tgt := 51) hG dX12_debt_7 rfl (by omega) (fun _ => ?_) (fun q => absurd q (by omega))
    refine pm_aloadn hG dX12_debt_51 rfl ?_
    refine pm_iconst (v := nI 1) hG dX12_debt_52 (by decide) ?_
    refine pm_callV (As := [.int (nI 1)]) (rest := []) hG hR dX12_debt_53 (lkX12_80 _ rfl) okV_X12_finds rfl rfl (m_finds (d := 1) (by decide) hn hz (by omega)) rfl rfl hdd (Nat.le_refl _) (Nat.le_refl _) (by decide) (pm_ki (fun v69 σ' cnt' hq => ?_))
    obtain ⟨⟨I70, A70, rfl⟩, rfl⟩ := hq
    exact pm_iret hG hF dX12_debt_56 rfl (Nat.le_refl _) (Nat.le_refl _) ⟨_, rfl, ⟨_, _, _, rfl, hn, hr⟩, rfl⟩
