set_option maxRecDepth 100000 in
set_option maxHeartbeats 4000000 in
theorem m_newPower_m {d B cnt p0 t0 : Nat} {σ : pm_S} {I : Nat → Int32} {A : Nat → Nat → Int32} {n k z : Nat → Int32} {ac wt pl im : Int32} {y : Nat → Int32} {za zc zd : Int32} {c0 : Nat} (hdd : 2 ≤ d) (hn : KI n) (hr : NR n) (hz : SZ z) (ec0 : n 3 = nI c0) (hc0 : c0 < 20) : pm_met mX12_newPower d 0 0 B [.ref (B + 54), .int za, .int (-1), .int zc, .int zd] cnt (pm_mid σ (md_L B I A n k z ac wt pl (nI p0) (nI t0) im y)) (pm_Qi (fun v σ' cnt' => (∃ (n' : Nat → Int32), σ' = pm_mid σ (md_L B I A n' k z ac wt pl (nI p0) (nI t0) im y) ∧ KI n' ∧ NR n') ∧ cnt = cnt')) := by
  refine pm_enter 1 (by decide) (Nat.le_of_ble_eq_true rfl) rfl (fun G hG hR hF => ?_)
  refine pm_aloadn hG dX12_newPower_0 rfl ?_
  refine pm_getf hG dX12_newPower_1 (flX12_7 _ rfl) rfl rfl ?_
  refine pm_iconst (v := nI 3) hG dX12_newPower_4 (by decide) ?_
  refine pm_ialdN hG dX12_newPower_5 rfl (by decide) (by omega) ?_
  refine pm_top (v := nI c0) ec0 ?_
  refine pm_istoreXi (loc' := [some (.ref (B + 54)), some (.int za), some (.int (-1)), some (.int zc), some (.int zd), some (.int (nI c0))]) hG dX12_newPower_6 (by decide) (pm_c1b rfl) rfl ?_
  refine pm_aloadn hG dX12_newPower_8 rfl ?_
  refine pm_getf hG dX12_newPower_9 (flX12_7 _ rfl) rfl rfl ?_
  refine pm_iconst (v := nI 3) hG dX12_newPower_12 (by decide) ?_
  refine pm_dup2 hG dX12_newPower_13 rfl rfl ?_
  refine pm_ialdN hG dX12_newPower_14 rfl (by decide) (by omega) ?_
  refine pm_top (v := nI c0) ec0 ?_
  refine pm_iconst (v := nI 1) hG dX12_newPower_15 (by decide) ?_
  refine pm_iaddN (c := c0 + 1) hG dX12_newPower_16 (by omega) ?_
  refine pm_iastN hG dX12_newPower_17 rfl (by decide) (by omega) ?_
  refine mdn_now (fun n_1 en_1 => ?_)
  have hnn_1 := KI.w en_1 hn (okv_n (show kd 3 = (1, 21, false) by decide) (by omega))
  have hrn_1 := NRx.w en_1 hr (by rw [(show kd 3 = (1, 21, false) by decide)])
  have e2 : n_1 3 = nI (c0 + 1) := by rw [en_1, pk_us]
  refine pm_aloadn hG dX12_newPower_18 rfl ?_
  refine pm_iloadi hG dX12_newPower_19 rfl ?_
  refine pm_iconst (v := nI 0) hG dX12_newPower_21 (by decide) ?_
  refine pm_iloadn hG dX12_newPower_22 rfl ?_
  refine pm_callV (As := [.int (nI c0), .int (nI 0), .int za]) (rest := []) hG hR dX12_newPower_23 (lkX12_113 _ rfl) okV_X12_makes rfl rfl (m_makes (d := 1) (e := 6 * c0 + 390) (by omega) (by omega) (by omega)) rfl rfl hdd (Nat.le_refl _) (Nat.le_refl _) (by decide) (pm_kv (fun σ' cnt' hq => ?_))
  obtain ⟨rfl, rfl⟩ := hq
  obtain ⟨n_3, en_3⟩ : ∃ f : Nat → Int32, f = upd n_1 (6 * c0 + 390) za := ⟨_, rfl⟩
  rw [← en_3]
  have hnn_3 := KI.w en_3 hnn_1 (okv_f (show kd (6 * c0 + 390) = (0, 0, false) from (kd_W (k := c0) (c := 0) (by omega) (by omega) (by decide))))
  have hrn_3 := NRx.w en_3 hrn_1 (by rw [(show kd (6 * c0 + 390) = (0, 0, false) from (kd_W (k := c0) (c := 0) (by omega) (by omega) (by decide)))])
  have e4 : n_3 3 = nI (c0 + 1) := by rw [en_3, pk_un (by omega)]; exact e2
  have e5 : n_3 (6 * c0 + 390) = za := by rw [en_3, pk_us]
  refine pm_aloadn hG dX12_newPower_26 rfl ?_
  refine pm_iloadi hG dX12_newPower_27 rfl ?_
  refine pm_iconst (v := nI 1) hG dX12_newPower_29 (by decide) ?_
  refine pm_iloadn hG dX12_newPower_30 rfl ?_
  refine pm_callV (As := [.int (nI c0), .int (nI 1), .int (-1)]) (rest := []) hG hR dX12_newPower_31 (lkX12_113 _ rfl) okV_X12_makes rfl rfl (m_makes (d := 1) (e := 6 * c0 + 391) (by omega) (by omega) (by omega)) rfl rfl hdd (Nat.le_refl _) (Nat.le_refl _) (by decide) (pm_kv (fun σ' cnt' hq => ?_))
  obtain ⟨rfl, rfl⟩ := hq
  obtain ⟨n_6, en_6⟩ : ∃ f : Nat → Int32, f = upd n_3 (6 * c0 + 391) (-1) := ⟨_, rfl⟩
  rw [← en_6]
  have hnn_6 := KI.w en_6 hnn_3 (okv_m (show kd (6 * c0 + 391) = (2, 20, false) from (kd_W (k := c0) (c := 1) (by omega) (by omega) (by decide))))
  have hrn_6 := NRx.w en_6 hrn_3 (by rw [(show kd (6 * c0 + 391) = (2, 20, false) from (kd_W (k := c0) (c := 1) (by omega) (by omega) (by decide)))])
  have e7 : n_6 3 = nI (c0 + 1) := by rw [en_6, pk_un (by omega)]; exact e4
  have e8 : n_6 (6 * c0 + 390) = za := by rw [en_6, pk_un (by omega)]; exact e5
  have e9 : n_6 (6 * c0 + 391) = (-1) := by rw [en_6, pk_us]
  refine pm_aloadn hG dX12_newPower_34 rfl ?_
  refine pm_iloadi hG dX12_newPower_35 rfl ?_
  refine pm_iconst (v := nI 4) hG dX12_newPower_37 (by decide) ?_
  refine pm_iloadn hG dX12_newPower_38 rfl ?_
  refine pm_callV (As := [.int (nI c0), .int (nI 4), .int zc]) (rest := []) hG hR dX12_newPower_39 (lkX12_113 _ rfl) okV_X12_makes rfl rfl (m_makes (d := 1) (e := 6 * c0 + 394) (by omega) (by omega) (by omega)) rfl rfl hdd (Nat.le_refl _) (Nat.le_refl _) (by decide) (pm_kv (fun σ' cnt' hq => ?_))
  obtain ⟨rfl, rfl⟩ := hq
  obtain ⟨n_10, en_10⟩ : ∃ f : Nat → Int32, f = upd n_6 (6 * c0 + 394) zc := ⟨_, rfl⟩
  rw [← en_10]
  have hnn_10 := KI.w en_10 hnn_6 (okv_f (show kd (6 * c0 + 394) = (0, 0, false) from (kd_W (k := c0) (c := 4) (by omega) (by omega) (by decide))))
  have hrn_10 := NRx.w en_10 hrn_6 (by rw [(show kd (6 * c0 + 394) = (0, 0, false) from (kd_W (k := c0) (c := 4) (by omega) (by omega) (by decide)))])
  have e11 : n_10 3 = nI (c0 + 1) := by rw [en_10, pk_un (by omega)]; exact e7
  have e12 : n_10 (6 * c0 + 390) = za := by rw [en_10, pk_un (by omega)]; exact e8
  have e13 : n_10 (6 * c0 + 391) = (-1) := by rw [en_10, pk_un (by omega)]; exact e9
  have e14 : n_10 (6 * c0 + 394) = zc := by rw [en_10, pk_us]
  refine pm_aloadn hG dX12_newPower_42 rfl ?_
  refine pm_iloadi hG dX12_newPower_43 rfl ?_
  refine pm_iconst (v := nI 5) hG dX12_newPower_45 (by decide) ?_
  refine pm_iloadi hG dX12_newPower_46 rfl ?_
  refine pm_if_ge (tgt := 56) hG dX12_newPower_48 rfl (fun c15 => ?_) (fun c15 => ?_)
  · obtain ⟨k16, hk16, ek16⟩ := nI_of (Int32.not_lt.mpr c15)
    refine pm_iloadi hG dX12_newPower_56 rfl ?_
    refine pm_top (v := nI k16) ek16 ?_
    refine pm_callV (As := [.int (nI c0), .int (nI 5), .int (nI k16)]) (rest := []) hG hR dX12_newPower_58 (lkX12_113 _ rfl) okV_X12_makes rfl rfl (m_makes (d := 1) (e := 6 * c0 + 395) (by omega) (by omega) (by omega)) rfl rfl hdd (Nat.le_refl _) (Nat.le_refl _) (by decide) (pm_kv (fun σ' cnt' hq => ?_))
    obtain ⟨rfl, rfl⟩ := hq
    obtain ⟨n_17, en_17⟩ : ∃ f : Nat → Int32, f = upd n_10 (6 * c0 + 395) (nI k16) := ⟨_, rfl⟩
    rw [← en_17]
    have hnn_17 := KI.w en_17 hnn_10 (okv_f (show kd (6 * c0 + 395) = (0, 0, false) from (kd_W (k := c0) (c := 5) (by omega) (by omega) (by decide))))
    have hrn_17 := NRx.w en_17 hrn_10 (by rw [(show kd (6 * c0 + 395) = (0, 0, false) from (kd_W (k := c0) (c := 5) (by omega) (by omega) (by decide)))])
    have e18 : n_17 3 = nI (c0 + 1) := by rw [en_17, pk_un (by omega)]; exact e11
    have e19 : n_17 (6 * c0 + 390) = za := by rw [en_17, pk_un (by omega)]; exact e12
    have e20 : n_17 (6 * c0 + 391) = (-1) := by rw [en_17, pk_un (by omega)]; exact e13
    have e21 : n_17 (6 * c0 + 394) = zc := by rw [en_17, pk_un (by omega)]; exact e14
    have e22 : n_17 (6 * c0 + 395) = nI k16 := by rw [en_17, pk_us]
    refine pm_aloadn hG dX12_newPower_61 rfl ?_
    refine pm_iloadi hG dX12_newPower_62 rfl ?_
    refine pm_callV (As := [.int (nI c0)]) (rest := []) hG hR dX12_newPower_64 (lkX12_116 _ rfl) okV_X12_comesBack rfl rfl (m_comesBack (d := 1) (e := 6 * c0 + 392) (e2 := 6 * c0 + 393) (by decide) (by omega) (by omega) (by omega)) rfl rfl hdd (Nat.le_refl _) (Nat.le_refl _) (by decide) (pm_kv (fun σ' cnt' hq => ?_))
    obtain ⟨rfl, rfl⟩ := hq
    obtain ⟨n_23, en_23⟩ : ∃ f : Nat → Int32, f = upd n_17 (6 * c0 + 392) (-1) := ⟨_, rfl⟩
    rw [← en_23]
    have hnn_23 := KI.w en_23 hnn_17 (okv_m (show kd (6 * c0 + 392) = (2, 20, false) from (kd_W (k := c0) (c := 2) (by omega) (by omega) (by decide))))
    have hrn_23 := NRx.w en_23 hrn_17 (by rw [(show kd (6 * c0 + 392) = (2, 20, false) from (kd_W (k := c0) (c := 2) (by omega) (by omega) (by decide)))])
    have e24 : n_23 3 = nI (c0 + 1) := by rw [en_23, pk_un (by omega)]; exact e18
    have e25 : n_23 (6 * c0 + 390) = za := by rw [en_23, pk_un (by omega)]; exact e19
    have e26 : n_23 (6 * c0 + 391) = (-1) := by rw [en_23, pk_un (by omega)]; exact e20
    have e27 : n_23 (6 * c0 + 394) = zc := by rw [en_23, pk_un (by omega)]; exact e21
    have e28 : n_23 (6 * c0 + 395) = nI k16 := by rw [en_23, pk_un (by omega)]; exact e22
    have e29 : n_23 (6 * c0 + 392) = (-1) := by rw [en_23, pk_us]
    obtain ⟨n_30, en_30⟩ : ∃ f : Nat → Int32, f = upd n_23 (6 * c0 + 393) (-1) := ⟨_, rfl⟩
    rw [← en_30]
    have hnn_30 := KI.w en_30 hnn_23 (okv_f (show kd (6 * c0 + 393) = (0, 0, false) from (kd_W (k := c0) (c := 3) (by omega) (by omega) (by decide))))
    have hrn_30 := NRx.w en_30 hrn_23 (by rw [(show kd (6 * c0 + 393) = (0, 0, false) from (kd_W (k := c0) (c := 3) (by omega) (by omega) (by decide)))])
    have e31 : n_30 3 = nI (c0 + 1) := by rw [en_30, pk_un (by omega)]; exact e24
    have e32 : n_30 (6 * c0 + 390) = za := by rw [en_30, pk_un (by omega)]; exact e25
    have e33 : n_30 (6 * c0 + 391) = (-1) := by rw [en_30, pk_un (by omega)]; exact e26
    have e34 : n_30 (6 * c0 + 394) = zc := by rw [en_30, pk_un (by omega)]; exact e27
    have e35 : n_30 (6 * c0 + 395) = nI k16 := by rw [en_30, pk_un (by omega)]; exact e28
    have e36 : n_30 (6 * c0 + 392) = (-1) := by rw [en_30, pk_un (by omega)]; exact e29
    have e37 : n_30 (6 * c0 + 393) = (-1) := by rw [en_30, pk_us]
    refine pm_iloadi hG dX12_newPower_67 rfl ?_
    exact pm_iret hG hF dX12_newPower_69 rfl (Nat.le_refl _) (Nat.le_refl _) ⟨_, rfl, ⟨_, rfl, hnn_30, hrn_30⟩, rfl⟩
  · refine pm_iloadi hG dX12_newPower_51 rfl ?_
    refine pm_goto (tgt := 58) hG dX12_newPower_53 rfl ?_
    refine pm_callV (As := [.int (nI c0), .int (nI 5), .int (nI c0)]) (rest := []) hG hR dX12_newPower_58 (lkX12_113 _ rfl) okV_X12_makes rfl rfl (m_makes (d := 1) (e := 6 * c0 + 395) (by omega) (by omega) (by omega)) rfl rfl hdd (Nat.le_refl _) (Nat.le_refl _) (by decide) (pm_kv (fun σ' cnt' hq => ?_))
    obtain ⟨rfl, rfl⟩ := hq
    obtain ⟨n_38, en_38⟩ : ∃ f : Nat → Int32, f = upd n_10 (6 * c0 + 395) (nI c0) := ⟨_, rfl⟩
    rw [← en_38]
    have hnn_38 := KI.w en_38 hnn_10 (okv_f (show kd (6 * c0 + 395) = (0, 0, false) from (kd_W (k := c0) (c := 5) (by omega) (by omega) (by decide))))
    have hrn_38 := NRx.w en_38 hrn_10 (by rw [(show kd (6 * c0 + 395) = (0, 0, false) from (kd_W (k := c0) (c := 5) (by omega) (by omega) (by decide)))])
    have e39 : n_38 3 = nI (c0 + 1) := by rw [en_38, pk_un (by omega)]; exact e11
    have e40 : n_38 (6 * c0 + 390) = za := by rw [en_38, pk_un (by omega)]; exact e12
    have e41 : n_38 (6 * c0 + 391) = (-1) := by rw [en_38, pk_un (by omega)]; exact e13
    have e42 : n_38 (6 * c0 + 394) = zc := by rw [en_38, pk_un (by omega)]; exact e14
    have e43 : n_38 (6 * c0 + 395) = nI c0 := by rw [en_38, pk_us]
    refine pm_aloadn hG dX12_newPower_61 rfl ?_
    refine pm_iloadi hG dX12_newPower_62 rfl ?_
    refine pm_callV (As := [.int (nI c0)]) (rest := []) hG hR dX12_newPower_64 (lkX12_116 _ rfl) okV_X12_comesBack rfl rfl (m_comesBack (d := 1) (e := 6 * c0 + 392) (e2 := 6 * c0 + 393) (by decide) (by omega) (by omega) (by omega)) rfl rfl hdd (Nat.le_refl _) (Nat.le_refl _) (by decide) (pm_kv (fun σ' cnt' hq => ?_))
    obtain ⟨rfl, rfl⟩ := hq
    obtain ⟨n_44, en_44⟩ : ∃ f : Nat → Int32, f = upd n_38 (6 * c0 + 392) (-1) := ⟨_, rfl⟩
    rw [← en_44]
    have hnn_44 := KI.w en_44 hnn_38 (okv_m (show kd (6 * c0 + 392) = (2, 20, false) from (kd_W (k := c0) (c := 2) (by omega) (by omega) (by decide))))
    have hrn_44 := NRx.w en_44 hrn_38 (by rw [(show kd (6 * c0 + 392) = (2, 20, false) from (kd_W (k := c0) (c := 2) (by omega) (by omega) (by decide)))])
    have e45 : n_44 3 = nI (c0 + 1) := by rw [en_44, pk_un (by omega)]; exact e39
    have e46 : n_44 (6 * c0 + 390) = za := by rw [en_44, pk_un (by omega)]; exact e40
    have e47 : n_44 (6 * c0 + 391) = (-1) := by rw [en_44, pk_un (by omega)]; exact e41
    have e48 : n_44 (6 * c0 + 394) = zc := by rw [en_44, pk_un (by omega)]; exact e42
    have e49 : n_44 (6 * c0 + 395) = nI c0 := by rw [en_44, pk_un (by omega)]; exact e43
    have e50 : n_44 (6 * c0 + 392) = (-1) := by rw [en_44, pk_us]
    obtain ⟨n_51, en_51⟩ : ∃ f : Nat → Int32, f = upd n_44 (6 * c0 + 393) (-1) := ⟨_, rfl⟩
    rw [← en_51]
    have hnn_51 := KI.w en_51 hnn_44 (okv_f (show kd (6 * c0 + 393) = (0, 0, false) from (kd_W (k := c0) (c := 3) (by omega) (by omega) (by decide))))
    have hrn_51 := NRx.w en_51 hrn_44 (by rw [(show kd (6 * c0 + 393) = (0, 0, false) from (kd_W (k := c0) (c := 3) (by omega) (by omega) (by decide)))])
    have e52 : n_51 3 = nI (c0 + 1) := by rw [en_51, pk_un (by omega)]; exact e45
    have e53 : n_51 (6 * c0 + 390) = za := by rw [en_51, pk_un (by omega)]; exact e46
    have e54 : n_51 (6 * c0 + 391) = (-1) := by rw [en_51, pk_un (by omega)]; exact e47
    have e55 : n_51 (6 * c0 + 394) = zc := by rw [en_51, pk_un (by omega)]; exact e48
    have e56 : n_51 (6 * c0 + 395) = nI c0 := by rw [en_51, pk_un (by omega)]; exact e49
    have e57 : n_51 (6 * c0 + 392) = (-1) := by rw [en_51, pk_un (by omega)]; exact e50
    have e58 : n_51 (6 * c0 + 393) = (-1) := by rw [en_51, pk_us]
    refine pm_iloadi hG dX12_newPower_67 rfl ?_
    exact pm_iret hG hF dX12_newPower_69 rfl (Nat.le_refl _) (Nat.le_refl _) ⟨_, rfl, ⟨_, rfl, hnn_51, hrn_51⟩, rfl⟩
