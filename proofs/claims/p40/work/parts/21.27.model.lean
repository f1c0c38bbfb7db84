set_option maxRecDepth 100000 in
set_option maxHeartbeats 4000000 in
theorem m_strike {d B cnt p0 t0 : Nat} {σ : pm_S} {I : Nat → Int32} {A : Nat → Nat → Int32} {n k z : Nat → Int32} {ac wt pl im : Int32} {za : Int32} (hdd : 2 ≤ d) (hn : KI n) (hr : NR n) (hz : SZ z)  : pm_met mX12_strike d 0 0 B [.ref (B + 54), .int za] cnt (pm_mid σ (md_L B I A n k z ac wt pl (nI p0) (nI t0) im)) (pm_Qi (fun v σ' cnt' => (∃ (I' : Nat → Int32) (A' : Nat → Nat → Int32) (n' : Nat → Int32), σ' = pm_mid σ (md_L B I' A' n' k z ac wt pl (nI p0) (nI t0) im) ∧ KI n' ∧ NR n' ∧ KS n' n) ∧ cnt = cnt')) := by
  refine pm_enter 0 (by decide) (Nat.le_of_ble_eq_true rfl) rfl (fun G hG hR hF => ?_)
  refine pm_aloadn hG dX12_strike_0 rfl ?_
  refine pm_iloadn hG dX12_strike_1 rfl ?_
  obtain ⟨k1, hk1, ek1⟩ := KI.nat hn (show kd 4 = (1, 13, false) by decide)
  refine pm_callV (As := [.int za]) (rest := []) hG hR dX12_strike_2 (lkX12_192 _ rfl) okV_X12_isLaw rfl rfl (m_isLaw (d := 1) (by decide) ek1 (by omega)) rfl rfl hdd (Nat.le_refl _) (Nat.le_refl _) (by decide) (pm_ki (fun v2 σ' cnt' hq => ?_))
  obtain ⟨hq, rfl, rfl⟩ := hq
  rcases hq with ⟨rfl, k4, hk4, ek4⟩ | rfl
  · refine pm_ifN_ne (tgt := 14) hG dX12_strike_5 rfl (by omega) (fun _ => ?_) (fun q => absurd q (by omega))
    refine pm_aloadn hG dX12_strike_14 rfl ?_
    refine pm_getf hG dX12_strike_15 (flX12_7 _ rfl) rfl rfl ?_
    refine pm_sipush (v := nI 510) hG dX12_strike_18 (by decide) ?_
    refine pm_bipush (v := nI 65) hG dX12_strike_21 (by decide) ?_
    refine pm_iloadn hG dX12_strike_23 rfl ?_
    refine pm_top (v := nI k4) ek4 ?_
    refine pm_imulN (c := 65 * k4) hG dX12_strike_24 (by omega) ?_
    refine pm_iaddN (c := 65 * k4 + 510) hG dX12_strike_25 (by omega) ?_
    refine pm_iconst (v := nI 3) hG dX12_strike_26 (by decide) ?_
    refine pm_iaddN (c := 65 * k4 + 513) hG dX12_strike_27 (by omega) ?_
    refine pm_ialdN hG dX12_strike_28 rfl (by decide) (by omega) ?_
    refine pm_gen (fun x5 ex5 => ?_)
    refine pm_if_lt (tgt := 38) hG dX12_strike_29 rfl (fun c6 => ?_) (fun c6 => ?_)
    · refine pm_aloadn hG dX12_strike_38 rfl ?_
      refine pm_getf hG dX12_strike_39 (flX12_7 _ rfl) rfl rfl ?_
      refine pm_sipush (v := nI 510) hG dX12_strike_42 (by decide) ?_
      refine pm_bipush (v := nI 65) hG dX12_strike_45 (by decide) ?_
      refine pm_iloadn hG dX12_strike_47 rfl ?_
      refine pm_top (v := nI k4) ek4 ?_
      refine pm_imulN (c := 65 * k4) hG dX12_strike_48 (by omega) ?_
      refine pm_iaddN (c := 65 * k4 + 510) hG dX12_strike_49 (by omega) ?_
      refine pm_iconst (v := nI 3) hG dX12_strike_50 (by decide) ?_
      refine pm_iaddN (c := 65 * k4 + 513) hG dX12_strike_51 (by omega) ?_
      refine pm_aloadn hG dX12_strike_52 rfl ?_
      refine pm_getf hG dX12_strike_53 (flX12_7 _ rfl) rfl rfl ?_
      refine pm_bipush (v := nI 8) hG dX12_strike_56 (by decide) ?_
      refine pm_ialdN hG dX12_strike_58 rfl (by decide) (by omega) ?_
      obtain ⟨k7, hk7, ek7⟩ := KI.nat hn (show kd 8 = (1, 2001, false) by decide)
      refine pm_top (v := nI k7) ek7 ?_
      refine pm_iastN hG dX12_strike_59 rfl (by decide) (by omega) ?_
      refine mdn_now (fun n_8 en_8 => ?_)
      have hnn_8 := KI.w en_8 hn (okv_f (show kd (65 * k4 + 513) = (0, 0, false) from (kd_L (k := k4) (c := 3) (by omega) (by omega) (by decide))))
      have hrn_8 := NRx.w en_8 hr (by rw [(show kd (65 * k4 + 513) = (0, 0, false) from (kd_L (k := k4) (c := 3) (by omega) (by omega) (by decide)))])
      have ksn_8 := KS.w en_8 KS.rf (by unfold tS; omega)
      have e9 : n_8 4 = nI k1 := by rw [en_8, pk_un (by omega)]; exact ek1
      have e10 : n_8 8 = nI k7 := by rw [en_8, pk_un (by omega)]; exact ek7
      have e11 : n_8 (65 * k4 + 513) = nI k7 := by rw [en_8, pk_us]
      refine pm_iconst (v := nI 1) hG dX12_strike_60 (by decide) ?_
      exact pm_iret hG hF dX12_strike_61 rfl (Nat.le_refl _) (Nat.le_refl _) ⟨_, rfl, ⟨_, _, _, rfl, hnn_8, hrn_8, ksn_8⟩, rfl⟩
    · obtain ⟨k12, hk12, ek12⟩ := nI_of c6
      refine pm_aloadn hG dX12_strike_32 rfl ?_
      refine pm_iconst (v := nI 3) hG dX12_strike_33 (by decide) ?_
      refine pm_callV (As := [.int (nI 3)]) (rest := []) hG hR dX12_strike_34 (lkX12_80 _ rfl) okV_X12_finds rfl rfl (m_finds (d := 1) (by decide) hn hz (by omega)) rfl rfl hdd (Nat.le_refl _) (Nat.le_refl _) (by decide) (pm_ki (fun v13 σ' cnt' hq => ?_))
      obtain ⟨⟨I14, A14, rfl⟩, rfl, fv13⟩ := hq
      exact pm_iret hG hF dX12_strike_37 rfl (Nat.le_refl _) (Nat.le_refl _) ⟨_, rfl, ⟨_, _, _, rfl, hn, hr, KS.rf⟩, rfl⟩
  · refine pm_ifN_ne (tgt := 14) hG dX12_strike_5 rfl (by omega) (fun q => absurd q (by omega)) (fun _ => ?_)
    refine pm_aloadn hG dX12_strike_8 rfl ?_
    refine pm_iconst (v := nI 1) hG dX12_strike_9 (by decide) ?_
    refine pm_callV (As := [.int (nI 1)]) (rest := []) hG hR dX12_strike_10 (lkX12_80 _ rfl) okV_X12_finds rfl rfl (m_finds (d := 1) (by decide) hn hz (by omega)) rfl rfl hdd (Nat.le_refl _) (Nat.le_refl _) (by decide) (pm_ki (fun v15 σ' cnt' hq => ?_))
    obtain ⟨⟨I16, A16, rfl⟩, rfl, fv15⟩ := hq
    exact pm_iret hG hF dX12_strike_13 rfl (Nat.le_refl _) (Nat.le_refl _) ⟨_, rfl, ⟨_, _, _, rfl, hn, hr, KS.rf⟩, rfl⟩

set_option maxRecDepth 100000 in
set_option maxHeartbeats 4000000 in
theorem m_tell {d B cnt p0 t0 : Nat} {σ : pm_S} {I : Nat → Int32} {A : Nat → Nat → Int32} {n k z : Nat → Int32} {ac wt pl im : Int32} {za : Int32} (hdd : 2 ≤ d) (hn : KI n) (hr : NR n) (hz : SZ z)  : pm_met mX12_tell d 0 0 B [.ref (B + 54), .int za] cnt (pm_mid σ (md_L B I A n k z ac wt pl (nI p0) (nI t0) im)) (pm_Qi (fun v σ' cnt' => (∃ (I' : Nat → Int32) (A' : Nat → Nat → Int32) (n' : Nat → Int32), σ' = pm_mid σ (md_L B I' A' n' k z ac wt pl (nI p0) (nI t0) im) ∧ KI n' ∧ NR n' ∧ KS n' n) ∧ cnt = cnt')) := by
  refine pm_enter 0 (by decide) (Nat.le_of_ble_eq_true rfl) rfl (fun G hG hR hF => ?_)
  refine pm_aloadn hG dX12_tell_0 rfl ?_
  refine pm_getf hG dX12_tell_1 (flX12_7 _ rfl) rfl rfl ?_
  refine pm_bipush (v := nI 11) hG dX12_tell_4 (by decide) ?_
  refine pm_ialdN hG dX12_tell_6 rfl (by decide) (by omega) ?_
  obtain ⟨k1, hk1, ek1⟩ := KI.nat hn (show kd 11 = (1, 21, false) by decide)
  refine pm_top (v := nI k1) ek1 ?_
  refine pm_bipush (v := nI 20) hG dX12_tell_7 (by decide) ?_
  refine pm_icmpN_ne (tgt := 18) hG dX12_tell_9 rfl (by omega) (by omega) (fun c2 => ?_) (fun c2 => ?_)
  · refine pm_aloadn hG dX12_tell_18 rfl ?_
    refine pm_getf hG dX12_tell_19 (flX12_7 _ rfl) rfl rfl ?_
    refine pm_sipush (v := nI 2051) hG dX12_tell_22 (by decide) ?_
    refine pm_aloadn hG dX12_tell_25 rfl ?_
    refine pm_getf hG dX12_tell_26 (flX12_7 _ rfl) rfl rfl ?_
    refine pm_bipush (v := nI 11) hG dX12_tell_29 (by decide) ?_
    refine pm_ialdN hG dX12_tell_31 rfl (by decide) (by omega) ?_
    refine pm_top (v := nI k1) ek1 ?_
    refine pm_iaddN (c := k1 + 2051) hG dX12_tell_32 (by omega) ?_
    refine pm_iloadn hG dX12_tell_33 rfl ?_
    refine pm_iastN hG dX12_tell_34 rfl (by decide) (by omega) ?_
    refine mdn_now (fun n_3 en_3 => ?_)
    have hnn_3 := KI.w en_3 hn (okv_f (show kd (k1 + 2051) = (0, 0, false) from (kd_O (by omega))))
    have hrn_3 := NRx.w en_3 hr (by rw [(show kd (k1 + 2051) = (0, 0, false) from (kd_O (by omega)))])
    have ksn_3 := KS.w en_3 KS.rf (by unfold tS; omega)
    have e4 : n_3 11 = nI k1 := by rw [en_3, pk_un (by omega)]; exact ek1
    have e5 : n_3 (k1 + 2051) = za := by rw [en_3, pk_us]
    refine pm_aloadn hG dX12_tell_35 rfl ?_
    refine pm_getf hG dX12_tell_36 (flX12_7 _ rfl) rfl rfl ?_
    refine pm_bipush (v := nI 11) hG dX12_tell_39 (by decide) ?_
    refine pm_dup2 hG dX12_tell_41 rfl rfl ?_
    refine pm_ialdN hG dX12_tell_42 rfl (by decide) (by omega) ?_
    refine pm_top (v := nI k1) e4 ?_
    refine pm_iconst (v := nI 1) hG dX12_tell_43 (by decide) ?_
    refine pm_iaddN (c := k1 + 1) hG dX12_tell_44 (by omega) ?_
    refine pm_iastN hG dX12_tell_45 rfl (by decide) (by omega) ?_
    refine mdn_now (fun n_6 en_6 => ?_)
    have hnn_6 := KI.w en_6 hnn_3 (okv_n (show kd 11 = (1, 21, false) by decide) (by omega))
    have hrn_6 := NRx.w en_6 hrn_3 (by rw [(show kd 11 = (1, 21, false) by decide)])
    have ksn_6 := KS.w en_6 ksn_3 (by unfold tS; omega)
    have e7 : n_6 (k1 + 2051) = za := by rw [en_6, pk_un (by omega)]; exact e5
    have e8 : n_6 11 = nI (k1 + 1) := by rw [en_6, pk_us]
    refine pm_aloadn hG dX12_tell_46 rfl ?_
    refine pm_getf hG dX12_tell_47 (flX12_7 _ rfl) rfl rfl ?_
    refine pm_bipush (v := nI 11) hG dX12_tell_50 (by decide) ?_
    refine pm_ialdN hG dX12_tell_52 rfl (by decide) (by omega) ?_
    refine pm_top (v := nI (k1 + 1)) e8 ?_
    exact pm_iret hG hF dX12_tell_53 rfl (Nat.le_refl _) (Nat.le_refl _) ⟨_, rfl, ⟨_, _, _, rfl, hnn_6, hrn_6, ksn_6⟩, rfl⟩
  · refine pm_aloadn hG dX12_tell_12 rfl ?_
    refine pm_iconst (v := nI 4) hG dX12_tell_13 (by decide) ?_
    refine pm_callV (As := [.int (nI 4)]) (rest := []) hG hR dX12_tell_14 (lkX12_80 _ rfl) okV_X12_finds rfl rfl (m_finds (d := 1) (by decide) hn hz (by omega)) rfl rfl hdd (Nat.le_refl _) (Nat.le_refl _) (by decide) (pm_ki (fun v9 σ' cnt' hq => ?_))
    obtain ⟨⟨I10, A10, rfl⟩, rfl, fv9⟩ := hq
    exact pm_iret hG hF dX12_tell_17 rfl (Nat.le_refl _) (Nat.le_refl _) ⟨_, rfl, ⟨_, _, _, rfl, hn, hr, KS.rf⟩, rfl⟩

set_option maxRecDepth 100000 in
set_option maxHeartbeats 4000000 in
theorem m_tellsPower {d B cnt p0 t0 : Nat} {σ : pm_S} {I : Nat → Int32} {A : Nat → Nat → Int32} {n k z : Nat → Int32} {ac wt pl im : Int32} {zb : Int32} {ba : Nat} (hdd : 7 ≤ d) (hn : KI n) (hz : SZ z) (ht0 : t0 ≤ 40) (hba : ba < 20) : pm_met mX12_tellsPower d 0 0 B [.ref (B + 54), .int (nI ba), .int zb] cnt (pm_mid σ (md_L B I A n k z ac wt pl (nI p0) (nI t0) im)) (pm_Qi (fun v σ' cnt' => (∃ (I' : Nat → Int32) (A' : Nat → Nat → Int32) (t0' : Nat), σ' = pm_mid σ (md_L B I' A' n k z ac wt pl (nI p0) (nI t0') im) ∧ t0' ≤ 40) ∧ cnt = cnt')) := by
  refine pm_enter 1 (by decide) (Nat.le_of_ble_eq_true rfl) rfl (fun G hG hR hF => ?_)
  refine pm_aloadn hG dX12_tellsPower_0 rfl ?_
  refine pm_bipush (v := nI 13) hG dX12_tellsPower_1 (by decide) ?_
  refine pm_callV (As := [.int (nI 13)]) (rest := []) hG hR dX12_tellsPower_3 (lkX12_286 _ rfl) okV_X12_ran rfl rfl (m_ran (d := 6) (by decide) hn hz (by omega)) rfl rfl hdd (Nat.le_refl _) (Nat.le_refl _) (by decide) (pm_kv (fun σ' cnt' hq => ?_))
  obtain ⟨⟨I2, A2, t2, rfl, ht2⟩, rfl⟩ := hq
  refine pm_aloadn hG dX12_tellsPower_6 rfl ?_
  refine pm_iloadn hG dX12_tellsPower_7 rfl ?_
  refine pm_iloadn hG dX12_tellsPower_8 rfl ?_
  refine pm_callV (As := [.int (nI ba), .int zb]) (rest := []) hG hR dX12_tellsPower_9 (lkX12_304 _ rfl) okV_X12_bindsOf rfl rfl (m_bindsOf (d := 6) (by decide) hn hz (by omega) (by omega)) rfl rfl hdd (Nat.le_refl _) (Nat.le_refl _) (by decide) (pm_ki (fun v3 σ' cnt' hq => ?_))
  obtain ⟨⟨I4, A4, t4, rfl, ht4⟩, rfl⟩ := hq
  refine pm_istoreXn (loc' := [some (.ref (B + 54)), some (.int (nI ba)), some (.int zb), some (.int v3)]) hG dX12_tellsPower_12 (by decide) (pm_c1b rfl) rfl ?_
  refine pm_iloadn hG dX12_tellsPower_13 rfl ?_
  refine pm_aloadn hG dX12_tellsPower_14 rfl ?_
  refine pm_iloadn hG dX12_tellsPower_15 rfl ?_
  refine pm_iloadn hG dX12_tellsPower_16 rfl ?_
  refine pm_callV (As := [.int (nI ba), .int zb]) (rest := [.int v3]) hG hR dX12_tellsPower_17 (lkX12_307 _ rfl) okV_X12_ranksOf rfl rfl (m_ranksOf (d := 6) (by decide) hn hz (by omega) (by omega)) rfl rfl hdd (Nat.le_refl _) (Nat.le_refl _) (Nat.le_of_ble_eq_true rfl) (pm_ki (fun v5 σ' cnt' hq => ?_))
  obtain ⟨⟨I6, A6, t6, rfl, ht6⟩, rfl⟩ := hq
  refine pm_ixor hG dX12_tellsPower_20 ?_
  refine pm_any (fun x7 => ?_)
  exact pm_iret hG hF dX12_tellsPower_21 rfl (Nat.le_refl _) (Nat.le_refl _) ⟨_, rfl, ⟨_, _, _, rfl, by omega⟩, rfl⟩

set_option maxRecDepth 100000 in
set_option maxHeartbeats 4000000 in
theorem m_tellsOffice {d B cnt p0 t0 : Nat} {σ : pm_S} {I : Nat → Int32} {A : Nat → Nat → Int32} {n k z : Nat → Int32} {ac wt pl im : Int32} {zb : Int32} {ba : Nat} (hdd : 8 ≤ d) (hn : KI n) (hz : SZ z) (ht0 : t0 ≤ 40) (hba : ba < 20) : pm_met mX12_tellsOffice d 0 0 B [.ref (B + 54), .int (nI ba), .int zb] cnt (pm_mid σ (md_L B I A n k z ac wt pl (nI p0) (nI t0) im)) (pm_Qi (fun v σ' cnt' => (∃ (I' : Nat → Int32) (A' : Nat → Nat → Int32) (t0' : Nat), σ' = pm_mid σ (md_L B I' A' n k z ac wt pl (nI p0) (nI t0') im) ∧ t0' ≤ 40) ∧ cnt = cnt')) := by
  refine pm_enter 0 (by decide) (Nat.le_of_ble_eq_true rfl) rfl (fun G hG hR hF => ?_)
  refine pm_aloadn hG dX12_tellsOffice_0 rfl ?_
  refine pm_bipush (v := nI 21) hG dX12_tellsOffice_1 (by decide) ?_
  refine pm_callV (As := [.int (nI 21)]) (rest := []) hG hR dX12_tellsOffice_3 (lkX12_286 _ rfl) okV_X12_ran rfl rfl (m_ran (d := 7) (by decide) hn hz (by omega)) rfl rfl hdd (Nat.le_refl _) (Nat.le_refl _) (by decide) (pm_kv (fun σ' cnt' hq => ?_))
  obtain ⟨⟨I2, A2, t2, rfl, ht2⟩, rfl⟩ := hq
  refine pm_aloadn hG dX12_tellsOffice_6 rfl ?_
  refine pm_iloadn hG dX12_tellsOffice_7 rfl ?_
  refine pm_iloadn hG dX12_tellsOffice_8 rfl ?_
  refine pm_iconst (v := nI 1) hG dX12_tellsOffice_9 (by decide) ?_
  refine pm_iadd hG dX12_tellsOffice_10 ?_
  refine pm_callV (As := [.int (nI ba), .int (zb + (nI 1))]) (rest := []) hG hR dX12_tellsOffice_11 (lkX12_310 _ rfl) okV_X12_tellsPower rfl rfl (m_tellsPower (d := 7) (by decide) hn hz (by omega) (by omega)) rfl rfl hdd (Nat.le_refl _) (Nat.le_refl _) (by decide) (pm_ki (fun v3 σ' cnt' hq => ?_))
  obtain ⟨⟨I4, A4, t4, rfl, ht4⟩, rfl⟩ := hq
  exact pm_iret hG hF dX12_tellsOffice_14 rfl (Nat.le_refl _) (Nat.le_refl _) ⟨_, rfl, ⟨_, _, _, rfl, by omega⟩, rfl⟩

set_option maxRecDepth 100000 in
set_option maxHeartbeats 4000000 in
theorem m_tellsOf {d B cnt p0 t0 : Nat} {σ : pm_S} {I : Nat → Int32} {A : Nat → Nat → Int32} {n k z : Nat → Int32} {ac wt pl im : Int32} {zb : Int32} {ba : Nat} (hdd : 9 ≤ d) (hn : KI n) (hz : SZ z) (ht0 : t0 ≤ 40) (hba : ba < 20) : pm_met mX12_tellsOf d 0 0 B [.ref (B + 54), .int (nI ba), .int zb] cnt (pm_mid σ (md_L B I A n k z ac wt pl (nI p0) (nI t0) im)) (pm_Qi (fun v σ' cnt' => (∃ (I' : Nat → Int32) (A' : Nat → Nat → Int32) (t0' : Nat), σ' = pm_mid σ (md_L B I' A' n k z ac wt pl (nI p0) (nI t0') im) ∧ t0' ≤ 40) ∧ cnt = cnt')) := by
  refine pm_enter 2 (by decide) (Nat.le_of_ble_eq_true rfl) rfl (fun G hG hR hF => ?_)
  refine pm_aloadn hG dX12_tellsOf_0 rfl ?_
  refine pm_iloadn hG dX12_tellsOf_1 rfl ?_
  refine pm_iconst (v := nI 0) hG dX12_tellsOf_2 (by decide) ?_
  refine pm_callV (As := [.int (nI ba), .int (nI 0)]) (rest := []) hG hR dX12_tellsOf_3 (lkX12_110 _ rfl) okV_X12_its rfl rfl (m_its (d := 8) (e := 6 * ba + 390) (by omega) (by omega) (by omega)) rfl rfl hdd (Nat.le_refl _) (Nat.le_refl _) (by decide) (pm_ki (fun v1 σ' cnt' hq => ?_))
  obtain ⟨rfl, rfl, rfl⟩ := hq
  refine pm_gen (fun x2 ex2 => ?_)
  refine pm_istoreXn (loc' := [some (.ref (B + 54)), some (.int (nI ba)), some (.int zb), some (.int x2), none]) hG dX12_tellsOf_6 (by decide) (pm_c1b rfl) rfl ?_
  refine pm_iloadn hG dX12_tellsOf_7 rfl ?_
  refine pm_iconst (v := nI 1) hG dX12_tellsOf_8 (by decide) ?_
  refine pm_icmp_eq (tgt := 17) hG dX12_tellsOf_9 rfl (fun c3 => ?_) (fun c3 => ?_)
  · refine pm_aloadn hG dX12_tellsOf_17 rfl ?_
    refine pm_iloadn hG dX12_tellsOf_18 rfl ?_
    refine pm_iloadn hG dX12_tellsOf_19 rfl ?_
    refine pm_callV (As := [.int (nI ba), .int zb]) (rest := []) hG hR dX12_tellsOf_20 (lkX12_313 _ rfl) okV_X12_tellsOffice rfl rfl (m_tellsOffice (d := 8) (by decide) hn hz (by omega) (by omega)) rfl rfl hdd (Nat.le_refl _) (Nat.le_refl _) (by decide) (pm_ki (fun v4 σ' cnt' hq => ?_))
    obtain ⟨⟨I5, A5, t5, rfl, ht5⟩, rfl⟩ := hq
    exact pm_iret hG hF dX12_tellsOf_23 rfl (Nat.le_refl _) (Nat.le_refl _) ⟨_, rfl, ⟨_, _, _, rfl, by omega⟩, rfl⟩
  · refine pm_iloadn hG dX12_tellsOf_12 rfl ?_
    refine pm_iconst (v := nI 3) hG dX12_tellsOf_13 (by decide) ?_
    refine pm_icmp_ne (tgt := 24) hG dX12_tellsOf_14 rfl (fun c6 => ?_) (fun c6 => ?_)
    · refine pm_iloadn hG dX12_tellsOf_24 rfl ?_
      refine pm_iconst (v := nI 4) hG dX12_tellsOf_25 (by decide) ?_
      refine pm_icmp_eq (tgt := 36) hG dX12_tellsOf_26 rfl (fun c7 => ?_) (fun c7 => ?_)
      · refine pm_aloadn hG dX12_tellsOf_36 rfl ?_
        refine pm_bipush (v := nI 51) hG dX12_tellsOf_37 (by decide) ?_
        refine pm_callV (As := [.int (nI 51)]) (rest := []) hG hR dX12_tellsOf_39 (lkX12_286 _ rfl) okV_X12_ran rfl rfl (m_ran (d := 8) (by decide) hn hz (by omega)) rfl rfl hdd (Nat.le_refl _) (Nat.le_refl _) (by decide) (pm_kv (fun σ' cnt' hq => ?_))
        obtain ⟨⟨I9, A9, t9, rfl, ht9⟩, rfl⟩ := hq
        refine pm_aloadn hG dX12_tellsOf_42 rfl ?_
        refine pm_iloadn hG dX12_tellsOf_43 rfl ?_
        refine pm_iloadn hG dX12_tellsOf_44 rfl ?_
        refine pm_callV (As := [.int (nI ba), .int zb]) (rest := []) hG hR dX12_tellsOf_45 (lkX12_307 _ rfl) okV_X12_ranksOf rfl rfl (m_ranksOf (d := 8) (by decide) hn hz (by omega) (by omega)) rfl rfl hdd (Nat.le_refl _) (Nat.le_refl _) (by decide) (pm_ki (fun v10 σ' cnt' hq => ?_))
        obtain ⟨⟨I11, A11, t11, rfl, ht11⟩, rfl⟩ := hq
        refine pm_istoreXi (loc' := [some (.ref (B + 54)), some (.int (nI ba)), some (.int zb), some (.int x2), some (.int v10)]) hG dX12_tellsOf_48 (by decide) (pm_c1b rfl) rfl ?_
        refine pm_iloadi hG dX12_tellsOf_50 rfl ?_
        refine pm_aloadn hG dX12_tellsOf_52 rfl ?_
        refine pm_iloadn hG dX12_tellsOf_53 rfl ?_
        refine pm_iloadn hG dX12_tellsOf_54 rfl ?_
        refine pm_callV (As := [.int (nI ba), .int zb]) (rest := [.int v10]) hG hR dX12_tellsOf_55 (lkX12_313 _ rfl) okV_X12_tellsOffice rfl rfl (m_tellsOffice (d := 8) (by decide) hn hz (by omega) (by omega)) rfl rfl hdd (Nat.le_refl _) (Nat.le_refl _) (Nat.le_of_ble_eq_true rfl) (pm_ki (fun v12 σ' cnt' hq => ?_))
        obtain ⟨⟨I13, A13, t13, rfl, ht13⟩, rfl⟩ := hq
        refine pm_isub hG dX12_tellsOf_58 ?_
        exact pm_iret hG hF dX12_tellsOf_59 rfl (Nat.le_refl _) (Nat.le_refl _) ⟨_, rfl, ⟨_, _, _, rfl, by omega⟩, rfl⟩
      · refine pm_aloadn hG dX12_tellsOf_29 rfl ?_
        refine pm_iloadn hG dX12_tellsOf_30 rfl ?_
        refine pm_iloadn hG dX12_tellsOf_31 rfl ?_
        refine pm_callV (As := [.int (nI ba), .int zb]) (rest := []) hG hR dX12_tellsOf_32 (lkX12_310 _ rfl) okV_X12_tellsPower rfl rfl (m_tellsPower (d := 8) (by decide) hn hz (by omega) (by omega)) rfl rfl hdd (Nat.le_refl _) (Nat.le_refl _) (by decide) (pm_ki (fun v14 σ' cnt' hq => ?_))
        obtain ⟨⟨I15, A15, t15, rfl, ht15⟩, rfl⟩ := hq
        exact pm_iret hG hF dX12_tellsOf_35 rfl (Nat.le_refl _) (Nat.le_refl _) ⟨_, rfl, ⟨_, _, _, rfl, by omega⟩, rfl⟩
    · refine pm_aloadn hG dX12_tellsOf_17 rfl ?_
      refine pm_iloadn hG dX12_tellsOf_18 rfl ?_
      refine pm_iloadn hG dX12_tellsOf_19 rfl ?_
      refine pm_callV (As := [.int (nI ba), .int zb]) (rest := []) hG hR dX12_tellsOf_20 (lkX12_313 _ rfl) okV_X12_tellsOffice rfl rfl (m_tellsOffice (d := 8) (by decide) hn hz (by omega) (by omega)) rfl rfl hdd (Nat.le_refl _) (Nat.le_refl _) (by decide) (pm_ki (fun v16 σ' cnt' hq => ?_))
      obtain ⟨⟨I17, A17, t17, rfl, ht17⟩, rfl⟩ := hq
      exact pm_iret hG hF dX12_tellsOf_23 rfl (Nat.le_refl _) (Nat.le_refl _) ⟨_, rfl, ⟨_, _, _, rfl, by omega⟩, rfl⟩

set_option maxRecDepth 100000 in
set_option maxHeartbeats 4000000 in
theorem m_town {d B cnt p0 t0 : Nat} {σ : pm_S} {I : Nat → Int32} {A : Nat → Nat → Int32} {n k z : Nat → Int32} {ac wt pl im : Int32} (hdd : 2 ≤ d) (hn : KI n) (hr : NR n) (hz : SZ z)  : pm_met mX12_town d 0 0 B [.ref (B + 54)] cnt (pm_mid σ (md_L B I A n k z ac wt pl (nI p0) (nI t0) im)) (pm_Qi (fun v σ' cnt' => (∃ (I' : Nat → Int32) (A' : Nat → Nat → Int32) (n' : Nat → Int32), σ' = pm_mid σ (md_L B I' A' n' k z ac wt pl (nI p0) (nI t0) im) ∧ KI n' ∧ NR n' ∧ KS n' n) ∧ cnt = cnt')) := by
  refine pm_enter 1 (by decide) (Nat.le_of_ble_eq_true rfl) rfl (fun G hG hR hF => ?_)
  refine pm_aloadn hG dX12_town_0 rfl ?_
  refine pm_getf hG dX12_town_1 (flX12_7 _ rfl) rfl rfl ?_
  refine pm_iconst (v := nI 0) hG dX12_town_4 (by decide) ?_
  refine pm_ialdN hG dX12_town_5 rfl (by decide) (by omega) ?_
  obtain ⟨k1, hk1, ek1⟩ := KI.nat hn (show kd 0 = (1, 11, true) by decide)
  refine pm_top (v := nI k1) ek1 ?_
  refine pm_istoreXn (loc' := [some (.ref (B + 54)), some (.int (nI k1))]) hG dX12_town_6 (by decide) (pm_c1b rfl) rfl ?_
  refine pm_iloadn hG dX12_town_7 rfl ?_
  refine pm_bipush (v := nI 10) hG dX12_town_8 (by decide) ?_
  refine pm_icmpN_ne (tgt := 19) hG dX12_town_10 rfl (by omega) (by omega) (fun c2 => ?_) (fun c2 => ?_)
  · refine pm_aloadn hG dX12_town_19 rfl ?_
    refine pm_getf hG dX12_town_20 (flX12_7 _ rfl) rfl rfl ?_
    refine pm_iconst (v := nI 0) hG dX12_town_23 (by decide) ?_
    refine pm_dup2 hG dX12_town_24 rfl rfl ?_
    refine pm_ialdN hG dX12_town_25 rfl (by decide) (by omega) ?_
    refine pm_top (v := nI k1) ek1 ?_
    refine pm_iconst (v := nI 1) hG dX12_town_26 (by decide) ?_
    refine pm_iaddN (c := k1 + 1) hG dX12_town_27 (by omega) ?_
    refine pm_iastN hG dX12_town_28 rfl (by decide) (by omega) ?_
    refine mdn_now (fun n_3 en_3 => ?_)
    have hnn_3 := KI.w en_3 hn (okv_n (show kd 0 = (1, 11, true) by decide) (by omega))
    have hrn_3 := NRx.town en_3 hr (by omega)
    have ksn_3 := KS.w en_3 KS.rf (by unfold tS; omega)
    have e4 : n_3 0 = nI (k1 + 1) := by rw [en_3, pk_us]
    refine pm_aloadn hG dX12_town_29 rfl ?_
    refine pm_getf hG dX12_town_30 (flX12_7 _ rfl) rfl rfl ?_
    refine pm_bipush (v := nI 20) hG dX12_town_33 (by decide) ?_
    refine pm_iconst (v := nI 3) hG dX12_town_35 (by decide) ?_
    refine pm_iloadn hG dX12_town_36 rfl ?_
    refine pm_imulN (c := 3 * k1) hG dX12_town_37 (by omega) ?_
    refine pm_iaddN (c := 3 * k1 + 20) hG dX12_town_38 (by omega) ?_
    refine pm_iconst (v := nI 0) hG dX12_town_39 (by decide) ?_
    refine pm_iastN hG dX12_town_40 rfl (by decide) (by omega) ?_
    refine mdn_now (fun n_5 en_5 => ?_)
    have hnn_5 := KI.w en_5 hnn_3 (okv_f (show kd (3 * k1 + 20) = (0, 0, false) from (kd_T (k := k1) (c := 0) (by omega) (by omega) (by decide))))
    have hrn_5 := NRx.w en_5 hrn_3 (by rw [(show kd (3 * k1 + 20) = (0, 0, false) from (kd_T (k := k1) (c := 0) (by omega) (by omega) (by decide)))])
    have ksn_5 := KS.w en_5 ksn_3 (by unfold tS; omega)
    have e6 : n_5 0 = nI (k1 + 1) := by rw [en_5, pk_un (by omega)]; exact e4
    have e7 : n_5 (3 * k1 + 20) = nI 0 := by rw [en_5, pk_us]
    refine pm_aloadn hG dX12_town_41 rfl ?_
    refine pm_getf hG dX12_town_42 (flX12_7 _ rfl) rfl rfl ?_
    refine pm_bipush (v := nI 20) hG dX12_town_45 (by decide) ?_
    refine pm_iconst (v := nI 3) hG dX12_town_47 (by decide) ?_
    refine pm_iloadn hG dX12_town_48 rfl ?_
    refine pm_imulN (c := 3 * k1) hG dX12_town_49 (by omega) ?_
    refine pm_iaddN (c := 3 * k1 + 20) hG dX12_town_50 (by omega) ?_
    refine pm_iconst (v := nI 1) hG dX12_town_51 (by decide) ?_
    refine pm_iaddN (c := 3 * k1 + 21) hG dX12_town_52 (by omega) ?_
    refine pm_iconst (v := (-1)) hG dX12_town_53 (by decide) ?_
    refine pm_iastN hG dX12_town_54 rfl (by decide) (by omega) ?_
    refine mdn_now (fun n_8 en_8 => ?_)
    have hnn_8 := KI.w en_8 hnn_5 (okv_m (show kd (3 * k1 + 21) = (2, 20, false) from (kd_T (k := k1) (c := 1) (by omega) (by omega) (by decide))))
    have hrn_8 := NRx.w en_8 hrn_5 (by rw [(show kd (3 * k1 + 21) = (2, 20, false) from (kd_T (k := k1) (c := 1) (by omega) (by omega) (by decide)))])
    have ksn_8 := KS.w en_8 ksn_5 (by unfold tS; omega)
    have e9 : n_8 0 = nI (k1 + 1) := by rw [en_8, pk_un (by omega)]; exact e6
    have e10 : n_8 (3 * k1 + 20) = nI 0 := by rw [en_8, pk_un (by omega)]; exact e7
    have e11 : n_8 (3 * k1 + 21) = (-1) := by rw [en_8, pk_us]
    refine pm_aloadn hG dX12_town_55 rfl ?_
    refine pm_getf hG dX12_town_56 (flX12_7 _ rfl) rfl rfl ?_
    refine pm_bipush (v := nI 20) hG dX12_town_59 (by decide) ?_
    refine pm_iconst (v := nI 3) hG dX12_town_61 (by decide) ?_
    refine pm_iloadn hG dX12_town_62 rfl ?_
    refine pm_imulN (c := 3 * k1) hG dX12_town_63 (by omega) ?_
    refine pm_iaddN (c := 3 * k1 + 20) hG dX12_town_64 (by omega) ?_
    refine pm_iconst (v := nI 2) hG dX12_town_65 (by decide) ?_
    refine pm_iaddN (c := 3 * k1 + 22) hG dX12_town_66 (by omega) ?_
    refine pm_iconst (v := nI 0) hG dX12_town_67 (by decide) ?_
    refine pm_iastN hG dX12_town_68 rfl (by decide) (by omega) ?_
    refine mdn_now (fun n_12 en_12 => ?_)
    have hnn_12 := KI.w en_12 hnn_8 (okv_f (show kd (3 * k1 + 22) = (0, 0, false) from (kd_T (k := k1) (c := 2) (by omega) (by omega) (by decide))))
    have hrn_12 := NRx.w en_12 hrn_8 (by rw [(show kd (3 * k1 + 22) = (0, 0, false) from (kd_T (k := k1) (c := 2) (by omega) (by omega) (by decide)))])
    have ksn_12 := KS.w en_12 ksn_8 (by unfold tS; omega)
    have e13 : n_12 0 = nI (k1 + 1) := by rw [en_12, pk_un (by omega)]; exact e9
    have e14 : n_12 (3 * k1 + 20) = nI 0 := by rw [en_12, pk_un (by omega)]; exact e10
    have e15 : n_12 (3 * k1 + 21) = (-1) := by rw [en_12, pk_un (by omega)]; exact e11
    have e16 : n_12 (3 * k1 + 22) = nI 0 := by rw [en_12, pk_us]
    refine pm_iloadn hG dX12_town_69 rfl ?_
    exact pm_iret hG hF dX12_town_70 rfl (Nat.le_refl _) (Nat.le_refl _) ⟨_, rfl, ⟨_, _, _, rfl, hnn_12, hrn_12, ksn_12⟩, rfl⟩
  · refine pm_aloadn hG dX12_town_13 rfl ?_
    refine pm_iconst (v := nI 4) hG dX12_town_14 (by decide) ?_
    refine pm_callV (As := [.int (nI 4)]) (rest := []) hG hR dX12_town_15 (lkX12_80 _ rfl) okV_X12_finds rfl rfl (m_finds (d := 1) (by decide) hn hz (by omega)) rfl rfl hdd (Nat.le_refl _) (Nat.le_refl _) (by decide) (pm_ki (fun v17 σ' cnt' hq => ?_))
    obtain ⟨⟨I18, A18, rfl⟩, rfl, fv17⟩ := hq
    exact pm_iret hG hF dX12_town_18 rfl (Nat.le_refl _) (Nat.le_refl _) ⟨_, rfl, ⟨_, _, _, rfl, hn, hr, KS.rf⟩, rfl⟩

set_option maxRecDepth 100000 in
set_option maxHeartbeats 4000000 in
theorem m_trace {d B cnt p0 t0 : Nat} {σ : pm_S} {I : Nat → Int32} {A : Nat → Nat → Int32} {n k z : Nat → Int32} {ac wt pl im : Int32} {za : Int32} (hdd : 2 ≤ d) (hn : KI n) (hz : SZ z) (ht0 : t0 ≤ 40)  : pm_met mX12_trace d 0 0 B [.ref (B + 54), .int za] cnt (pm_mid σ (md_L B I A n k z ac wt pl (nI p0) (nI t0) im)) (pm_Qi (fun v σ' cnt' => (∃ (I' : Nat → Int32) (A' : Nat → Nat → Int32), σ' = pm_mid σ (md_L B I' A' n k z ac wt pl (nI p0) (nI t0) im)) ∧ cnt = cnt')) := by
  refine pm_enter 0 (by decide) (Nat.le_of_ble_eq_true rfl) rfl (fun G hG hR hF => ?_)
  refine pm_iloadn hG dX12_trace_0 rfl ?_
  refine pm_iconst (v := nI 0) hG dX12_trace_1 (by decide) ?_
  refine pm_aloadn hG dX12_trace_2 rfl ?_
  refine pm_getf hG dX12_trace_3 (flX12_283 _ rfl) rfl rfl ?_
  refine pm_iconst (v := nI 1) hG dX12_trace_6 (by decide) ?_
  refine pm_isub hG dX12_trace_7 ?_
  refine pm_callS (As := [.int za, .int (nI 0), .int ((nI t0) - (nI 1))]) (rest := []) hG hR dX12_trace_8 (lkX12_68 _ rfl) okS_X12_in (m_in (d := 1)) rfl rfl hdd (Nat.le_refl _) (Nat.le_refl _) (by decide) (pm_ki (fun v1 σ' cnt' hq => ?_))
  obtain ⟨hq, rfl, rfl⟩ := hq
  rcases hq with ⟨rfl, ac2, bc2⟩ | ⟨rfl, c2⟩
  · obtain ⟨k3, hk3, ek3⟩ := in_cnt (c := t0) (by omega) ac2 bc2
    refine pm_ifN_eq (tgt := 23) hG dX12_trace_11 rfl (by omega) (fun q => absurd q (by omega)) (fun _ => ?_)
    refine pm_aloadn hG dX12_trace_14 rfl ?_
    refine pm_getf hG dX12_trace_15 (flX12_52 _ rfl) rfl rfl ?_
    refine pm_iloadn hG dX12_trace_18 rfl ?_
    refine pm_top (v := nI k3) ek3 ?_
    refine pm_ialdN hG dX12_trace_19 rfl (by decide) (by omega) ?_
    refine pm_any (fun x4 => ?_)
    refine pm_goto (tgt := 28) hG dX12_trace_20 rfl ?_
    exact pm_iret hG hF dX12_trace_28 rfl (Nat.le_refl _) (Nat.le_refl _) ⟨_, rfl, ⟨_, _, rfl⟩, rfl⟩
  · refine pm_ifN_eq (tgt := 23) hG dX12_trace_11 rfl (by omega) (fun _ => ?_) (fun q => absurd q (by omega))
    refine pm_aloadn hG dX12_trace_23 rfl ?_
    refine pm_iconst (v := nI 2) hG dX12_trace_24 (by decide) ?_
    refine pm_callV (As := [.int (nI 2)]) (rest := []) hG hR dX12_trace_25 (lkX12_80 _ rfl) okV_X12_finds rfl rfl (m_finds (d := 1) (by decide) hn hz (by omega)) rfl rfl hdd (Nat.le_refl _) (Nat.le_refl _) (by decide) (pm_ki (fun v5 σ' cnt' hq => ?_))
    obtain ⟨⟨I6, A6, rfl⟩, rfl, fv5⟩ := hq
    exact pm_iret hG hF dX12_trace_28 rfl (Nat.le_refl _) (Nat.le_refl _) ⟨_, rfl, ⟨_, _, rfl⟩, rfl⟩

set_option maxRecDepth 100000 in
set_option maxHeartbeats 4000000 in
theorem m_voice {d B cnt p0 t0 : Nat} {σ : pm_S} {I : Nat → Int32} {A : Nat → Nat → Int32} {n k z : Nat → Int32} {ac wt pl im : Int32} {za zb zc : Int32} (hdd : 10 ≤ d) (hn : KI n) (hz : SZ z) (ht0 : t0 ≤ 40)  : pm_met mX12_voice d 0 0 B [.ref (B + 54), .int za, .int zb, .int zc] cnt (pm_mid σ (md_L B I A n k z ac wt pl (nI p0) (nI t0) im)) (pm_Qi (fun v σ' cnt' => (∃ (I' : Nat → Int32) (A' : Nat → Nat → Int32) (t0' : Nat), σ' = pm_mid σ (md_L B I' A' n k z ac wt pl (nI p0) (nI t0') im) ∧ t0' ≤ 40) ∧ cnt = cnt')) := by
  refine pm_enter 0 (by decide) (Nat.le_of_ble_eq_true rfl) rfl (fun G hG hR hF => ?_)
  refine pm_aloadn hG dX12_voice_0 rfl ?_
  refine pm_iloadn hG dX12_voice_1 rfl ?_
  obtain ⟨k1, hk1, ek1⟩ := KI.nat hn (show kd 3 = (1, 21, false) by decide)
  refine pm_callV (As := [.int za]) (rest := []) hG hR dX12_voice_2 (lkX12_132 _ rfl) okV_X12_isPower rfl rfl (m_isPower (d := 9) (by decide) ek1 (by omega)) rfl rfl hdd (Nat.le_refl _) (Nat.le_refl _) (by decide) (pm_ki (fun v2 σ' cnt' hq => ?_))
  obtain ⟨hq, rfl, rfl⟩ := hq
  rcases hq with ⟨rfl, k4, hk4, ek4⟩ | rfl
  · refine pm_ifN_eq (tgt := 17) hG dX12_voice_5 rfl (by omega) (fun q => absurd q (by omega)) (fun _ => ?_)
    refine pm_iloadn hG dX12_voice_8 rfl ?_
    refine pm_iconst (v := nI 0) hG dX12_voice_9 (by decide) ?_
    refine pm_iconst (v := nI 3) hG dX12_voice_10 (by decide) ?_
    refine pm_callS (As := [.int zb, .int (nI 0), .int (nI 3)]) (rest := []) hG hR dX12_voice_11 (lkX12_68 _ rfl) okS_X12_in (m_in (d := 9)) rfl rfl hdd (Nat.le_refl _) (Nat.le_refl _) (by decide) (pm_ki (fun v5 σ' cnt' hq => ?_))
    obtain ⟨hq, rfl, rfl⟩ := hq
    rcases hq with ⟨rfl, ac6, bc6⟩ | ⟨rfl, c6⟩
    · obtain ⟨k7, hk7, ek7⟩ := in_nat (by omega) (by omega) ac6 bc6
      refine pm_ifN_ne (tgt := 23) hG dX12_voice_14 rfl (by omega) (fun _ => ?_) (fun q => absurd q (by omega))
      refine pm_aloadn hG dX12_voice_23 rfl ?_
      refine pm_iconst (v := nI 0) hG dX12_voice_24 (by decide) ?_
      refine pm_putf hG dX12_voice_25 (fwX12_283 _ rfl) rfl rfl rfl ?_
      refine mdn_traced ?_
      refine pm_iloadn hG dX12_voice_28 rfl ?_
      refine pm_top (v := nI k7) ek7 ?_
      by_cases c8 : nI k7 = nI 0
      · refine pm_top (v := nI 0) c8 ?_
        have tc8 := nI_inj (by omega) (by omega) c8
        refine pm_tswIn (tgt := 56) hG dX12_voice_29 (by decide) (by decide) rfl rfl ?_
        refine pm_aloadn hG dX12_voice_56 rfl ?_
        refine pm_iloadn hG dX12_voice_57 rfl ?_
        refine pm_top (v := nI k4) ek4 ?_
        refine pm_iloadn hG dX12_voice_58 rfl ?_
        refine pm_callV (As := [.int (nI k4), .int zc]) (rest := []) hG hR dX12_voice_59 (lkX12_295 _ rfl) okV_X12_actsOf rfl rfl (m_actsOf (d := 9) (by decide) hn hz (by omega) (by omega)) rfl rfl hdd (Nat.le_refl _) (Nat.le_refl _) (by decide) (pm_ki (fun v9 σ' cnt' hq => ?_))
        obtain ⟨⟨I10, A10, t10, rfl, ht10⟩, rfl⟩ := hq
        exact pm_iret hG hF dX12_voice_62 rfl (Nat.le_refl _) (Nat.le_refl _) ⟨_, rfl, ⟨_, _, _, rfl, by omega⟩, rfl⟩
      by_cases c11 : nI k7 = nI 1
      · refine pm_top (v := nI 1) c11 ?_
        have tc11 := nI_inj (by omega) (by omega) c11
        refine pm_tswIn (tgt := 63) hG dX12_voice_29 (by decide) (by decide) rfl rfl ?_
        refine pm_aloadn hG dX12_voice_63 rfl ?_
        refine pm_iloadn hG dX12_voice_64 rfl ?_
        refine pm_top (v := nI k4) ek4 ?_
        refine pm_iloadn hG dX12_voice_65 rfl ?_
        refine pm_callV (As := [.int (nI k4), .int zc]) (rest := []) hG hR dX12_voice_66 (lkX12_304 _ rfl) okV_X12_bindsOf rfl rfl (m_bindsOf (d := 9) (by decide) hn hz (by omega) (by omega)) rfl rfl hdd (Nat.le_refl _) (Nat.le_refl _) (by decide) (pm_ki (fun v12 σ' cnt' hq => ?_))
        obtain ⟨⟨I13, A13, t13, rfl, ht13⟩, rfl⟩ := hq
        exact pm_iret hG hF dX12_voice_69 rfl (Nat.le_refl _) (Nat.le_refl _) ⟨_, rfl, ⟨_, _, _, rfl, by omega⟩, rfl⟩
      by_cases c14 : nI k7 = nI 2
      · refine pm_top (v := nI 2) c14 ?_
        have tc14 := nI_inj (by omega) (by omega) c14
        refine pm_tswIn (tgt := 70) hG dX12_voice_29 (by decide) (by decide) rfl rfl ?_
        refine pm_aloadn hG dX12_voice_70 rfl ?_
        refine pm_iloadn hG dX12_voice_71 rfl ?_
        refine pm_top (v := nI k4) ek4 ?_
        refine pm_iloadn hG dX12_voice_72 rfl ?_
        refine pm_callV (As := [.int (nI k4), .int zc]) (rest := []) hG hR dX12_voice_73 (lkX12_307 _ rfl) okV_X12_ranksOf rfl rfl (m_ranksOf (d := 9) (by decide) hn hz (by omega) (by omega)) rfl rfl hdd (Nat.le_refl _) (Nat.le_refl _) (by decide) (pm_ki (fun v15 σ' cnt' hq => ?_))
        obtain ⟨⟨I16, A16, t16, rfl, ht16⟩, rfl⟩ := hq
        exact pm_iret hG hF dX12_voice_76 rfl (Nat.le_refl _) (Nat.le_refl _) ⟨_, rfl, ⟨_, _, _, rfl, by omega⟩, rfl⟩
      have tc8 : ¬ (nI k7).toInt = 0 := fun q => c8 (Int32.toInt_inj.mp (q.trans (by decide)))
      have tc11 : ¬ (nI k7).toInt = 1 := fun q => c11 (Int32.toInt_inj.mp (q.trans (by decide)))
      have tc14 : ¬ (nI k7).toInt = 2 := fun q => c14 (Int32.toInt_inj.mp (q.trans (by decide)))
      refine pm_tswOut (tgt := 77) hG dX12_voice_29 (by omega) rfl ?_
      refine pm_aloadn hG dX12_voice_77 rfl ?_
      refine pm_iloadn hG dX12_voice_78 rfl ?_
      refine pm_top (v := nI k4) ek4 ?_
      refine pm_iloadn hG dX12_voice_79 rfl ?_
      refine pm_callV (As := [.int (nI k4), .int zc]) (rest := []) hG hR dX12_voice_80 (lkX12_316 _ rfl) okV_X12_tellsOf rfl rfl (m_tellsOf (d := 9) (by decide) hn hz (by omega) (by omega)) rfl rfl hdd (Nat.le_refl _) (Nat.le_refl _) (by decide) (pm_ki (fun v17 σ' cnt' hq => ?_))
      obtain ⟨⟨I18, A18, t18, rfl, ht18⟩, rfl⟩ := hq
      exact pm_iret hG hF dX12_voice_83 rfl (Nat.le_refl _) (Nat.le_refl _) ⟨_, rfl, ⟨_, _, _, rfl, by omega⟩, rfl⟩
    · refine pm_ifN_ne (tgt := 23) hG dX12_voice_14 rfl (by omega) (fun q => absurd q (by omega)) (fun _ => ?_)
      refine pm_aloadn hG dX12_voice_17 rfl ?_
      refine pm_iconst (v := nI 1) hG dX12_voice_18 (by decide) ?_
      refine pm_callV (As := [.int (nI 1)]) (rest := []) hG hR dX12_voice_19 (lkX12_80 _ rfl) okV_X12_finds rfl rfl (m_finds (d := 9) (by decide) hn hz (by omega)) rfl rfl hdd (Nat.le_refl _) (Nat.le_refl _) (by decide) (pm_ki (fun v19 σ' cnt' hq => ?_))
      obtain ⟨⟨I20, A20, rfl⟩, rfl, fv19⟩ := hq
      exact pm_iret hG hF dX12_voice_22 rfl (Nat.le_refl _) (Nat.le_refl _) ⟨_, rfl, ⟨_, _, _, rfl, by omega⟩, rfl⟩
  · refine pm_ifN_eq (tgt := 17) hG dX12_voice_5 rfl (by omega) (fun _ => ?_) (fun q => absurd q (by omega))
    refine pm_aloadn hG dX12_voice_17 rfl ?_
    refine pm_iconst (v := nI 1) hG dX12_voice_18 (by decide) ?_
    refine pm_callV (As := [.int (nI 1)]) (rest := []) hG hR dX12_voice_19 (lkX12_80 _ rfl) okV_X12_finds rfl rfl (m_finds (d := 9) (by decide) hn hz (by omega)) rfl rfl hdd (Nat.le_refl _) (Nat.le_refl _) (by decide) (pm_ki (fun v21 σ' cnt' hq => ?_))
    obtain ⟨⟨I22, A22, rfl⟩, rfl, fv21⟩ := hq
    exact pm_iret hG hF dX12_voice_22 rfl (Nat.le_refl _) (Nat.le_refl _) ⟨_, rfl, ⟨_, _, _, rfl, by omega⟩, rfl⟩
