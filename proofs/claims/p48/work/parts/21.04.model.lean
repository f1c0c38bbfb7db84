set_option maxRecDepth 100000 in
set_option maxHeartbeats 4000000 in
theorem m_pay {d B cnt p0 t0 : Nat} {σ : pm_S} {I : Nat → Int32} {A : Nat → Nat → Int32} {n k z : Nat → Int32} {ac wt pl : Int32} {za zb : Int32} (hdd : 2 ≤ d) (hn : KI n) (hr : NR n) (hz : SZ z)  : pm_met mX12_pay d 0 0 B [.ref (B + 54), .int za, .int zb] cnt (pm_mid σ (md_L B I A n k z ac wt pl (nI p0) (nI t0))) (pm_Qi (fun v σ' cnt' => (∃ (I' : Nat → Int32) (A' : Nat → Nat → Int32) (n' : Nat → Int32), σ' = pm_mid σ (md_L B I' A' n' k z ac wt pl (nI p0) (nI t0)) ∧ KI n' ∧ NR n') ∧ cnt' = cnt)) := by
  refine pm_enter 0 (by decide) (Nat.le_of_ble_eq_true rfl) rfl (fun G hG hR hF => ?_)
  refine pm_aloadn hG dX12_pay_0 rfl ?_
  refine pm_iloadn hG dX12_pay_1 rfl ?_
  obtain ⟨k1, hk1, ek1⟩ := KI.nat hn (by decide)
  refine pm_callV (As := [.int za]) (rest := []) hG hR dX12_pay_2 (lkX12_91 _ rfl) okV_X12_isPerson rfl rfl (m_isPerson (d := 1) (by decide) ek1 (by omega)) rfl rfl hdd (Nat.le_refl _) (Nat.le_refl _) (by decide) (pm_ki (fun v2 σ' cnt' hq => ?_))
  obtain ⟨hq, rfl, rfl⟩ := hq
  rcases hq with ⟨rfl, k4, hk4, ek4⟩ | rfl
  · refine pm_ifN_eq (tgt := 19) hG dX12_pay_5 rfl (by omega) (fun q => absurd q (by omega)) (fun _ => ?_)
    refine pm_iloadn hG dX12_pay_8 rfl ?_
    refine pm_iconst (v := nI 1) hG dX12_pay_9 (by decide) ?_
    refine pm_sipush (v := nI 9999) hG dX12_pay_10 (by decide) ?_
    refine pm_callS (As := [.int zb, .int (nI 1), .int (nI 9999)]) (rest := []) hG hR dX12_pay_13 (lkX12_68 _ rfl) okS_X12_in (m_in (d := 1)) rfl rfl hdd (Nat.le_refl _) (Nat.le_refl _) (by decide) (pm_ki (fun v5 σ' cnt' hq => ?_))
    obtain ⟨hq, rfl, rfl⟩ := hq
    rcases hq with ⟨rfl, ac6, bc6⟩ | ⟨rfl, c6⟩
    · obtain ⟨k7, hk7, ek7⟩ := in_nat (by omega) (by omega) ac6 bc6
      refine pm_ifN_ne (tgt := 25) hG dX12_pay_16 rfl (by omega) (fun _ => ?_) (fun q => absurd q (by omega))
      refine pm_aloadn hG dX12_pay_25 rfl ?_
      refine pm_iloadn hG dX12_pay_26 rfl ?_
      refine pm_top (v := nI k4) ek4 ?_
      rcases KI.opt hn (kd_P (k := k4) (c := 9) (by omega) (by omega) (by decide)) with ek8 | ⟨k8, hk8, ek8⟩
      · refine pm_callV (As := [.int (nI k4)]) (rest := []) hG hR dX12_pay_27 (lkX12_101 _ rfl) okV_X12_lives rfl rfl (m_lives1 (d := 1) (by decide) (by omega) (by omega : 14 * k4 + 119 = 14 * k4 + 119) ek8) rfl rfl hdd (Nat.le_refl _) (Nat.le_refl _) (by decide) (pm_ki (fun v9 σ' cnt' hq => ?_))
        obtain ⟨rfl, rfl, rfl⟩ := hq
        refine pm_ifN_ne (tgt := 39) hG dX12_pay_30 rfl (by omega) (fun _ => ?_) (fun q => absurd q (by omega))
        refine pm_aloadn hG dX12_pay_39 rfl ?_
        refine pm_getf hG dX12_pay_40 (flX12_7 _ rfl) rfl rfl ?_
        refine pm_bipush (v := nI 9) hG dX12_pay_43 (by decide) ?_
        refine pm_ialdN hG dX12_pay_45 rfl (by decide) (by omega) ?_
        refine pm_gen (fun x10 ex10 => ?_)
        refine pm_iloadn hG dX12_pay_46 rfl ?_
        refine pm_top (v := nI k7) ek7 ?_
        refine pm_icmp_ge (tgt := 56) hG dX12_pay_47 rfl (fun c11 => ?_) (fun c11 => ?_)
        · refine pm_aloadn hG dX12_pay_56 rfl ?_
          refine pm_getf hG dX12_pay_57 (flX12_7 _ rfl) rfl rfl ?_
          refine pm_bipush (v := nI 9) hG dX12_pay_60 (by decide) ?_
          refine pm_dup2 hG dX12_pay_62 rfl rfl ?_
          refine pm_ialdN hG dX12_pay_63 rfl (by decide) (by omega) ?_
          refine pm_top (v := x10) ex10 ?_
          refine pm_iloadn hG dX12_pay_64 rfl ?_
          refine pm_top (v := nI k7) ek7 ?_
          refine pm_isub hG dX12_pay_65 ?_
          refine pm_iastN hG dX12_pay_66 rfl (by decide) (by omega) ?_
          refine mdn_now (fun n_12 en_12 => ?_)
          have hnn_12 := KI.w en_12 hn (okv_f (by decide))
          have hrn_12 := NRx.w en_12 hr (by decide)
          have e13 : n_12 2 = nI k1 := by rw [en_12, pk_un (by omega)]; exact ek1
          have e14 : n_12 (14 * k4 + 119) = (-1) := by rw [en_12, pk_un (by omega)]; exact ek8
          have e15 : n_12 9 = x10 - (nI k7) := by rw [en_12, pk_us]
          refine pm_aloadn hG dX12_pay_67 rfl ?_
          refine pm_iloadn hG dX12_pay_68 rfl ?_
          refine pm_top (v := nI k4) ek4 ?_
          refine pm_bipush (v := nI 7) hG dX12_pay_69 (by decide) ?_
          refine pm_aloadn hG dX12_pay_71 rfl ?_
          refine pm_iloadn hG dX12_pay_72 rfl ?_
          refine pm_top (v := nI k4) ek4 ?_
          refine pm_bipush (v := nI 7) hG dX12_pay_73 (by decide) ?_
          refine pm_callV (As := [.int (nI k4), .int (nI 7)]) (rest := [.int (nI 7), .int (nI k4), .ref (B + 54)]) hG hR dX12_pay_75 (lkX12_72 _ rfl) okV_X12_man rfl rfl (m_man (d := 1) (e := 14 * k4 + 117) (by omega) (by omega) (by omega)) rfl rfl hdd (Nat.le_refl _) (Nat.le_refl _) (Nat.le_of_ble_eq_true rfl) (pm_ki (fun v16 σ' cnt' hq => ?_))
          obtain ⟨rfl, rfl, rfl⟩ := hq
          refine pm_gen (fun x17 ex17 => ?_)
          refine pm_iloadn hG dX12_pay_78 rfl ?_
          refine pm_top (v := nI k7) ek7 ?_
          refine pm_iadd hG dX12_pay_79 ?_
          refine pm_callV (As := [.int (nI k4), .int (nI 7), .int (x17 + (nI k7))]) (rest := []) hG hR dX12_pay_80 (lkX12_97 _ rfl) okV_X12_sets rfl rfl (m_sets (d := 1) (e := 14 * k4 + 117) (by omega) (by omega) (by omega)) rfl rfl hdd (Nat.le_refl _) (Nat.le_refl _) (by decide) (pm_kv (fun σ' cnt' hq => ?_))
          obtain ⟨rfl, rfl⟩ := hq
          obtain ⟨n_18, en_18⟩ : ∃ f : Nat → Int32, f = upd n_12 (14 * k4 + 117) (x17 + (nI k7)) := ⟨_, rfl⟩
          rw [← en_18]
          have hnn_18 := KI.w en_18 hnn_12 (okv_f (kd_P (k := k4) (c := 7) (by omega) (by omega) (by decide)))
          have hrn_18 := NRx.w en_18 hrn_12 (by rw [(kd_P (k := k4) (c := 7) (by omega) (by omega) (by decide))]; rfl)
          have e19 : n_18 2 = nI k1 := by rw [en_18, pk_un (by omega)]; exact e13
          have e20 : n_18 (14 * k4 + 119) = (-1) := by rw [en_18, pk_un (by omega)]; exact e14
          have e21 : n_18 9 = x10 - (nI k7) := by rw [en_18, pk_un (by omega)]; exact e15
          have e22 : n_18 (14 * k4 + 117) = x17 + (nI k7) := by rw [en_18, pk_us]
          refine pm_aloadn hG dX12_pay_83 rfl ?_
          refine pm_getf hG dX12_pay_84 (flX12_7 _ rfl) rfl rfl ?_
          refine pm_bipush (v := nI 9) hG dX12_pay_87 (by decide) ?_
          refine pm_ialdN hG dX12_pay_89 rfl (by decide) (by omega) ?_
          refine pm_top (v := x10 - (nI k7)) e21 ?_
          exact pm_iret hG hF dX12_pay_90 rfl (Nat.le_refl _) (Nat.le_refl _) ⟨_, rfl, ⟨_, _, _, rfl, hnn_18, hrn_18⟩, rfl⟩
        · refine pm_aloadn hG dX12_pay_50 rfl ?_
          refine pm_iconst (v := nI 2) hG dX12_pay_51 (by decide) ?_
          refine pm_callV (As := [.int (nI 2)]) (rest := []) hG hR dX12_pay_52 (lkX12_80 _ rfl) okV_X12_finds rfl rfl (m_finds (d := 1) (by decide) hn hz (by omega)) rfl rfl hdd (Nat.le_refl _) (Nat.le_refl _) (by decide) (pm_ki (fun v23 σ' cnt' hq => ?_))
          obtain ⟨⟨I24, A24, rfl⟩, rfl⟩ := hq
          exact pm_iret hG hF dX12_pay_55 rfl (Nat.le_refl _) (Nat.le_refl _) ⟨_, rfl, ⟨_, _, _, rfl, hn, hr⟩, rfl⟩
      · refine pm_callV (As := [.int (nI k4)]) (rest := []) hG hR dX12_pay_27 (lkX12_101 _ rfl) okV_X12_lives rfl rfl (m_lives0 (d := 1) (by decide) (by omega) (by omega : 14 * k4 + 119 = 14 * k4 + 119) ek8 (by omega)) rfl rfl hdd (Nat.le_refl _) (Nat.le_refl _) (by decide) (pm_ki (fun v25 σ' cnt' hq => ?_))
        obtain ⟨rfl, rfl, rfl⟩ := hq
        refine pm_ifN_ne (tgt := 39) hG dX12_pay_30 rfl (by omega) (fun q => absurd q (by omega)) (fun _ => ?_)
        refine pm_aloadn hG dX12_pay_33 rfl ?_
        refine pm_iconst (v := nI 3) hG dX12_pay_34 (by decide) ?_
        refine pm_callV (As := [.int (nI 3)]) (rest := []) hG hR dX12_pay_35 (lkX12_80 _ rfl) okV_X12_finds rfl rfl (m_finds (d := 1) (by decide) hn hz (by omega)) rfl rfl hdd (Nat.le_refl _) (Nat.le_refl _) (by decide) (pm_ki (fun v26 σ' cnt' hq => ?_))
        obtain ⟨⟨I27, A27, rfl⟩, rfl⟩ := hq
        exact pm_iret hG hF dX12_pay_38 rfl (Nat.le_refl _) (Nat.le_refl _) ⟨_, rfl, ⟨_, _, _, rfl, hn, hr⟩, rfl⟩
    · refine pm_ifN_ne (tgt := 25) hG dX12_pay_16 rfl (by omega) (fun q => absurd q (by omega)) (fun _ => ?_)
      refine pm_aloadn hG dX12_pay_19 rfl ?_
      refine pm_iconst (v := nI 1) hG dX12_pay_20 (by decide) ?_
      refine pm_callV (As := [.int (nI 1)]) (rest := []) hG hR dX12_pay_21 (lkX12_80 _ rfl) okV_X12_finds rfl rfl (m_finds (d := 1) (by decide) hn hz (by omega)) rfl rfl hdd (Nat.le_refl _) (Nat.le_refl _) (by decide) (pm_ki (fun v28 σ' cnt' hq => ?_))
      obtain ⟨⟨I29, A29, rfl⟩, rfl⟩ := hq
      exact pm_iret hG hF dX12_pay_24 rfl (Nat.le_refl _) (Nat.le_refl _) ⟨_, rfl, ⟨_, _, _, rfl, hn, hr⟩, rfl⟩
  · refine pm_ifN_eq (tgt := 19) hG dX12_pay_5 rfl (by omega) (fun _ => ?_) (fun q => absurd q (by omega))
    refine pm_aloadn hG dX12_pay_19 rfl ?_
    refine pm_iconst (v := nI 1) hG dX12_pay_20 (by decide) ?_
    refine pm_callV (As := [.int (nI 1)]) (rest := []) hG hR dX12_pay_21 (lkX12_80 _ rfl) okV_X12_finds rfl rfl (m_finds (d := 1) (by decide) hn hz (by omega)) rfl rfl hdd (Nat.le_refl _) (Nat.le_refl _) (by decide) (pm_ki (fun v30 σ' cnt' hq => ?_))
    obtain ⟨⟨I31, A31, rfl⟩, rfl⟩ := hq
    exact pm_iret hG hF dX12_pay_24 rfl (Nat.le_refl _) (Nat.le_refl _) ⟨_, rfl, ⟨_, _, _, rfl, hn, hr⟩, rfl⟩

set_option maxRecDepth 100000 in
set_option maxHeartbeats 4000000 in
theorem m_price {d B cnt p0 t0 : Nat} {σ : pm_S} {I : Nat → Int32} {A : Nat → Nat → Int32} {n k z : Nat → Int32} {ac wt pl : Int32} {za zb : Int32} (hdd : 2 ≤ d) (hn : KI n) (hr : NR n) (hz : SZ z)  : pm_met mX12_price d 0 0 B [.ref (B + 54), .int za, .int zb] cnt (pm_mid σ (md_L B I A n k z ac wt pl (nI p0) (nI t0))) (pm_Qi (fun v σ' cnt' => (∃ (I' : Nat → Int32) (A' : Nat → Nat → Int32) (n' : Nat → Int32), σ' = pm_mid σ (md_L B I' A' n' k z ac wt pl (nI p0) (nI t0)) ∧ KI n' ∧ NR n') ∧ cnt' = cnt)) := by
  refine pm_enter 1 (by decide) (Nat.le_of_ble_eq_true rfl) rfl (fun G hG hR hF => ?_)
  refine pm_aloadn hG dX12_price_0 rfl ?_
  refine pm_iloadn hG dX12_price_1 rfl ?_
  obtain ⟨k1, hk1, ek1⟩ := KI.nat hn (by decide)
  refine pm_callV (As := [.int za]) (rest := []) hG hR dX12_price_2 (lkX12_91 _ rfl) okV_X12_isPerson rfl rfl (m_isPerson (d := 1) (by decide) ek1 (by omega)) rfl rfl hdd (Nat.le_refl _) (Nat.le_refl _) (by decide) (pm_ki (fun v2 σ' cnt' hq => ?_))
  obtain ⟨hq, rfl, rfl⟩ := hq
  rcases hq with ⟨rfl, k4, hk4, ek4⟩ | rfl
  · refine pm_ifN_eq (tgt := 19) hG dX12_price_5 rfl (by omega) (fun q => absurd q (by omega)) (fun _ => ?_)
    refine pm_iloadn hG dX12_price_8 rfl ?_
    refine pm_iconst (v := nI 1) hG dX12_price_9 (by decide) ?_
    refine pm_sipush (v := nI 999) hG dX12_price_10 (by decide) ?_
    refine pm_callS (As := [.int zb, .int (nI 1), .int (nI 999)]) (rest := []) hG hR dX12_price_13 (lkX12_68 _ rfl) okS_X12_in (m_in (d := 1)) rfl rfl hdd (Nat.le_refl _) (Nat.le_refl _) (by decide) (pm_ki (fun v5 σ' cnt' hq => ?_))
    obtain ⟨hq, rfl, rfl⟩ := hq
    rcases hq with ⟨rfl, ac6, bc6⟩ | ⟨rfl, c6⟩
    · obtain ⟨k7, hk7, ek7⟩ := in_nat (by omega) (by omega) ac6 bc6
      refine pm_ifN_ne (tgt := 25) hG dX12_price_16 rfl (by omega) (fun _ => ?_) (fun q => absurd q (by omega))
      refine pm_aloadn hG dX12_price_25 rfl ?_
      refine pm_iloadn hG dX12_price_26 rfl ?_
      refine pm_top (v := nI k4) ek4 ?_
      refine pm_bipush (v := nI 12) hG dX12_price_27 (by decide) ?_
      refine pm_callV (As := [.int (nI k4), .int (nI 12)]) (rest := []) hG hR dX12_price_29 (lkX12_72 _ rfl) okV_X12_man rfl rfl (m_man (d := 1) (e := 14 * k4 + 122) (by omega) (by omega) (by omega)) rfl rfl hdd (Nat.le_refl _) (Nat.le_refl _) (by decide) (pm_ki (fun v8 σ' cnt' hq => ?_))
      obtain ⟨rfl, rfl, rfl⟩ := hq
      refine pm_gen (fun x9 ex9 => ?_)
      refine pm_istoreXn (loc' := [some (.ref (B + 54)), some (.int za), some (.int zb), some (.int x9)]) hG dX12_price_32 (by decide) (pm_c1b rfl) rfl ?_
      refine pm_aloadn hG dX12_price_33 rfl ?_
      refine pm_iloadn hG dX12_price_34 rfl ?_
      refine pm_top (v := nI k4) ek4 ?_
      refine pm_bipush (v := nI 12) hG dX12_price_35 (by decide) ?_
      refine pm_iloadn hG dX12_price_37 rfl ?_
      refine pm_top (v := nI k7) ek7 ?_
      refine pm_callV (As := [.int (nI k4), .int (nI 12), .int (nI k7)]) (rest := []) hG hR dX12_price_38 (lkX12_97 _ rfl) okV_X12_sets rfl rfl (m_sets (d := 1) (e := 14 * k4 + 122) (by omega) (by omega) (by omega)) rfl rfl hdd (Nat.le_refl _) (Nat.le_refl _) (by decide) (pm_kv (fun σ' cnt' hq => ?_))
      obtain ⟨rfl, rfl⟩ := hq
      obtain ⟨n_10, en_10⟩ : ∃ f : Nat → Int32, f = upd n (14 * k4 + 122) (nI k7) := ⟨_, rfl⟩
      rw [← en_10]
      have hnn_10 := KI.w en_10 hn (okv_f (kd_P (k := k4) (c := 12) (by omega) (by omega) (by decide)))
      have hrn_10 := NRx.w en_10 hr (by rw [(kd_P (k := k4) (c := 12) (by omega) (by omega) (by decide))]; rfl)
      have e11 : n_10 2 = nI k1 := by rw [en_10, pk_un (by omega)]; exact ek1
      have e12 : n_10 (14 * k4 + 122) = nI k7 := by rw [en_10, pk_us]
      refine pm_iloadn hG dX12_price_41 rfl ?_
      exact pm_iret hG hF dX12_price_42 rfl (Nat.le_refl _) (Nat.le_refl _) ⟨_, rfl, ⟨_, _, _, rfl, hnn_10, hrn_10⟩, rfl⟩
    · refine pm_ifN_ne (tgt := 25) hG dX12_price_16 rfl (by omega) (fun q => absurd q (by omega)) (fun _ => ?_)
      refine pm_aloadn hG dX12_price_19 rfl ?_
      refine pm_iconst (v := nI 1) hG dX12_price_20 (by decide) ?_
      refine pm_callV (As := [.int (nI 1)]) (rest := []) hG hR dX12_price_21 (lkX12_80 _ rfl) okV_X12_finds rfl rfl (m_finds (d := 1) (by decide) hn hz (by omega)) rfl rfl hdd (Nat.le_refl _) (Nat.le_refl _) (by decide) (pm_ki (fun v13 σ' cnt' hq => ?_))
      obtain ⟨⟨I14, A14, rfl⟩, rfl⟩ := hq
      exact pm_iret hG hF dX12_price_24 rfl (Nat.le_refl _) (Nat.le_refl _) ⟨_, rfl, ⟨_, _, _, rfl, hn, hr⟩, rfl⟩
  · refine pm_ifN_eq (tgt := 19) hG dX12_price_5 rfl (by omega) (fun _ => ?_) (fun q => absurd q (by omega))
    refine pm_aloadn hG dX12_price_19 rfl ?_
    refine pm_iconst (v := nI 1) hG dX12_price_20 (by decide) ?_
    refine pm_callV (As := [.int (nI 1)]) (rest := []) hG hR dX12_price_21 (lkX12_80 _ rfl) okV_X12_finds rfl rfl (m_finds (d := 1) (by decide) hn hz (by omega)) rfl rfl hdd (Nat.le_refl _) (Nat.le_refl _) (by decide) (pm_ki (fun v15 σ' cnt' hq => ?_))
    obtain ⟨⟨I16, A16, rfl⟩, rfl⟩ := hq
    exact pm_iret hG hF dX12_price_24 rfl (Nat.le_refl _) (Nat.le_refl _) ⟨_, rfl, ⟨_, _, _, rfl, hn, hr⟩, rfl⟩

set_option maxRecDepth 100000 in
set_option maxHeartbeats 4000000 in
theorem m_promise {d B cnt p0 t0 : Nat} {σ : pm_S} {I : Nat → Int32} {A : Nat → Nat → Int32} {n k z : Nat → Int32} {ac wt pl : Int32} {za zb zc zd : Int32} (hdd : 2 ≤ d) (hn : KI n) (hr : NR n) (hz : SZ z)  : pm_met mX12_promise d 0 0 B [.ref (B + 54), .int za, .int zb, .int zc, .int zd] cnt (pm_mid σ (md_L B I A n k z ac wt pl (nI p0) (nI t0))) (pm_Qi (fun v σ' cnt' => (∃ (I' : Nat → Int32) (A' : Nat → Nat → Int32) (n' : Nat → Int32), σ' = pm_mid σ (md_L B I' A' n' k z ac wt pl (nI p0) (nI t0)) ∧ KI n' ∧ NR n') ∧ cnt' = cnt)) := by
  refine pm_enter 2 (by decide) (Nat.le_of_ble_eq_true rfl) rfl (fun G hG hR hF => ?_)
  refine pm_aloadn hG dX12_promise_0 rfl ?_
  refine pm_iloadn hG dX12_promise_1 rfl ?_
  obtain ⟨k1, hk1, ek1⟩ := KI.nat hn (by decide)
  refine pm_callV (As := [.int za]) (rest := []) hG hR dX12_promise_2 (lkX12_91 _ rfl) okV_X12_isPerson rfl rfl (m_isPerson (d := 1) (by decide) ek1 (by omega)) rfl rfl hdd (Nat.le_refl _) (Nat.le_refl _) (by decide) (pm_ki (fun v2 σ' cnt' hq => ?_))
  obtain ⟨hq, rfl, rfl⟩ := hq
  rcases hq with ⟨rfl, k4, hk4, ek4⟩ | rfl
  · refine pm_ifN_eq (tgt := 34) hG dX12_promise_5 rfl (by omega) (fun q => absurd q (by omega)) (fun _ => ?_)
    refine pm_iloadn hG dX12_promise_8 rfl ?_
    refine pm_iconst (v := nI 0) hG dX12_promise_9 (by decide) ?_
    refine pm_iconst (v := nI 5) hG dX12_promise_10 (by decide) ?_
    refine pm_callS (As := [.int zb, .int (nI 0), .int (nI 5)]) (rest := []) hG hR dX12_promise_11 (lkX12_68 _ rfl) okS_X12_in (m_in (d := 1)) rfl rfl hdd (Nat.le_refl _) (Nat.le_refl _) (by decide) (pm_ki (fun v5 σ' cnt' hq => ?_))
    obtain ⟨hq, rfl, rfl⟩ := hq
    rcases hq with ⟨rfl, ac6, bc6⟩ | ⟨rfl, c6⟩
    · obtain ⟨k7, hk7, ek7⟩ := in_nat (by omega) (by omega) ac6 bc6
      refine pm_ifN_eq (tgt := 34) hG dX12_promise_14 rfl (by omega) (fun q => absurd q (by omega)) (fun _ => ?_)
      refine pm_iloadn hG dX12_promise_17 rfl ?_
      refine pm_aloadn hG dX12_promise_18 rfl ?_
      refine pm_getf hG dX12_promise_19 (flX12_7 _ rfl) rfl rfl ?_
      refine pm_bipush (v := nI 8) hG dX12_promise_22 (by decide) ?_
      refine pm_ialdN hG dX12_promise_24 rfl (by decide) (by omega) ?_
      obtain ⟨k8, hk8, ek8⟩ := KI.nat hn (by decide)
      refine pm_top (v := nI k8) ek8 ?_
      refine pm_sipush (v := nI 2000) hG dX12_promise_25 (by decide) ?_
      refine pm_callS (As := [.int zc, .int (nI k8), .int (nI 2000)]) (rest := []) hG hR dX12_promise_28 (lkX12_68 _ rfl) okS_X12_in (m_in (d := 1)) rfl rfl hdd (Nat.le_refl _) (Nat.le_refl _) (by decide) (pm_ki (fun v9 σ' cnt' hq => ?_))
      obtain ⟨hq, rfl, rfl⟩ := hq
      rcases hq with ⟨rfl, ac10, bc10⟩ | ⟨rfl, c10⟩
      · obtain ⟨k11, hk11, ek11⟩ := in_nat (by omega) (by omega) ac10 bc10
        refine pm_ifN_ne (tgt := 40) hG dX12_promise_31 rfl (by omega) (fun _ => ?_) (fun q => absurd q (by omega))
        refine pm_aloadn hG dX12_promise_40 rfl ?_
        refine pm_iloadn hG dX12_promise_41 rfl ?_
        refine pm_top (v := nI k4) ek4 ?_
        refine pm_bipush (v := nI 11) hG dX12_promise_42 (by decide) ?_
        refine pm_callV (As := [.int (nI k4), .int (nI 11)]) (rest := []) hG hR dX12_promise_44 (lkX12_72 _ rfl) okV_X12_man rfl rfl (m_man (d := 1) (e := 14 * k4 + 121) (by omega) (by omega) (by omega)) rfl rfl hdd (Nat.le_refl _) (Nat.le_refl _) (by decide) (pm_ki (fun v12 σ' cnt' hq => ?_))
        obtain ⟨rfl, rfl, rfl⟩ := hq
        obtain ⟨k13, hk13, ek13⟩ := KI.nat hn (kd_P (k := k4) (c := 11) (by omega) (by omega) (by decide))
        refine pm_top (v := nI k13) ek13 ?_
        refine pm_ifN_ne (tgt := 56) hG dX12_promise_47 rfl (by omega) (fun c14 => ?_) (fun c14 => ?_)
        · refine pm_aloadn hG dX12_promise_56 rfl ?_
          refine pm_getf hG dX12_promise_57 (flX12_7 _ rfl) rfl rfl ?_
          refine pm_bipush (v := nI 7) hG dX12_promise_60 (by decide) ?_
          refine pm_ialdN hG dX12_promise_62 rfl (by decide) (by omega) ?_
          obtain ⟨k15, hk15, ek15⟩ := KI.nat hn (by decide)
          refine pm_top (v := nI k15) ek15 ?_
          refine pm_istoreXi (loc' := [some (.ref (B + 54)), some (.int za), some (.int zb), some (.int zc), some (.int zd), some (.int (nI k15)), none]) hG dX12_promise_63 (by decide) (pm_c1b rfl) rfl ?_
          refine pm_iloadi hG dX12_promise_65 rfl ?_
          refine pm_bipush (v := nI 30) hG dX12_promise_67 (by decide) ?_
          refine pm_icmpN_ne (tgt := 78) hG dX12_promise_69 rfl (by omega) (by omega) (fun c16 => ?_) (fun c16 => ?_)
          · refine pm_iconst (v := nI 0) hG dX12_promise_78 (by decide) ?_
            refine pm_istoreXi (loc' := [some (.ref (B + 54)), some (.int za), some (.int zb), some (.int zc), some (.int zd), some (.int (nI k15)), some (.int (nI 0))]) hG dX12_promise_79 (by decide) (pm_c1b rfl) rfl ?_
            have loop81_17 : ∀ (m17 : Nat) (I17 : Nat → Int32) (A17 : Nat → Nat → Int32) (n_17 : Nat → Int32) (i17 : Nat), KI n_17 → NRx 40 n_17 → i17 ≤ 29 → 29 - i17 < m17 → pm_wp mX12_promise G B 81 [some (.ref (B + 54)), some (.int za), some (.int zb), some (.int zc), some (.int zd), some (.int (nI k15)), some (.int (nI i17))] [] 0 0 cnt (pm_mid σ (md_L B I17 A17 n_17 k z ac wt pl (nI p0) (nI t0))) := by
              intro m17
              induction m17 with
              | zero => intro I17 A17 n_17 i17 _ _ _ hm; exact absurd hm (Nat.not_lt_zero _)
              | succ m17 ih17 =>
                intro I17 A17 n_17 i17 hnn_17 hrn_17 hi17 hm17
                refine pm_iloadi hG dX12_promise_81 rfl ?_
                refine pm_iloadi hG dX12_promise_83 rfl ?_
                refine pm_icmpN_ge (tgt := 133) hG dX12_promise_85 rfl (by omega) (by omega) (fun c18 => ?_) (fun c18 => ?_)
                · refine pm_aloadn hG dX12_promise_133 rfl ?_
                  refine pm_getf hG dX12_promise_134 (flX12_7 _ rfl) rfl rfl ?_
                  refine pm_bipush (v := nI 7) hG dX12_promise_137 (by decide) ?_
                  refine pm_dup2 hG dX12_promise_139 rfl rfl ?_
                  refine pm_ialdN hG dX12_promise_140 rfl (by decide) (by omega) ?_
                  obtain ⟨k19, hk19, ek19⟩ := KI.nat hnn_17 (by decide)
                  refine pm_top (v := nI k19) ek19 ?_
                  refine pm_iconst (v := nI 1) hG dX12_promise_141 (by decide) ?_
                  refine pm_iaddN (c := k19 + 1) hG dX12_promise_142 (by omega) ?_
                  refine pm_iastN hG dX12_promise_143 rfl (by decide) (by omega) ?_
                  refine mdn_now (fun n_20 en_20 => ?_)
                  have hnn_20 := KI.w en_20 hnn_17 (okv_n (by decide) (by omega))
                  have hrn_20 := NRx.w en_20 hrn_17 (by decide)
                  have e21 : n_20 7 = nI (k19 + 1) := by rw [en_20, pk_us]
                  refine pm_aloadn hG dX12_promise_144 rfl ?_
                  refine pm_getf hG dX12_promise_145 (flX12_7 _ rfl) rfl rfl ?_
                  refine pm_sipush (v := nI 1806) hG dX12_promise_148 (by decide) ?_
                  refine pm_bipush (v := nI 6) hG dX12_promise_151 (by decide) ?_
                  refine pm_iloadi hG dX12_promise_153 rfl ?_
                  refine pm_imulN (c := 6 * k15) hG dX12_promise_155 (by omega) ?_
                  refine pm_iaddN (c := 6 * k15 + 1806) hG dX12_promise_156 (by omega) ?_
                  refine pm_iloadn hG dX12_promise_157 rfl ?_
                  refine pm_top (v := nI k4) ek4 ?_
                  refine pm_iastN hG dX12_promise_158 rfl (by decide) (by omega) ?_
                  refine mdn_now (fun n_22 en_22 => ?_)
                  have hnn_22 := KI.w en_22 hnn_20 (okv_n (kd_Q (k := k15) (c := 0) (by omega) (by omega) (by decide)) (by omega))
                  have hrn_22 := NRx.w en_22 hrn_20 (by rw [(kd_Q (k := k15) (c := 0) (by omega) (by omega) (by decide))]; rfl)
                  have e23 : n_22 7 = nI (k19 + 1) := by rw [en_22, pk_un (by omega)]; exact e21
                  have e24 : n_22 (6 * k15 + 1806) = nI k4 := by rw [en_22, pk_us]
                  refine pm_aloadn hG dX12_promise_159 rfl ?_
                  refine pm_getf hG dX12_promise_160 (flX12_7 _ rfl) rfl rfl ?_
                  refine pm_sipush (v := nI 1806) hG dX12_promise_163 (by decide) ?_
                  refine pm_bipush (v := nI 6) hG dX12_promise_166 (by decide) ?_
                  refine pm_iloadi hG dX12_promise_168 rfl ?_
                  refine pm_imulN (c := 6 * k15) hG dX12_promise_170 (by omega) ?_
                  refine pm_iaddN (c := 6 * k15 + 1806) hG dX12_promise_171 (by omega) ?_
                  refine pm_iconst (v := nI 1) hG dX12_promise_172 (by decide) ?_
                  refine pm_iaddN (c := 6 * k15 + 1807) hG dX12_promise_173 (by omega) ?_
                  refine pm_iloadn hG dX12_promise_174 rfl ?_
                  refine pm_top (v := nI k7) ek7 ?_
                  refine pm_iastN hG dX12_promise_175 rfl (by decide) (by omega) ?_
                  refine mdn_now (fun n_25 en_25 => ?_)
                  have hnn_25 := KI.w en_25 hnn_22 (okv_f (kd_Q (k := k15) (c := 1) (by omega) (by omega) (by decide)))
                  have hrn_25 := NRx.w en_25 hrn_22 (by rw [(kd_Q (k := k15) (c := 1) (by omega) (by omega) (by decide))]; rfl)
                  have e26 : n_25 7 = nI (k19 + 1) := by rw [en_25, pk_un (by omega)]; exact e23
                  have e27 : n_25 (6 * k15 + 1806) = nI k4 := by rw [en_25, pk_un (by omega)]; exact e24
                  have e28 : n_25 (6 * k15 + 1807) = nI k7 := by rw [en_25, pk_us]
                  refine pm_aloadn hG dX12_promise_176 rfl ?_
                  refine pm_getf hG dX12_promise_177 (flX12_7 _ rfl) rfl rfl ?_
                  refine pm_sipush (v := nI 1806) hG dX12_promise_180 (by decide) ?_
                  refine pm_bipush (v := nI 6) hG dX12_promise_183 (by decide) ?_
                  refine pm_iloadi hG dX12_promise_185 rfl ?_
                  refine pm_imulN (c := 6 * k15) hG dX12_promise_187 (by omega) ?_
                  refine pm_iaddN (c := 6 * k15 + 1806) hG dX12_promise_188 (by omega) ?_
                  refine pm_iconst (v := nI 2) hG dX12_promise_189 (by decide) ?_
                  refine pm_iaddN (c := 6 * k15 + 1808) hG dX12_promise_190 (by omega) ?_
                  refine pm_iloadn hG dX12_promise_191 rfl ?_
                  refine pm_top (v := nI k11) ek11 ?_
                  refine pm_iastN hG dX12_promise_192 rfl (by decide) (by omega) ?_
                  refine mdn_now (fun n_29 en_29 => ?_)
                  have hnn_29 := KI.w en_29 hnn_25 (okv_f (kd_Q (k := k15) (c := 2) (by omega) (by omega) (by decide)))
                  have hrn_29 := NRx.w en_29 hrn_25 (by rw [(kd_Q (k := k15) (c := 2) (by omega) (by omega) (by decide))]; rfl)
                  have e30 : n_29 7 = nI (k19 + 1) := by rw [en_29, pk_un (by omega)]; exact e26
                  have e31 : n_29 (6 * k15 + 1806) = nI k4 := by rw [en_29, pk_un (by omega)]; exact e27
                  have e32 : n_29 (6 * k15 + 1807) = nI k7 := by rw [en_29, pk_un (by omega)]; exact e28
                  have e33 : n_29 (6 * k15 + 1808) = nI k11 := by rw [en_29, pk_us]
                  refine pm_aloadn hG dX12_promise_193 rfl ?_
                  refine pm_getf hG dX12_promise_194 (flX12_7 _ rfl) rfl rfl ?_
                  refine pm_sipush (v := nI 1806) hG dX12_promise_197 (by decide) ?_
                  refine pm_bipush (v := nI 6) hG dX12_promise_200 (by decide) ?_
                  refine pm_iloadi hG dX12_promise_202 rfl ?_
                  refine pm_imulN (c := 6 * k15) hG dX12_promise_204 (by omega) ?_
                  refine pm_iaddN (c := 6 * k15 + 1806) hG dX12_promise_205 (by omega) ?_
                  refine pm_iconst (v := nI 3) hG dX12_promise_206 (by decide) ?_
                  refine pm_iaddN (c := 6 * k15 + 1809) hG dX12_promise_207 (by omega) ?_
                  refine pm_iloadi hG dX12_promise_208 rfl ?_
                  refine pm_if_eq (tgt := 217) hG dX12_promise_210 rfl (fun c34 => ?_) (fun c34 => ?_)
                  · refine pm_iconst (v := nI 0) hG dX12_promise_217 (by decide) ?_
                    refine pm_iastN hG dX12_promise_218 rfl (by decide) (by omega) ?_
                    refine mdn_now (fun n_35 en_35 => ?_)
                    have hnn_35 := KI.w en_35 hnn_29 (okv_f (kd_Q (k := k15) (c := 3) (by omega) (by omega) (by decide)))
                    have hrn_35 := NRx.w en_35 hrn_29 (by rw [(kd_Q (k := k15) (c := 3) (by omega) (by omega) (by decide))]; rfl)
                    have e36 : n_35 7 = nI (k19 + 1) := by rw [en_35, pk_un (by omega)]; exact e30
                    have e37 : n_35 (6 * k15 + 1806) = nI k4 := by rw [en_35, pk_un (by omega)]; exact e31
                    have e38 : n_35 (6 * k15 + 1807) = nI k7 := by rw [en_35, pk_un (by omega)]; exact e32
                    have e39 : n_35 (6 * k15 + 1808) = nI k11 := by rw [en_35, pk_un (by omega)]; exact e33
                    have e40 : n_35 (6 * k15 + 1809) = nI 0 := by rw [en_35, pk_us]
                    refine pm_aloadn hG dX12_promise_219 rfl ?_
                    refine pm_getf hG dX12_promise_220 (flX12_7 _ rfl) rfl rfl ?_
                    refine pm_sipush (v := nI 1806) hG dX12_promise_223 (by decide) ?_
                    refine pm_bipush (v := nI 6) hG dX12_promise_226 (by decide) ?_
                    refine pm_iloadi hG dX12_promise_228 rfl ?_
                    refine pm_imulN (c := 6 * k15) hG dX12_promise_230 (by omega) ?_
                    refine pm_iaddN (c := 6 * k15 + 1806) hG dX12_promise_231 (by omega) ?_
                    refine pm_iconst (v := nI 4) hG dX12_promise_232 (by decide) ?_
                    refine pm_iaddN (c := 6 * k15 + 1810) hG dX12_promise_233 (by omega) ?_
                    refine pm_iconst (v := nI 0) hG dX12_promise_234 (by decide) ?_
                    refine pm_iastN hG dX12_promise_235 rfl (by decide) (by omega) ?_
                    refine mdn_now (fun n_41 en_41 => ?_)
                    have hnn_41 := KI.w en_41 hnn_35 (okv_f (kd_Q (k := k15) (c := 4) (by omega) (by omega) (by decide)))
                    have hrn_41 := NRx.w en_41 hrn_35 (by rw [(kd_Q (k := k15) (c := 4) (by omega) (by omega) (by decide))]; rfl)
                    have e42 : n_41 7 = nI (k19 + 1) := by rw [en_41, pk_un (by omega)]; exact e36
                    have e43 : n_41 (6 * k15 + 1806) = nI k4 := by rw [en_41, pk_un (by omega)]; exact e37
                    have e44 : n_41 (6 * k15 + 1807) = nI k7 := by rw [en_41, pk_un (by omega)]; exact e38
                    have e45 : n_41 (6 * k15 + 1808) = nI k11 := by rw [en_41, pk_un (by omega)]; exact e39
                    have e46 : n_41 (6 * k15 + 1809) = nI 0 := by rw [en_41, pk_un (by omega)]; exact e40
                    have e47 : n_41 (6 * k15 + 1810) = nI 0 := by rw [en_41, pk_us]
                    refine pm_aloadn hG dX12_promise_236 rfl ?_
                    refine pm_getf hG dX12_promise_237 (flX12_7 _ rfl) rfl rfl ?_
                    refine pm_sipush (v := nI 1806) hG dX12_promise_240 (by decide) ?_
                    refine pm_bipush (v := nI 6) hG dX12_promise_243 (by decide) ?_
                    refine pm_iloadi hG dX12_promise_245 rfl ?_
                    refine pm_imulN (c := 6 * k15) hG dX12_promise_247 (by omega) ?_
                    refine pm_iaddN (c := 6 * k15 + 1806) hG dX12_promise_248 (by omega) ?_
                    refine pm_iconst (v := nI 5) hG dX12_promise_249 (by decide) ?_
                    refine pm_iaddN (c := 6 * k15 + 1811) hG dX12_promise_250 (by omega) ?_
                    refine pm_iconst (v := nI 0) hG dX12_promise_251 (by decide) ?_
                    refine pm_iastN hG dX12_promise_252 rfl (by decide) (by omega) ?_
                    refine mdn_now (fun n_48 en_48 => ?_)
                    have hnn_48 := KI.w en_48 hnn_41 (okv_f (kd_Q (k := k15) (c := 5) (by omega) (by omega) (by decide)))
                    have hrn_48 := NRx.w en_48 hrn_41 (by rw [(kd_Q (k := k15) (c := 5) (by omega) (by omega) (by decide))]; rfl)
                    have e49 : n_48 7 = nI (k19 + 1) := by rw [en_48, pk_un (by omega)]; exact e42
                    have e50 : n_48 (6 * k15 + 1806) = nI k4 := by rw [en_48, pk_un (by omega)]; exact e43
                    have e51 : n_48 (6 * k15 + 1807) = nI k7 := by rw [en_48, pk_un (by omega)]; exact e44
                    have e52 : n_48 (6 * k15 + 1808) = nI k11 := by rw [en_48, pk_un (by omega)]; exact e45
                    have e53 : n_48 (6 * k15 + 1809) = nI 0 := by rw [en_48, pk_un (by omega)]; exact e46
                    have e54 : n_48 (6 * k15 + 1810) = nI 0 := by rw [en_48, pk_un (by omega)]; exact e47
                    have e55 : n_48 (6 * k15 + 1811) = nI 0 := by rw [en_48, pk_us]
                    refine pm_iloadi hG dX12_promise_253 rfl ?_
                    exact pm_iret hG hF dX12_promise_255 rfl (Nat.le_refl _) (Nat.le_refl _) ⟨_, rfl, ⟨_, _, _, rfl, hnn_48, hrn_48⟩, rfl⟩
                  · refine pm_iconst (v := nI 1) hG dX12_promise_213 (by decide) ?_
                    refine pm_goto (tgt := 218) hG dX12_promise_214 rfl ?_
                    refine pm_iastN hG dX12_promise_218 rfl (by decide) (by omega) ?_
                    refine mdn_now (fun n_56 en_56 => ?_)
                    have hnn_56 := KI.w en_56 hnn_29 (okv_f (kd_Q (k := k15) (c := 3) (by omega) (by omega) (by decide)))
                    have hrn_56 := NRx.w en_56 hrn_29 (by rw [(kd_Q (k := k15) (c := 3) (by omega) (by omega) (by decide))]; rfl)
                    have e57 : n_56 7 = nI (k19 + 1) := by rw [en_56, pk_un (by omega)]; exact e30
                    have e58 : n_56 (6 * k15 + 1806) = nI k4 := by rw [en_56, pk_un (by omega)]; exact e31
                    have e59 : n_56 (6 * k15 + 1807) = nI k7 := by rw [en_56, pk_un (by omega)]; exact e32
                    have e60 : n_56 (6 * k15 + 1808) = nI k11 := by rw [en_56, pk_un (by omega)]; exact e33
                    have e61 : n_56 (6 * k15 + 1809) = nI 1 := by rw [en_56, pk_us]
                    refine pm_aloadn hG dX12_promise_219 rfl ?_
                    refine pm_getf hG dX12_promise_220 (flX12_7 _ rfl) rfl rfl ?_
                    refine pm_sipush (v := nI 1806) hG dX12_promise_223 (by decide) ?_
                    refine pm_bipush (v := nI 6) hG dX12_promise_226 (by decide) ?_
                    refine pm_iloadi hG dX12_promise_228 rfl ?_
                    refine pm_imulN (c := 6 * k15) hG dX12_promise_230 (by omega) ?_
                    refine pm_iaddN (c := 6 * k15 + 1806) hG dX12_promise_231 (by omega) ?_
                    refine pm_iconst (v := nI 4) hG dX12_promise_232 (by decide) ?_
                    refine pm_iaddN (c := 6 * k15 + 1810) hG dX12_promise_233 (by omega) ?_
                    refine pm_iconst (v := nI 0) hG dX12_promise_234 (by decide) ?_
                    refine pm_iastN hG dX12_promise_235 rfl (by decide) (by omega) ?_
                    refine mdn_now (fun n_62 en_62 => ?_)
                    have hnn_62 := KI.w en_62 hnn_56 (okv_f (kd_Q (k := k15) (c := 4) (by omega) (by omega) (by decide)))
                    have hrn_62 := NRx.w en_62 hrn_56 (by rw [(kd_Q (k := k15) (c := 4) (by omega) (by omega) (by decide))]; rfl)
                    have e63 : n_62 7 = nI (k19 + 1) := by rw [en_62, pk_un (by omega)]; exact e57
                    have e64 : n_62 (6 * k15 + 1806) = nI k4 := by rw [en_62, pk_un (by omega)]; exact e58
                    have e65 : n_62 (6 * k15 + 1807) = nI k7 := by rw [en_62, pk_un (by omega)]; exact e59
                    have e66 : n_62 (6 * k15 + 1808) = nI k11 := by rw [en_62, pk_un (by omega)]; exact e60
                    have e67 : n_62 (6 * k15 + 1809) = nI 1 := by rw [en_62, pk_un (by omega)]; exact e61
                    have e68 : n_62 (6 * k15 + 1810) = nI 0 := by rw [en_62, pk_us]
                    refine pm_aloadn hG dX12_promise_236 rfl ?_
                    refine pm_getf hG dX12_promise_237 (flX12_7 _ rfl) rfl rfl ?_
                    refine pm_sipush (v := nI 1806) hG dX12_promise_240 (by decide) ?_
                    refine pm_bipush (v := nI 6) hG dX12_promise_243 (by decide) ?_
                    refine pm_iloadi hG dX12_promise_245 rfl ?_
                    refine pm_imulN (c := 6 * k15) hG dX12_promise_247 (by omega) ?_
                    refine pm_iaddN (c := 6 * k15 + 1806) hG dX12_promise_248 (by omega) ?_
                    refine pm_iconst (v := nI 5) hG dX12_promise_249 (by decide) ?_
                    refine pm_iaddN (c := 6 * k15 + 1811) hG dX12_promise_250 (by omega) ?_
                    refine pm_iconst (v := nI 0) hG dX12_promise_251 (by decide) ?_
                    refine pm_iastN hG dX12_promise_252 rfl (by decide) (by omega) ?_
                    refine mdn_now (fun n_69 en_69 => ?_)
                    have hnn_69 := KI.w en_69 hnn_62 (okv_f (kd_Q (k := k15) (c := 5) (by omega) (by omega) (by decide)))
                    have hrn_69 := NRx.w en_69 hrn_62 (by rw [(kd_Q (k := k15) (c := 5) (by omega) (by omega) (by decide))]; rfl)
                    have e70 : n_69 7 = nI (k19 + 1) := by rw [en_69, pk_un (by omega)]; exact e63
                    have e71 : n_69 (6 * k15 + 1806) = nI k4 := by rw [en_69, pk_un (by omega)]; exact e64
                    have e72 : n_69 (6 * k15 + 1807) = nI k7 := by rw [en_69, pk_un (by omega)]; exact e65
                    have e73 : n_69 (6 * k15 + 1808) = nI k11 := by rw [en_69, pk_un (by omega)]; exact e66
                    have e74 : n_69 (6 * k15 + 1809) = nI 1 := by rw [en_69, pk_un (by omega)]; exact e67
                    have e75 : n_69 (6 * k15 + 1810) = nI 0 := by rw [en_69, pk_un (by omega)]; exact e68
                    have e76 : n_69 (6 * k15 + 1811) = nI 0 := by rw [en_69, pk_us]
                    refine pm_iloadi hG dX12_promise_253 rfl ?_
                    exact pm_iret hG hF dX12_promise_255 rfl (Nat.le_refl _) (Nat.le_refl _) ⟨_, rfl, ⟨_, _, _, rfl, hnn_69, hrn_69⟩, rfl⟩
                · refine pm_aloadn hG dX12_promise_88 rfl ?_
                  refine pm_iloadi hG dX12_promise_89 rfl ?_
                  refine pm_iconst (v := nI 0) hG dX12_promise_91 (by decide) ?_
                  refine pm_callV (As := [.int (nI i17), .int (nI 0)]) (rest := []) hG hR dX12_promise_92 (lkX12_223 _ rfl) okV_X12_promised rfl rfl (m_promised (d := 1) (e := 6 * i17 + 1806) (by omega) (by omega) (by omega)) rfl rfl hdd (Nat.le_refl _) (Nat.le_refl _) (by decide) (pm_ki (fun v77 σ' cnt' hq => ?_))
                  obtain ⟨rfl, rfl, rfl⟩ := hq
                  obtain ⟨k78, hk78, ek78⟩ := KI.nat hnn_17 (kd_Q (k := i17) (c := 0) (by omega) (by omega) (by decide))
                  refine pm_top (v := nI k78) ek78 ?_
                  refine pm_iloadn hG dX12_promise_95 rfl ?_
                  refine pm_top (v := nI k4) ek4 ?_
                  refine pm_icmpN_ne (tgt := 127) hG dX12_promise_96 rfl (by omega) (by omega) (fun c79 => ?_) (fun c79 => ?_)
                  · refine pm_iincX (v := nI (i17 + 1)) (loc' := [some (.ref (B + 54)), some (.int za), some (.int zb), some (.int zc), some (.int zd), some (.int (nI k15)), some (.int (nI (i17 + 1)))]) hG dX12_promise_127 rfl (nI_1 _) (by decide) (pm_c1b rfl) rfl ?_
                    refine pm_goto (tgt := 81) hG dX12_promise_130 rfl ?_
                    exact ih17 I17 A17 n_17 (i17 + 1) hnn_17 hrn_17 (by omega) (by omega)
                  · refine pm_aloadn hG dX12_promise_99 rfl ?_
                    refine pm_iloadi hG dX12_promise_100 rfl ?_
                    refine pm_iconst (v := nI 1) hG dX12_promise_102 (by decide) ?_
                    refine pm_callV (As := [.int (nI i17), .int (nI 1)]) (rest := []) hG hR dX12_promise_103 (lkX12_223 _ rfl) okV_X12_promised rfl rfl (m_promised (d := 1) (e := 6 * i17 + 1807) (by omega) (by omega) (by omega)) rfl rfl hdd (Nat.le_refl _) (Nat.le_refl _) (by decide) (pm_ki (fun v80 σ' cnt' hq => ?_))
                    obtain ⟨rfl, rfl, rfl⟩ := hq
                    refine pm_gen (fun x81 ex81 => ?_)
                    refine pm_iloadn hG dX12_promise_106 rfl ?_
                    refine pm_top (v := nI k7) ek7 ?_
                    refine pm_icmp_ne (tgt := 127) hG dX12_promise_107 rfl (fun c82 => ?_) (fun c82 => ?_)
                    · refine pm_iincX (v := nI (i17 + 1)) (loc' := [some (.ref (B + 54)), some (.int za), some (.int zb), some (.int zc), some (.int zd), some (.int (nI k15)), some (.int (nI (i17 + 1)))]) hG dX12_promise_127 rfl (nI_1 _) (by decide) (pm_c1b rfl) rfl ?_
                      refine pm_goto (tgt := 81) hG dX12_promise_130 rfl ?_
                      exact ih17 I17 A17 n_17 (i17 + 1) hnn_17 hrn_17 (by omega) (by omega)
                    · refine pm_aloadn hG dX12_promise_110 rfl ?_
                      refine pm_getf hG dX12_promise_111 (flX12_7 _ rfl) rfl rfl ?_
                      refine pm_sipush (v := nI 1806) hG dX12_promise_114 (by decide) ?_
                      refine pm_bipush (v := nI 6) hG dX12_promise_117 (by decide) ?_
                      refine pm_iloadi hG dX12_promise_119 rfl ?_
                      refine pm_imulN (c := 6 * i17) hG dX12_promise_121 (by omega) ?_
                      refine pm_iaddN (c := 6 * i17 + 1806) hG dX12_promise_122 (by omega) ?_
                      refine pm_iconst (v := nI 5) hG dX12_promise_123 (by decide) ?_
                      refine pm_iaddN (c := 6 * i17 + 1811) hG dX12_promise_124 (by omega) ?_
                      refine pm_iconst (v := nI 1) hG dX12_promise_125 (by decide) ?_
                      refine pm_iastN hG dX12_promise_126 rfl (by decide) (by omega) ?_
                      refine mdn_now (fun n_83 en_83 => ?_)
                      have hnn_83 := KI.w en_83 hnn_17 (okv_f (kd_Q (k := i17) (c := 5) (by omega) (by omega) (by decide)))
                      have hrn_83 := NRx.w en_83 hrn_17 (by rw [(kd_Q (k := i17) (c := 5) (by omega) (by omega) (by decide))]; rfl)
                      have e84 : n_83 (6 * i17 + 1806) = nI k78 := by rw [en_83, pk_un (by omega)]; exact ek78
                      have e85 : n_83 (6 * i17 + 1807) = x81 := by rw [en_83, pk_un (by omega)]; exact ex81
                      have e86 : n_83 (6 * i17 + 1811) = nI 1 := by rw [en_83, pk_us]
                      refine pm_iincX (v := nI (i17 + 1)) (loc' := [some (.ref (B + 54)), some (.int za), some (.int zb), some (.int zc), some (.int zd), some (.int (nI k15)), some (.int (nI (i17 + 1)))]) hG dX12_promise_127 rfl (nI_1 _) (by decide) (pm_c1b rfl) rfl ?_
                      refine pm_goto (tgt := 81) hG dX12_promise_130 rfl ?_
                      exact ih17 I17 A17 n_83 (i17 + 1) hnn_83 hrn_83 (by omega) (by omega)
            exact loop81_17 _ I A n 0 hn hr (by omega) (Nat.lt_succ_self _)
          · refine pm_aloadn hG dX12_promise_72 rfl ?_
            refine pm_iconst (v := nI 4) hG dX12_promise_73 (by decide) ?_
            refine pm_callV (As := [.int (nI 4)]) (rest := []) hG hR dX12_promise_74 (lkX12_80 _ rfl) okV_X12_finds rfl rfl (m_finds (d := 1) (by decide) hn hz (by omega)) rfl rfl hdd (Nat.le_refl _) (Nat.le_refl _) (by decide) (pm_ki (fun v87 σ' cnt' hq => ?_))
            obtain ⟨⟨I88, A88, rfl⟩, rfl⟩ := hq
            exact pm_iret hG hF dX12_promise_77 rfl (Nat.le_refl _) (Nat.le_refl _) ⟨_, rfl, ⟨_, _, _, rfl, hn, hr⟩, rfl⟩
        · refine pm_aloadn hG dX12_promise_50 rfl ?_
          refine pm_iconst (v := nI 3) hG dX12_promise_51 (by decide) ?_
          refine pm_callV (As := [.int (nI 3)]) (rest := []) hG hR dX12_promise_52 (lkX12_80 _ rfl) okV_X12_finds rfl rfl (m_finds (d := 1) (by decide) hn hz (by omega)) rfl rfl hdd (Nat.le_refl _) (Nat.le_refl _) (by decide) (pm_ki (fun v89 σ' cnt' hq => ?_))
          obtain ⟨⟨I90, A90, rfl⟩, rfl⟩ := hq
          exact pm_iret hG hF dX12_promise_55 rfl (Nat.le_refl _) (Nat.le_refl _) ⟨_, rfl, ⟨_, _, _, rfl, hn, hr⟩, rfl⟩
      · refine pm_ifN_ne (tgt := 40) hG dX12_promise_31 rfl (by omega) (fun q => absurd q (by omega)) (fun _ => ?_)
        refine pm_aloadn hG dX12_promise_34 rfl ?_
        refine pm_iconst (v := nI 1) hG dX12_promise_35 (by decide) ?_
        refine pm_callV (As := [.int (nI 1)]) (rest := []) hG hR dX12_promise_36 (lkX12_80 _ rfl) okV_X12_finds rfl rfl (m_finds (d := 1) (by decide) hn hz (by omega)) rfl rfl hdd (Nat.le_refl _) (Nat.le_refl _) (by decide) (pm_ki (fun v91 σ' cnt' hq => ?_))
        obtain ⟨⟨I92, A92, rfl⟩, rfl⟩ := hq
        exact pm_iret hG hF dX12_promise_39 rfl (Nat.le_refl _) (Nat.le_refl _) ⟨_, rfl, ⟨_, _, _, rfl, hn, hr⟩, rfl⟩
    · refine pm_ifN_eq (tgt := 34) hG dX12_promise_14 rfl (by omega) (fun _ => ?_) (fun q => absurd q (by omega))
      refine pm_aloadn hG dX12_promise_34 rfl ?_
      refine pm_iconst (v := nI 1) hG dX12_promise_35 (by decide) ?_
      refine pm_callV (As := [.int (nI 1)]) (rest := []) hG hR dX12_promise_36 (lkX12_80 _ rfl) okV_X12_finds rfl rfl (m_finds (d := 1) (by decide) hn hz (by omega)) rfl rfl hdd (Nat.le_refl _) (Nat.le_refl _) (by decide) (pm_ki (fun v93 σ' cnt' hq => ?_))
      obtain ⟨⟨I94, A94, rfl⟩, rfl⟩ := hq
      exact pm_iret hG hF dX12_promise_39 rfl (Nat.le_refl _) (Nat.le_refl _) ⟨_, rfl, ⟨_, _, _, rfl, hn, hr⟩, rfl⟩
  · refine pm_ifN_eq (tgt := 34) hG dX12_promise_5 rfl (by omega) (fun _ => ?_) (fun q => absurd q (by omega))
    refine pm_aloadn hG dX12_promise_34 rfl ?_
    refine pm_iconst (v := nI 1) hG dX12_promise_35 (by decide) ?_
    refine pm_callV (As := [.int (nI 1)]) (rest := []) hG hR dX12_promise_36 (lkX12_80 _ rfl) okV_X12_finds rfl rfl (m_finds (d := 1) (by decide) hn hz (by omega)) rfl rfl hdd (Nat.le_refl _) (Nat.le_refl _) (by decide) (pm_ki (fun v95 σ' cnt' hq => ?_))
    obtain ⟨⟨I96, A96, rfl⟩, rfl⟩ := hq
    exact pm_iret hG hF dX12_promise_39 rfl (Nat.le_refl _) (Nat.le_refl _) ⟨_, rfl, ⟨_, _, _, rfl, hn, hr⟩, rfl⟩

set_option maxRecDepth 100000 in
set_option maxHeartbeats 4000000 in
theorem m_put {d B cnt p0 t0 : Nat} {σ : pm_S} {I : Nat → Int32} {A : Nat → Nat → Int32} {n k z : Nat → Int32} {ac wt pl : Int32} {za zb zc : Int32} (hdd : 2 ≤ d) (hn : KI n) (hz : SZ z)  : pm_met mX12_put d 0 0 B [.ref (B + 54), .int za, .int zb, .int zc] cnt (pm_mid σ (md_L B I A n k z ac wt pl (nI p0) (nI t0))) (pm_Qi (fun v σ' cnt' => (∃ (I' : Nat → Int32) (A' : Nat → Nat → Int32), σ' = pm_mid σ (md_L B I' A' n k z ac wt pl (nI p0) (nI t0))) ∧ cnt' = cnt)) := by
  refine pm_enter 0 (by decide) (Nat.le_of_ble_eq_true rfl) rfl (fun G hG hR hF => ?_)
  refine pm_iloadn hG dX12_put_0 rfl ?_
  refine pm_callS (As := [.int za]) (rest := []) hG hR dX12_put_1 (lkX12_239 _ rfl) okS_X12_isSheet (m_isSheet (d := 1) (by decide)) rfl rfl hdd (Nat.le_refl _) (Nat.le_refl _) (by decide) (pm_ki (fun v1 σ' cnt' hq => ?_))
  obtain ⟨hq, rfl, rfl⟩ := hq
  rcases hq with ⟨rfl, ac2, bc2⟩ | ⟨rfl, c2⟩
  · obtain ⟨k3, hk3, ek3⟩ := in_nat (by omega) (by omega) ac2 bc2
    refine pm_ifN_ne (tgt := 13) hG dX12_put_4 rfl (by omega) (fun _ => ?_) (fun q => absurd q (by omega))
    refine pm_aloadn hG dX12_put_13 rfl ?_
    refine pm_getf hG dX12_put_14 (flX12_55 _ rfl) rfl rfl ?_
    refine pm_iloadn hG dX12_put_17 rfl ?_
    refine pm_top (v := nI k3) ek3 ?_
    refine pm_ialdN hG dX12_put_18 rfl (by decide) (by omega) ?_
    refine pm_any (fun x4 => ?_)
    refine pm_if_ne (tgt := 28) hG dX12_put_19 rfl (fun c5 => ?_) (fun c5 => ?_)
    · refine pm_iloadn hG dX12_put_28 rfl ?_
      refine pm_iconst (v := nI 0) hG dX12_put_29 (by decide) ?_
      refine pm_aloadn hG dX12_put_30 rfl ?_
      refine pm_getf hG dX12_put_31 (flX12_58 _ rfl) rfl rfl ?_
      refine pm_iloadn hG dX12_put_34 rfl ?_
      refine pm_top (v := nI k3) ek3 ?_
      refine pm_ialdN hG dX12_put_35 rfl (by decide) (by omega) ?_
      obtain ⟨k6, hk6, ek6⟩ := hz k3 (by omega)
      refine pm_top (v := nI k6) ek6 ?_
      refine pm_iconst (v := nI 1) hG dX12_put_36 (by decide) ?_
      refine pm_isub hG dX12_put_37 ?_
      refine pm_callS (As := [.int zb, .int (nI 0), .int ((nI k6) - (nI 1))]) (rest := []) hG hR dX12_put_38 (lkX12_68 _ rfl) okS_X12_in (m_in (d := 1)) rfl rfl hdd (Nat.le_refl _) (Nat.le_refl _) (by decide) (pm_ki (fun v7 σ' cnt' hq => ?_))
      obtain ⟨hq, rfl, rfl⟩ := hq
      rcases hq with ⟨rfl, ac8, bc8⟩ | ⟨rfl, c8⟩
      · obtain ⟨k9, hk9, ek9⟩ := in_cnt (c := k6) (by omega) ac8 bc8
        refine pm_ifN_ne (tgt := 50) hG dX12_put_41 rfl (by omega) (fun _ => ?_) (fun q => absurd q (by omega))
        refine pm_aloadn hG dX12_put_50 rfl ?_
        refine pm_getf hG dX12_put_51 (flX12_61 _ rfl) rfl rfl ?_
        refine pm_bipush (v := nI 24) hG dX12_put_54 (by decide) ?_
        refine pm_iloadn hG dX12_put_56 rfl ?_
        refine pm_top (v := nI k3) ek3 ?_
        refine pm_imulN (c := 24 * k3) hG dX12_put_57 (by omega) ?_
        refine pm_iloadn hG dX12_put_58 rfl ?_
        refine pm_top (v := nI k9) ek9 ?_
        refine pm_iaddN (c := 24 * k3 + k9) hG dX12_put_59 (by omega) ?_
        refine pm_aloadn hG dX12_put_60 rfl ?_
        refine pm_getf hG dX12_put_61 (flX12_55 _ rfl) rfl rfl ?_
        refine pm_iloadn hG dX12_put_64 rfl ?_
        refine pm_top (v := nI k3) ek3 ?_
        refine pm_ialdN hG dX12_put_65 rfl (by decide) (by omega) ?_
        refine pm_any (fun x10 => ?_)
        refine pm_bipush (v := nI 8) hG dX12_put_66 (by decide) ?_
        refine pm_icmp_ne (tgt := 76) hG dX12_put_68 rfl (fun c11 => ?_) (fun c11 => ?_)
        · refine pm_aloadn hG dX12_put_76 rfl ?_
          refine pm_getf hG dX12_put_77 (flX12_55 _ rfl) rfl rfl ?_
          refine pm_iloadn hG dX12_put_80 rfl ?_
          refine pm_top (v := nI k3) ek3 ?_
          refine pm_ialdN hG dX12_put_81 rfl (by decide) (by omega) ?_
          refine pm_any (fun x12 => ?_)
          refine pm_bipush (v := nI 16) hG dX12_put_82 (by decide) ?_
          refine pm_icmp_ne (tgt := 92) hG dX12_put_84 rfl (fun c13 => ?_) (fun c13 => ?_)
          · refine pm_iloadn hG dX12_put_92 rfl ?_
            refine pm_iastN hG dX12_put_93 rfl (by decide) (by omega) ?_
            refine mdn_sheets (fun A_14 => ?_)
            refine pm_iconst (v := nI 1) hG dX12_put_94 (by decide) ?_
            exact pm_iret hG hF dX12_put_95 rfl (Nat.le_refl _) (Nat.le_refl _) ⟨_, rfl, ⟨_, _, rfl⟩, rfl⟩
          · refine pm_iloadn hG dX12_put_87 rfl ?_
            refine pm_i2s hG dX12_put_88 rfl ?_
            refine pm_any (fun x15 => ?_)
            refine pm_goto (tgt := 93) hG dX12_put_89 rfl ?_
            refine pm_iastN hG dX12_put_93 rfl (by decide) (by omega) ?_
            refine mdn_sheets (fun A_16 => ?_)
            refine pm_iconst (v := nI 1) hG dX12_put_94 (by decide) ?_
            exact pm_iret hG hF dX12_put_95 rfl (Nat.le_refl _) (Nat.le_refl _) ⟨_, rfl, ⟨_, _, rfl⟩, rfl⟩
        · refine pm_iloadn hG dX12_put_71 rfl ?_
          refine pm_i2b hG dX12_put_72 rfl ?_
          refine pm_any (fun x17 => ?_)
          refine pm_goto (tgt := 93) hG dX12_put_73 rfl ?_
          refine pm_iastN hG dX12_put_93 rfl (by decide) (by omega) ?_
          refine mdn_sheets (fun A_18 => ?_)
          refine pm_iconst (v := nI 1) hG dX12_put_94 (by decide) ?_
          exact pm_iret hG hF dX12_put_95 rfl (Nat.le_refl _) (Nat.le_refl _) ⟨_, rfl, ⟨_, _, rfl⟩, rfl⟩
      · refine pm_ifN_ne (tgt := 50) hG dX12_put_41 rfl (by omega) (fun q => absurd q (by omega)) (fun _ => ?_)
        refine pm_aloadn hG dX12_put_44 rfl ?_
        refine pm_iconst (v := nI 1) hG dX12_put_45 (by decide) ?_
        refine pm_callV (As := [.int (nI 1)]) (rest := []) hG hR dX12_put_46 (lkX12_80 _ rfl) okV_X12_finds rfl rfl (m_finds (d := 1) (by decide) hn hz (by omega)) rfl rfl hdd (Nat.le_refl _) (Nat.le_refl _) (by decide) (pm_ki (fun v19 σ' cnt' hq => ?_))
        obtain ⟨⟨I20, A20, rfl⟩, rfl⟩ := hq
        exact pm_iret hG hF dX12_put_49 rfl (Nat.le_refl _) (Nat.le_refl _) ⟨_, rfl, ⟨_, _, rfl⟩, rfl⟩
    · refine pm_aloadn hG dX12_put_22 rfl ?_
      refine pm_iconst (v := nI 2) hG dX12_put_23 (by decide) ?_
      refine pm_callV (As := [.int (nI 2)]) (rest := []) hG hR dX12_put_24 (lkX12_80 _ rfl) okV_X12_finds rfl rfl (m_finds (d := 1) (by decide) hn hz (by omega)) rfl rfl hdd (Nat.le_refl _) (Nat.le_refl _) (by decide) (pm_ki (fun v21 σ' cnt' hq => ?_))
      obtain ⟨⟨I22, A22, rfl⟩, rfl⟩ := hq
      exact pm_iret hG hF dX12_put_27 rfl (Nat.le_refl _) (Nat.le_refl _) ⟨_, rfl, ⟨_, _, rfl⟩, rfl⟩
  · refine pm_ifN_ne (tgt := 13) hG dX12_put_4 rfl (by omega) (fun q => absurd q (by omega)) (fun _ => ?_)
    refine pm_aloadn hG dX12_put_7 rfl ?_
    refine pm_iconst (v := nI 1) hG dX12_put_8 (by decide) ?_
    refine pm_callV (As := [.int (nI 1)]) (rest := []) hG hR dX12_put_9 (lkX12_80 _ rfl) okV_X12_finds rfl rfl (m_finds (d := 1) (by decide) hn hz (by omega)) rfl rfl hdd (Nat.le_refl _) (Nat.le_refl _) (by decide) (pm_ki (fun v23 σ' cnt' hq => ?_))
    obtain ⟨⟨I24, A24, rfl⟩, rfl⟩ := hq
    exact pm_iret hG hF dX12_put_12 rfl (Nat.le_refl _) (Nat.le_refl _) ⟨_, rfl, ⟨_, _, rfl⟩, rfl⟩

set_option maxRecDepth 100000 in
set_option maxHeartbeats 4000000 in
theorem m_quarter {d B cnt p0 t0 : Nat} {σ : pm_S} {I : Nat → Int32} {A : Nat → Nat → Int32} {n k z : Nat → Int32} {ac wt pl : Int32} (hdd : 2 ≤ d) (hn : KI n) (hr : NR n) (hz : SZ z)  : pm_met mX12_quarter d 0 0 B [.ref (B + 54)] cnt (pm_mid σ (md_L B I A n k z ac wt pl (nI p0) (nI t0))) (pm_Qv (fun σ' cnt' => (∃ (n' : Nat → Int32), σ' = pm_mid σ (md_L B I A n' k z ac wt pl (nI p0) (nI t0)) ∧ KI n' ∧ NR n') ∧ cnt' = cnt)) := by
  refine pm_enter 4 (by decide) (Nat.le_of_ble_eq_true rfl) rfl (fun G hG hR hF => ?_)
  refine pm_iconst (v := nI 0) hG dX12_quarter_0 (by decide) ?_
  refine pm_istoreXn (loc' := [some (.ref (B + 54)), some (.int (nI 0)), none, none, none]) hG dX12_quarter_1 (by decide) (pm_c1b rfl) rfl ?_
  have loop2_1 : ∀ (m1 : Nat) (n_1 : Nat → Int32) (i1 : Nat), KI n_1 → NRx 40 n_1 → i1 ≤ 10 → 10 - i1 < m1 → pm_wp mX12_quarter G B 2 [some (.ref (B + 54)), some (.int (nI i1)), none, none, none] [] 0 0 cnt (pm_mid σ (md_L B I A n_1 k z ac wt pl (nI p0) (nI t0))) := by
    intro m1
    induction m1 with
    | zero => intro n_1 i1 _ _ _ hm; exact absurd hm (Nat.not_lt_zero _)
    | succ m1 ih1 =>
      intro n_1 i1 hnn_1 hrn_1 hi1 hm1
      refine pm_iloadn hG dX12_quarter_2 rfl ?_
      refine pm_aloadn hG dX12_quarter_3 rfl ?_
      refine pm_getf hG dX12_quarter_4 (flX12_7 _ rfl) rfl rfl ?_
      refine pm_iconst (v := nI 0) hG dX12_quarter_7 (by decide) ?_
      refine pm_ialdN hG dX12_quarter_8 rfl (by decide) (by omega) ?_
      obtain ⟨k2, hk2, ek2⟩ := KI.nat hnn_1 (by decide)
      refine pm_top (v := nI k2) ek2 ?_
      refine pm_icmpN_ge (tgt := 101) hG dX12_quarter_9 rfl (by omega) (by omega) (fun c3 => ?_) (fun c3 => ?_)
      · refine pm_iconst (v := nI 0) hG dX12_quarter_101 (by decide) ?_
        refine pm_istoreXn (loc' := [some (.ref (B + 54)), some (.int (nI 0)), none, none, none]) hG dX12_quarter_102 (by decide) (pm_c1b rfl) rfl ?_
        have loop103_4 : ∀ (m4 : Nat) (n_4 : Nat → Int32) (i4 : Nat), KI n_4 → NRx 40 n_4 → i4 ≤ 20 → 20 - i4 < m4 → pm_wp mX12_quarter G B 103 [some (.ref (B + 54)), some (.int (nI i4)), none, none, none] [] 0 0 cnt (pm_mid σ (md_L B I A n_4 k z ac wt pl (nI p0) (nI t0))) := by
          intro m4
          induction m4 with
          | zero => intro n_4 i4 _ _ _ hm; exact absurd hm (Nat.not_lt_zero _)
          | succ m4 ih4 =>
            intro n_4 i4 hnn_4 hrn_4 hi4 hm4
            refine pm_iloadn hG dX12_quarter_103 rfl ?_
            refine pm_aloadn hG dX12_quarter_104 rfl ?_
            refine pm_getf hG dX12_quarter_105 (flX12_7 _ rfl) rfl rfl ?_
            refine pm_iconst (v := nI 2) hG dX12_quarter_108 (by decide) ?_
            refine pm_ialdN hG dX12_quarter_109 rfl (by decide) (by omega) ?_
            obtain ⟨k5, hk5, ek5⟩ := KI.nat hnn_4 (by decide)
            refine pm_top (v := nI k5) ek5 ?_
            refine pm_icmpN_ge (tgt := 178) hG dX12_quarter_110 rfl (by omega) (by omega) (fun c6 => ?_) (fun c6 => ?_)
            · refine pm_iconst (v := nI 0) hG dX12_quarter_178 (by decide) ?_
              refine pm_istoreXn (loc' := [some (.ref (B + 54)), some (.int (nI 0)), none, none, none]) hG dX12_quarter_179 (by decide) (pm_c1b rfl) rfl ?_
              have loop180_7 : ∀ (m7 : Nat) (n_7 : Nat → Int32) (i7 : Nat), KI n_7 → NRx 40 n_7 → i7 ≤ 6 → 6 - i7 < m7 → pm_wp mX12_quarter G B 180 [some (.ref (B + 54)), some (.int (nI i7)), none, none, none] [] 0 0 cnt (pm_mid σ (md_L B I A n_7 k z ac wt pl (nI p0) (nI t0))) := by
                intro m7
                induction m7 with
                | zero => intro n_7 i7 _ _ _ hm; exact absurd hm (Nat.not_lt_zero _)
                | succ m7 ih7 =>
                  intro n_7 i7 hnn_7 hrn_7 hi7 hm7
                  refine pm_iloadn hG dX12_quarter_180 rfl ?_
                  refine pm_aloadn hG dX12_quarter_181 rfl ?_
                  refine pm_getf hG dX12_quarter_182 (flX12_7 _ rfl) rfl rfl ?_
                  refine pm_bipush (v := nI 6) hG dX12_quarter_185 (by decide) ?_
                  refine pm_ialdN hG dX12_quarter_187 rfl (by decide) (by omega) ?_
                  obtain ⟨k8, hk8, ek8⟩ := KI.nat hnn_7 (by decide)
                  refine pm_top (v := nI k8) ek8 ?_
                  refine pm_icmpN_ge (tgt := 369) hG dX12_quarter_188 rfl (by omega) (by omega) (fun c9 => ?_) (fun c9 => ?_)
                  · exact pm_vret hG hF dX12_quarter_369 rfl (Nat.le_refl _) (Nat.le_refl _) ⟨rfl, ⟨_, rfl, hnn_7, hrn_7⟩, rfl⟩
                  · refine pm_sipush (v := nI 1770) hG dX12_quarter_191 (by decide) ?_
                    refine pm_bipush (v := nI 6) hG dX12_quarter_194 (by decide) ?_
                    refine pm_iloadn hG dX12_quarter_196 rfl ?_
                    refine pm_imulN (c := 6 * i7) hG dX12_quarter_197 (by omega) ?_
                    refine pm_iaddN (c := 6 * i7 + 1770) hG dX12_quarter_198 (by omega) ?_
                    refine pm_istoreXn (loc' := [some (.ref (B + 54)), some (.int (nI i7)), some (.int (nI (6 * i7 + 1770))), none, none]) hG dX12_quarter_199 (by decide) (pm_c1b rfl) rfl ?_
                    refine pm_aloadn hG dX12_quarter_200 rfl ?_
                    refine pm_getf hG dX12_quarter_201 (flX12_7 _ rfl) rfl rfl ?_
                    refine pm_iloadn hG dX12_quarter_204 rfl ?_
                    refine pm_ialdN hG dX12_quarter_205 rfl (by decide) (by omega) ?_
                    refine pm_gen (fun x10 ex10 => ?_)
                    refine pm_aloadn hG dX12_quarter_206 rfl ?_
                    refine pm_getf hG dX12_quarter_207 (flX12_7 _ rfl) rfl rfl ?_
                    refine pm_iloadn hG dX12_quarter_210 rfl ?_
                    refine pm_ialdN hG dX12_quarter_211 rfl (by decide) (by omega) ?_
                    refine pm_top (v := x10) ex10 ?_
                    refine pm_aloadn hG dX12_quarter_212 rfl ?_
                    refine pm_getf hG dX12_quarter_213 (flX12_7 _ rfl) rfl rfl ?_
                    refine pm_iloadn hG dX12_quarter_216 rfl ?_
                    refine pm_iconst (v := nI 1) hG dX12_quarter_217 (by decide) ?_
                    refine pm_iaddN (c := 6 * i7 + 1771) hG dX12_quarter_218 (by omega) ?_
                    refine pm_ialdN hG dX12_quarter_219 rfl (by decide) (by omega) ?_
                    refine pm_gen (fun x11 ex11 => ?_)
                    refine pm_imul hG dX12_quarter_220 ?_
                    refine pm_bipush (v := nI 100) hG dX12_quarter_221 (by decide) ?_
                    refine pm_idiv hG dX12_quarter_223 (by decide) ?_
                    refine pm_any (fun x12 => ?_)
                    refine pm_iadd hG dX12_quarter_224 ?_
                    refine pm_istoreXn (loc' := [some (.ref (B + 54)), some (.int (nI i7)), some (.int (nI (6 * i7 + 1770))), some (.int (x10 + x12)), none]) hG dX12_quarter_225 (by decide) (pm_c1b rfl) rfl ?_
                    refine pm_aloadn hG dX12_quarter_226 rfl ?_
                    refine pm_getf hG dX12_quarter_227 (flX12_7 _ rfl) rfl rfl ?_
                    refine pm_iloadn hG dX12_quarter_230 rfl ?_
                    refine pm_iloadn hG dX12_quarter_231 rfl ?_
                    refine pm_ldc hG dX12_quarter_232 (ctX12_235 _ rfl) ?_
                    refine pm_top (v := nI 999999) (by decide) ?_
                    refine pm_icmp_ge (tgt := 241) hG dX12_quarter_234 rfl (fun c13 => ?_) (fun c13 => ?_)
                    · refine pm_ldc hG dX12_quarter_241 (ctX12_235 _ rfl) ?_
                      refine pm_top (v := nI 999999) (by decide) ?_
                      refine pm_iastN hG dX12_quarter_243 rfl (by decide) (by omega) ?_
                      refine mdn_now (fun n_14 en_14 => ?_)
                      have hnn_14 := KI.w en_14 hnn_7 (okv_f (kd_D (k := i7) (c := 0) (by omega) (by omega) (by decide)))
                      have hrn_14 := NRx.w en_14 hrn_7 (by rw [(kd_D (k := i7) (c := 0) (by omega) (by omega) (by decide))]; rfl)
                      have e15 : n_14 6 = nI k8 := by rw [en_14, pk_un (by omega)]; exact ek8
                      have e16 : n_14 (6 * i7 + 1771) = x11 := by rw [en_14, pk_un (by omega)]; exact ex11
                      have e17 : n_14 (6 * i7 + 1770) = nI 999999 := by rw [en_14, pk_us]
                      refine pm_aloadn hG dX12_quarter_244 rfl ?_
                      refine pm_getf hG dX12_quarter_245 (flX12_7 _ rfl) rfl rfl ?_
                      refine pm_iloadn hG dX12_quarter_248 rfl ?_
                      refine pm_ialdN hG dX12_quarter_249 rfl (by decide) (by omega) ?_
                      refine pm_top (v := nI 999999) e17 ?_
                      refine pm_aloadn hG dX12_quarter_250 rfl ?_
                      refine pm_getf hG dX12_quarter_251 (flX12_7 _ rfl) rfl rfl ?_
                      refine pm_iloadn hG dX12_quarter_254 rfl ?_
                      refine pm_iconst (v := nI 2) hG dX12_quarter_255 (by decide) ?_
                      refine pm_iaddN (c := 6 * i7 + 1772) hG dX12_quarter_256 (by omega) ?_
                      refine pm_ialdN hG dX12_quarter_257 rfl (by decide) (by omega) ?_
                      refine pm_gen (fun x18 ex18 => ?_)
                      refine pm_icmp_ge (tgt := 270) hG dX12_quarter_258 rfl (fun c19 => ?_) (fun c19 => ?_)
                      · refine pm_aloadn hG dX12_quarter_270 rfl ?_
                        refine pm_getf hG dX12_quarter_271 (flX12_7 _ rfl) rfl rfl ?_
                        refine pm_iloadn hG dX12_quarter_274 rfl ?_
                        refine pm_iconst (v := nI 2) hG dX12_quarter_275 (by decide) ?_
                        refine pm_iaddN (c := 6 * i7 + 1772) hG dX12_quarter_276 (by omega) ?_
                        refine pm_ialdN hG dX12_quarter_277 rfl (by decide) (by omega) ?_
                        refine pm_top (v := x18) ex18 ?_
                        refine pm_istoreXi (loc' := [some (.ref (B + 54)), some (.int (nI i7)), some (.int (nI (6 * i7 + 1770))), some (.int (x10 + x12)), some (.int x18)]) hG dX12_quarter_278 (by decide) (pm_c1b rfl) rfl ?_
                        refine pm_aloadn hG dX12_quarter_280 rfl ?_
                        refine pm_getf hG dX12_quarter_281 (flX12_7 _ rfl) rfl rfl ?_
                        refine pm_bipush (v := nI 9) hG dX12_quarter_284 (by decide) ?_
                        refine pm_ialdN hG dX12_quarter_286 rfl (by decide) (by omega) ?_
                        refine pm_gen (fun x20 ex20 => ?_)
                        refine pm_iloadi hG dX12_quarter_287 rfl ?_
                        refine pm_icmp_lt (tgt := 318) hG dX12_quarter_289 rfl (fun c21 => ?_) (fun c21 => ?_)
                        · refine pm_aloadn hG dX12_quarter_318 rfl ?_
                          refine pm_getf hG dX12_quarter_319 (flX12_7 _ rfl) rfl rfl ?_
                          refine pm_iloadn hG dX12_quarter_322 rfl ?_
                          refine pm_iconst (v := nI 3) hG dX12_quarter_323 (by decide) ?_
                          refine pm_iaddN (c := 6 * i7 + 1773) hG dX12_quarter_324 (by omega) ?_
                          refine pm_dup2 hG dX12_quarter_325 rfl rfl ?_
                          refine pm_ialdN hG dX12_quarter_326 rfl (by decide) (by omega) ?_
                          refine pm_gen (fun x22 ex22 => ?_)
                          refine pm_iconst (v := nI 1) hG dX12_quarter_327 (by decide) ?_
                          refine pm_iadd hG dX12_quarter_328 ?_
                          refine pm_iastN hG dX12_quarter_329 rfl (by decide) (by omega) ?_
                          refine mdn_now (fun n_23 en_23 => ?_)
                          have hnn_23 := KI.w en_23 hnn_14 (okv_f (kd_D (k := i7) (c := 3) (by omega) (by omega) (by decide)))
                          have hrn_23 := NRx.w en_23 hrn_14 (by rw [(kd_D (k := i7) (c := 3) (by omega) (by omega) (by decide))]; rfl)
                          have e24 : n_23 6 = nI k8 := by rw [en_23, pk_un (by omega)]; exact e15
                          have e25 : n_23 (6 * i7 + 1771) = x11 := by rw [en_23, pk_un (by omega)]; exact e16
                          have e26 : n_23 (6 * i7 + 1770) = nI 999999 := by rw [en_23, pk_un (by omega)]; exact e17
                          have e27 : n_23 (6 * i7 + 1772) = x18 := by rw [en_23, pk_un (by omega)]; exact ex18
                          have e28 : n_23 9 = x20 := by rw [en_23, pk_un (by omega)]; exact ex20
                          have e29 : n_23 (6 * i7 + 1773) = x22 + (nI 1) := by rw [en_23, pk_us]
                          refine pm_aloadn hG dX12_quarter_330 rfl ?_
                          refine pm_getf hG dX12_quarter_331 (flX12_7 _ rfl) rfl rfl ?_
                          refine pm_iloadn hG dX12_quarter_334 rfl ?_
                          refine pm_iconst (v := nI 3) hG dX12_quarter_335 (by decide) ?_
                          refine pm_iaddN (c := 6 * i7 + 1773) hG dX12_quarter_336 (by omega) ?_
                          refine pm_ialdN hG dX12_quarter_337 rfl (by decide) (by omega) ?_
                          refine pm_top (v := x22 + (nI 1)) e29 ?_
                          refine pm_iconst (v := nI 2) hG dX12_quarter_338 (by decide) ?_
                          refine pm_icmp_ne (tgt := 363) hG dX12_quarter_339 rfl (fun c30 => ?_) (fun c30 => ?_)
                          · refine pm_iincX (v := nI (i7 + 1)) (loc' := [some (.ref (B + 54)), some (.int (nI (i7 + 1))), some (.int (nI (6 * i7 + 1770))), some (.int (x10 + x12)), some (.int x18)]) hG dX12_quarter_363 rfl (nI_1 _) (by decide) (pm_c1b rfl) rfl ?_
                            refine pm_goto (tgt := 180) hG dX12_quarter_366 rfl ?_
                            refine pm_fg 2 (loc' := [some (.ref (B + 54)), some (.int (nI (i7 + 1))), none, some (.int (x10 + x12)), some (.int x18)]) rfl ?_
                            refine pm_fg 3 (loc' := [some (.ref (B + 54)), some (.int (nI (i7 + 1))), none, none, some (.int x18)]) rfl ?_
                            refine pm_fg 4 (loc' := [some (.ref (B + 54)), some (.int (nI (i7 + 1))), none, none, none]) rfl ?_
                            exact ih7 n_23 (i7 + 1) hnn_23 hrn_23 (by omega) (by omega)
                          · refine pm_aloadn hG dX12_quarter_342 rfl ?_
                            refine pm_getf hG dX12_quarter_343 (flX12_7 _ rfl) rfl rfl ?_
                            refine pm_bipush (v := nI 20) hG dX12_quarter_346 (by decide) ?_
                            refine pm_iconst (v := nI 3) hG dX12_quarter_348 (by decide) ?_
                            refine pm_aloadn hG dX12_quarter_349 rfl ?_
                            refine pm_getf hG dX12_quarter_350 (flX12_7 _ rfl) rfl rfl ?_
                            refine pm_iloadn hG dX12_quarter_353 rfl ?_
                            refine pm_iconst (v := nI 4) hG dX12_quarter_354 (by decide) ?_
                            refine pm_iaddN (c := 6 * i7 + 1774) hG dX12_quarter_355 (by omega) ?_
                            refine pm_ialdN hG dX12_quarter_356 rfl (by decide) (by omega) ?_
                            obtain ⟨k31, hk31, ek31⟩ := KI.nat hnn_23 (kd_D (k := i7) (c := 4) (by omega) (by omega) (by decide))
                            refine pm_top (v := nI k31) ek31 ?_
                            refine pm_imulN (c := 3 * k31) hG dX12_quarter_357 (by omega) ?_
                            refine pm_iaddN (c := 3 * k31 + 20) hG dX12_quarter_358 (by omega) ?_
                            refine pm_iconst (v := nI 2) hG dX12_quarter_359 (by decide) ?_
                            refine pm_iaddN (c := 3 * k31 + 22) hG dX12_quarter_360 (by omega) ?_
                            refine pm_iconst (v := nI 1) hG dX12_quarter_361 (by decide) ?_
                            refine pm_iastN hG dX12_quarter_362 rfl (by decide) (by omega) ?_
                            refine mdn_now (fun n_32 en_32 => ?_)
                            have hnn_32 := KI.w en_32 hnn_23 (okv_f (kd_T (k := k31) (c := 2) (by omega) (by omega) (by decide)))
                            have hrn_32 := NRx.w en_32 hrn_23 (by rw [(kd_T (k := k31) (c := 2) (by omega) (by omega) (by decide))]; rfl)
                            have e33 : n_32 6 = nI k8 := by rw [en_32, pk_un (by omega)]; exact e24
                            have e34 : n_32 (6 * i7 + 1771) = x11 := by rw [en_32, pk_un (by omega)]; exact e25
                            have e35 : n_32 (6 * i7 + 1770) = nI 999999 := by rw [en_32, pk_un (by omega)]; exact e26
                            have e36 : n_32 (6 * i7 + 1772) = x18 := by rw [en_32, pk_un (by omega)]; exact e27
                            have e37 : n_32 9 = x20 := by rw [en_32, pk_un (by omega)]; exact e28
                            have e38 : n_32 (6 * i7 + 1773) = x22 + (nI 1) := by rw [en_32, pk_un (by omega)]; exact e29
                            have e39 : n_32 (6 * i7 + 1774) = nI k31 := by rw [en_32, pk_un (by omega)]; exact ek31
                            have e40 : n_32 (3 * k31 + 22) = nI 1 := by rw [en_32, pk_us]
                            refine pm_iincX (v := nI (i7 + 1)) (loc' := [some (.ref (B + 54)), some (.int (nI (i7 + 1))), some (.int (nI (6 * i7 + 1770))), some (.int (x10 + x12)), some (.int x18)]) hG dX12_quarter_363 rfl (nI_1 _) (by decide) (pm_c1b rfl) rfl ?_
                            refine pm_goto (tgt := 180) hG dX12_quarter_366 rfl ?_
                            refine pm_fg 2 (loc' := [some (.ref (B + 54)), some (.int (nI (i7 + 1))), none, some (.int (x10 + x12)), some (.int x18)]) rfl ?_
                            refine pm_fg 3 (loc' := [some (.ref (B + 54)), some (.int (nI (i7 + 1))), none, none, some (.int x18)]) rfl ?_
                            refine pm_fg 4 (loc' := [some (.ref (B + 54)), some (.int (nI (i7 + 1))), none, none, none]) rfl ?_
                            exact ih7 n_32 (i7 + 1) hnn_32 hrn_32 (by omega) (by omega)
                        · refine pm_aloadn hG dX12_quarter_292 rfl ?_
                          refine pm_getf hG dX12_quarter_293 (flX12_7 _ rfl) rfl rfl ?_
                          refine pm_bipush (v := nI 9) hG dX12_quarter_296 (by decide) ?_
                          refine pm_dup2 hG dX12_quarter_298 rfl rfl ?_
                          refine pm_ialdN hG dX12_quarter_299 rfl (by decide) (by omega) ?_
                          refine pm_top (v := x20) ex20 ?_
                          refine pm_iloadi hG dX12_quarter_300 rfl ?_
                          refine pm_isub hG dX12_quarter_302 ?_
                          refine pm_iastN hG dX12_quarter_303 rfl (by decide) (by omega) ?_
                          refine mdn_now (fun n_41 en_41 => ?_)
                          have hnn_41 := KI.w en_41 hnn_14 (okv_f (by decide))
                          have hrn_41 := NRx.w en_41 hrn_14 (by decide)
                          have e42 : n_41 6 = nI k8 := by rw [en_41, pk_un (by omega)]; exact e15
                          have e43 : n_41 (6 * i7 + 1771) = x11 := by rw [en_41, pk_un (by omega)]; exact e16
                          have e44 : n_41 (6 * i7 + 1770) = nI 999999 := by rw [en_41, pk_un (by omega)]; exact e17
                          have e45 : n_41 (6 * i7 + 1772) = x18 := by rw [en_41, pk_un (by omega)]; exact ex18
                          have e46 : n_41 9 = x20 - x18 := by rw [en_41, pk_us]
                          refine pm_aloadn hG dX12_quarter_304 rfl ?_
                          refine pm_getf hG dX12_quarter_305 (flX12_7 _ rfl) rfl rfl ?_
                          refine pm_iloadn hG dX12_quarter_308 rfl ?_
                          refine pm_dup2 hG dX12_quarter_309 rfl rfl ?_
                          refine pm_ialdN hG dX12_quarter_310 rfl (by decide) (by omega) ?_
                          refine pm_top (v := nI 999999) e44 ?_
                          refine pm_iloadi hG dX12_quarter_311 rfl ?_
                          refine pm_isub hG dX12_quarter_313 ?_
                          refine pm_iastN hG dX12_quarter_314 rfl (by decide) (by omega) ?_
                          refine mdn_now (fun n_47 en_47 => ?_)
                          have hnn_47 := KI.w en_47 hnn_41 (okv_f (kd_D (k := i7) (c := 0) (by omega) (by omega) (by decide)))
                          have hrn_47 := NRx.w en_47 hrn_41 (by rw [(kd_D (k := i7) (c := 0) (by omega) (by omega) (by decide))]; rfl)
                          have e48 : n_47 6 = nI k8 := by rw [en_47, pk_un (by omega)]; exact e42
                          have e49 : n_47 (6 * i7 + 1771) = x11 := by rw [en_47, pk_un (by omega)]; exact e43
                          have e50 : n_47 (6 * i7 + 1772) = x18 := by rw [en_47, pk_un (by omega)]; exact e45
                          have e51 : n_47 9 = x20 - x18 := by rw [en_47, pk_un (by omega)]; exact e46
                          have e52 : n_47 (6 * i7 + 1770) = (nI 999999) - x18 := by rw [en_47, pk_us]
                          refine pm_goto (tgt := 363) hG dX12_quarter_315 rfl ?_
                          refine pm_iincX (v := nI (i7 + 1)) (loc' := [some (.ref (B + 54)), some (.int (nI (i7 + 1))), some (.int (nI (6 * i7 + 1770))), some (.int (x10 + x12)), some (.int x18)]) hG dX12_quarter_363 rfl (nI_1 _) (by decide) (pm_c1b rfl) rfl ?_
                          refine pm_goto (tgt := 180) hG dX12_quarter_366 rfl ?_
                          refine pm_fg 2 (loc' := [some (.ref (B + 54)), some (.int (nI (i7 + 1))), none, some (.int (x10 + x12)), some (.int x18)]) rfl ?_
                          refine pm_fg 3 (loc' := [some (.ref (B + 54)), some (.int (nI (i7 + 1))), none, none, some (.int x18)]) rfl ?_
                          refine pm_fg 4 (loc' := [some (.ref (B + 54)), some (.int (nI (i7 + 1))), none, none, none]) rfl ?_
                          exact ih7 n_47 (i7 + 1) hnn_47 hrn_47 (by omega) (by omega)
                      · refine pm_aloadn hG dX12_quarter_261 rfl ?_
                        refine pm_getf hG dX12_quarter_262 (flX12_7 _ rfl) rfl rfl ?_
                        refine pm_iloadn hG dX12_quarter_265 rfl ?_
                        refine pm_ialdN hG dX12_quarter_266 rfl (by decide) (by omega) ?_
                        refine pm_top (v := nI 999999) e17 ?_
                        refine pm_goto (tgt := 278) hG dX12_quarter_267 rfl ?_
                        refine pm_istoreXi (loc' := [some (.ref (B + 54)), some (.int (nI i7)), some (.int (nI (6 * i7 + 1770))), some (.int (x10 + x12)), some (.int (nI 999999))]) hG dX12_quarter_278 (by decide) (pm_c1b rfl) rfl ?_
                        refine pm_aloadn hG dX12_quarter_280 rfl ?_
                        refine pm_getf hG dX12_quarter_281 (flX12_7 _ rfl) rfl rfl ?_
                        refine pm_bipush (v := nI 9) hG dX12_quarter_284 (by decide) ?_
                        refine pm_ialdN hG dX12_quarter_286 rfl (by decide) (by omega) ?_
                        refine pm_gen (fun x53 ex53 => ?_)
                        refine pm_iloadi hG dX12_quarter_287 rfl ?_
                        refine pm_icmp_lt (tgt := 318) hG dX12_quarter_289 rfl (fun c54 => ?_) (fun c54 => ?_)
                        · refine pm_aloadn hG dX12_quarter_318 rfl ?_
                          refine pm_getf hG dX12_quarter_319 (flX12_7 _ rfl) rfl rfl ?_
                          refine pm_iloadn hG dX12_quarter_322 rfl ?_
                          refine pm_iconst (v := nI 3) hG dX12_quarter_323 (by decide) ?_
                          refine pm_iaddN (c := 6 * i7 + 1773) hG dX12_quarter_324 (by omega) ?_
                          refine pm_dup2 hG dX12_quarter_325 rfl rfl ?_
                          refine pm_ialdN hG dX12_quarter_326 rfl (by decide) (by omega) ?_
                          refine pm_gen (fun x55 ex55 => ?_)
                          refine pm_iconst (v := nI 1) hG dX12_quarter_327 (by decide) ?_
                          refine pm_iadd hG dX12_quarter_328 ?_
                          refine pm_iastN hG dX12_quarter_329 rfl (by decide) (by omega) ?_
                          refine mdn_now (fun n_56 en_56 => ?_)
                          have hnn_56 := KI.w en_56 hnn_14 (okv_f (kd_D (k := i7) (c := 3) (by omega) (by omega) (by decide)))
                          have hrn_56 := NRx.w en_56 hrn_14 (by rw [(kd_D (k := i7) (c := 3) (by omega) (by omega) (by decide))]; rfl)
                          have e57 : n_56 6 = nI k8 := by rw [en_56, pk_un (by omega)]; exact e15
                          have e58 : n_56 (6 * i7 + 1771) = x11 := by rw [en_56, pk_un (by omega)]; exact e16
                          have e59 : n_56 (6 * i7 + 1770) = nI 999999 := by rw [en_56, pk_un (by omega)]; exact e17
                          have e60 : n_56 (6 * i7 + 1772) = x18 := by rw [en_56, pk_un (by omega)]; exact ex18
                          have e61 : n_56 9 = x53 := by rw [en_56, pk_un (by omega)]; exact ex53
                          have e62 : n_56 (6 * i7 + 1773) = x55 + (nI 1) := by rw [en_56, pk_us]
                          refine pm_aloadn hG dX12_quarter_330 rfl ?_
                          refine pm_getf hG dX12_quarter_331 (flX12_7 _ rfl) rfl rfl ?_
                          refine pm_iloadn hG dX12_quarter_334 rfl ?_
                          refine pm_iconst (v := nI 3) hG dX12_quarter_335 (by decide) ?_
                          refine pm_iaddN (c := 6 * i7 + 1773) hG dX12_quarter_336 (by omega) ?_
                          refine pm_ialdN hG dX12_quarter_337 rfl (by decide) (by omega) ?_
                          refine pm_top (v := x55 + (nI 1)) e62 ?_
                          refine pm_iconst (v := nI 2) hG dX12_quarter_338 (by decide) ?_
                          refine pm_icmp_ne (tgt := 363) hG dX12_quarter_339 rfl (fun c63 => ?_) (fun c63 => ?_)
                          · refine pm_iincX (v := nI (i7 + 1)) (loc' := [some (.ref (B + 54)), some (.int (nI (i7 + 1))), some (.int (nI (6 * i7 + 1770))), some (.int (x10 + x12)), some (.int (nI 999999))]) hG dX12_quarter_363 rfl (nI_1 _) (by decide) (pm_c1b rfl) rfl ?_
                            refine pm_goto (tgt := 180) hG dX12_quarter_366 rfl ?_
                            refine pm_fg 2 (loc' := [some (.ref (B + 54)), some (.int (nI (i7 + 1))), none, some (.int (x10 + x12)), some (.int (nI 999999))]) rfl ?_
                            refine pm_fg 3 (loc' := [some (.ref (B + 54)), some (.int (nI (i7 + 1))), none, none, some (.int (nI 999999))]) rfl ?_
                            refine pm_fg 4 (loc' := [some (.ref (B + 54)), some (.int (nI (i7 + 1))), none, none, none]) rfl ?_
                            exact ih7 n_56 (i7 + 1) hnn_56 hrn_56 (by omega) (by omega)
                          · refine pm_aloadn hG dX12_quarter_342 rfl ?_
                            refine pm_getf hG dX12_quarter_343 (flX12_7 _ rfl) rfl rfl ?_
                            refine pm_bipush (v := nI 20) hG dX12_quarter_346 (by decide) ?_
                            refine pm_iconst (v := nI 3) hG dX12_quarter_348 (by decide) ?_
                            refine pm_aloadn hG dX12_quarter_349 rfl ?_
                            refine pm_getf hG dX12_quarter_350 (flX12_7 _ rfl) rfl rfl ?_
                            refine pm_iloadn hG dX12_quarter_353 rfl ?_
                            refine pm_iconst (v := nI 4) hG dX12_quarter_354 (by decide) ?_
                            refine pm_iaddN (c := 6 * i7 + 1774) hG dX12_quarter_355 (by omega) ?_
                            refine pm_ialdN hG dX12_quarter_356 rfl (by decide) (by omega) ?_
                            obtain ⟨k64, hk64, ek64⟩ := KI.nat hnn_56 (kd_D (k := i7) (c := 4) (by omega) (by omega) (by decide))
                            refine pm_top (v := nI k64) ek64 ?_
                            refine pm_imulN (c := 3 * k64) hG dX12_quarter_357 (by omega) ?_
                            refine pm_iaddN (c := 3 * k64 + 20) hG dX12_quarter_358 (by omega) ?_
                            refine pm_iconst (v := nI 2) hG dX12_quarter_359 (by decide) ?_
                            refine pm_iaddN (c := 3 * k64 + 22) hG dX12_quarter_360 (by omega) ?_
                            refine pm_iconst (v := nI 1) hG dX12_quarter_361 (by decide) ?_
                            refine pm_iastN hG dX12_quarter_362 rfl (by decide) (by omega) ?_
                            refine mdn_now (fun n_65 en_65 => ?_)
                            have hnn_65 := KI.w en_65 hnn_56 (okv_f (kd_T (k := k64) (c := 2) (by omega) (by omega) (by decide)))
                            have hrn_65 := NRx.w en_65 hrn_56 (by rw [(kd_T (k := k64) (c := 2) (by omega) (by omega) (by decide))]; rfl)
                            have e66 : n_65 6 = nI k8 := by rw [en_65, pk_un (by omega)]; exact e57
                            have e67 : n_65 (6 * i7 + 1771) = x11 := by rw [en_65, pk_un (by omega)]; exact e58
                            have e68 : n_65 (6 * i7 + 1770) = nI 999999 := by rw [en_65, pk_un (by omega)]; exact e59
                            have e69 : n_65 (6 * i7 + 1772) = x18 := by rw [en_65, pk_un (by omega)]; exact e60
                            have e70 : n_65 9 = x53 := by rw [en_65, pk_un (by omega)]; exact e61
                            have e71 : n_65 (6 * i7 + 1773) = x55 + (nI 1) := by rw [en_65, pk_un (by omega)]; exact e62
                            have e72 : n_65 (6 * i7 + 1774) = nI k64 := by rw [en_65, pk_un (by omega)]; exact ek64
                            have e73 : n_65 (3 * k64 + 22) = nI 1 := by rw [en_65, pk_us]
                            refine pm_iincX (v := nI (i7 + 1)) (loc' := [some (.ref (B + 54)), some (.int (nI (i7 + 1))), some (.int (nI (6 * i7 + 1770))), some (.int (x10 + x12)), some (.int (nI 999999))]) hG dX12_quarter_363 rfl (nI_1 _) (by decide) (pm_c1b rfl) rfl ?_
                            refine pm_goto (tgt := 180) hG dX12_quarter_366 rfl ?_
                            refine pm_fg 2 (loc' := [some (.ref (B + 54)), some (.int (nI (i7 + 1))), none, some (.int (x10 + x12)), some (.int (nI 999999))]) rfl ?_
                            refine pm_fg 3 (loc' := [some (.ref (B + 54)), some (.int (nI (i7 + 1))), none, none, some (.int (nI 999999))]) rfl ?_
                            refine pm_fg 4 (loc' := [some (.ref (B + 54)), some (.int (nI (i7 + 1))), none, none, none]) rfl ?_
                            exact ih7 n_65 (i7 + 1) hnn_65 hrn_65 (by omega) (by omega)
                        · refine pm_aloadn hG dX12_quarter_292 rfl ?_
                          refine pm_getf hG dX12_quarter_293 (flX12_7 _ rfl) rfl rfl ?_
                          refine pm_bipush (v := nI 9) hG dX12_quarter_296 (by decide) ?_
                          refine pm_dup2 hG dX12_quarter_298 rfl rfl ?_
                          refine pm_ialdN hG dX12_quarter_299 rfl (by decide) (by omega) ?_
                          refine pm_top (v := x53) ex53 ?_
                          refine pm_iloadi hG dX12_quarter_300 rfl ?_
                          refine pm_isub hG dX12_quarter_302 ?_
                          refine pm_iastN hG dX12_quarter_303 rfl (by decide) (by omega) ?_
                          refine mdn_now (fun n_74 en_74 => ?_)
                          have hnn_74 := KI.w en_74 hnn_14 (okv_f (by decide))
                          have hrn_74 := NRx.w en_74 hrn_14 (by decide)
                          have e75 : n_74 6 = nI k8 := by rw [en_74, pk_un (by omega)]; exact e15
                          have e76 : n_74 (6 * i7 + 1771) = x11 := by rw [en_74, pk_un (by omega)]; exact e16
                          have e77 : n_74 (6 * i7 + 1770) = nI 999999 := by rw [en_74, pk_un (by omega)]; exact e17
                          have e78 : n_74 (6 * i7 + 1772) = x18 := by rw [en_74, pk_un (by omega)]; exact ex18
                          have e79 : n_74 9 = x53 - (nI 999999) := by rw [en_74, pk_us]
                          refine pm_aloadn hG dX12_quarter_304 rfl ?_
                          refine pm_getf hG dX12_quarter_305 (flX12_7 _ rfl) rfl rfl ?_
                          refine pm_iloadn hG dX12_quarter_308 rfl ?_
                          refine pm_dup2 hG dX12_quarter_309 rfl rfl ?_
                          refine pm_ialdN hG dX12_quarter_310 rfl (by decide) (by omega) ?_
                          refine pm_top (v := nI 999999) e77 ?_
                          refine pm_iloadi hG dX12_quarter_311 rfl ?_
                          refine pm_isubN (c := 0) hG dX12_quarter_313 (by omega) ?_
                          refine pm_iastN hG dX12_quarter_314 rfl (by decide) (by omega) ?_
                          refine mdn_now (fun n_80 en_80 => ?_)
                          have hnn_80 := KI.w en_80 hnn_74 (okv_f (kd_D (k := i7) (c := 0) (by omega) (by omega) (by decide)))
                          have hrn_80 := NRx.w en_80 hrn_74 (by rw [(kd_D (k := i7) (c := 0) (by omega) (by omega) (by decide))]; rfl)
                          have e81 : n_80 6 = nI k8 := by rw [en_80, pk_un (by omega)]; exact e75
                          have e82 : n_80 (6 * i7 + 1771) = x11 := by rw [en_80, pk_un (by omega)]; exact e76
                          have e83 : n_80 (6 * i7 + 1772) = x18 := by rw [en_80, pk_un (by omega)]; exact e78
                          have e84 : n_80 9 = x53 - (nI 999999) := by rw [en_80, pk_un (by omega)]; exact e79
                          have e85 : n_80 (6 * i7 + 1770) = nI 0 := by rw [en_80, pk_us]
                          refine pm_goto (tgt := 363) hG dX12_quarter_315 rfl ?_
                          refine pm_iincX (v := nI (i7 + 1)) (loc' := [some (.ref (B + 54)), some (.int (nI (i7 + 1))), some (.int (nI (6 * i7 + 1770))), some (.int (x10 + x12)), some (.int (nI 999999))]) hG dX12_quarter_363 rfl (nI_1 _) (by decide) (pm_c1b rfl) rfl ?_
                          refine pm_goto (tgt := 180) hG dX12_quarter_366 rfl ?_
                          refine pm_fg 2 (loc' := [some (.ref (B + 54)), some (.int (nI (i7 + 1))), none, some (.int (x10 + x12)), some (.int (nI 999999))]) rfl ?_
                          refine pm_fg 3 (loc' := [some (.ref (B + 54)), some (.int (nI (i7 + 1))), none, none, some (.int (nI 999999))]) rfl ?_
                          refine pm_fg 4 (loc' := [some (.ref (B + 54)), some (.int (nI (i7 + 1))), none, none, none]) rfl ?_
                          exact ih7 n_80 (i7 + 1) hnn_80 hrn_80 (by omega) (by omega)
                    · refine pm_iloadn hG dX12_quarter_237 rfl ?_
                      refine pm_goto (tgt := 243) hG dX12_quarter_238 rfl ?_
                      refine pm_iastN hG dX12_quarter_243 rfl (by decide) (by omega) ?_
                      refine mdn_now (fun n_86 en_86 => ?_)
                      have hnn_86 := KI.w en_86 hnn_7 (okv_f (kd_D (k := i7) (c := 0) (by omega) (by omega) (by decide)))
                      have hrn_86 := NRx.w en_86 hrn_7 (by rw [(kd_D (k := i7) (c := 0) (by omega) (by omega) (by decide))]; rfl)
                      have e87 : n_86 6 = nI k8 := by rw [en_86, pk_un (by omega)]; exact ek8
                      have e88 : n_86 (6 * i7 + 1771) = x11 := by rw [en_86, pk_un (by omega)]; exact ex11
                      have e89 : n_86 (6 * i7 + 1770) = x10 + x12 := by rw [en_86, pk_us]
                      refine pm_aloadn hG dX12_quarter_244 rfl ?_
                      refine pm_getf hG dX12_quarter_245 (flX12_7 _ rfl) rfl rfl ?_
                      refine pm_iloadn hG dX12_quarter_248 rfl ?_
                      refine pm_ialdN hG dX12_quarter_249 rfl (by decide) (by omega) ?_
                      refine pm_top (v := x10 + x12) e89 ?_
                      refine pm_aloadn hG dX12_quarter_250 rfl ?_
                      refine pm_getf hG dX12_quarter_251 (flX12_7 _ rfl) rfl rfl ?_
                      refine pm_iloadn hG dX12_quarter_254 rfl ?_
                      refine pm_iconst (v := nI 2) hG dX12_quarter_255 (by decide) ?_
                      refine pm_iaddN (c := 6 * i7 + 1772) hG dX12_quarter_256 (by omega) ?_
                      refine pm_ialdN hG dX12_quarter_257 rfl (by decide) (by omega) ?_
                      refine pm_gen (fun x90 ex90 => ?_)
                      refine pm_icmp_ge (tgt := 270) hG dX12_quarter_258 rfl (fun c91 => ?_) (fun c91 => ?_)
                      · refine pm_aloadn hG dX12_quarter_270 rfl ?_
                        refine pm_getf hG dX12_quarter_271 (flX12_7 _ rfl) rfl rfl ?_
                        refine pm_iloadn hG dX12_quarter_274 rfl ?_
                        refine pm_iconst (v := nI 2) hG dX12_quarter_275 (by decide) ?_
                        refine pm_iaddN (c := 6 * i7 + 1772) hG dX12_quarter_276 (by omega) ?_
                        refine pm_ialdN hG dX12_quarter_277 rfl (by decide) (by omega) ?_
                        refine pm_top (v := x90) ex90 ?_
                        refine pm_istoreXi (loc' := [some (.ref (B + 54)), some (.int (nI i7)), some (.int (nI (6 * i7 + 1770))), some (.int (x10 + x12)), some (.int x90)]) hG dX12_quarter_278 (by decide) (pm_c1b rfl) rfl ?_
                        refine pm_aloadn hG dX12_quarter_280 rfl ?_
                        refine pm_getf hG dX12_quarter_281 (flX12_7 _ rfl) rfl rfl ?_
                        refine pm_bipush (v := nI 9) hG dX12_quarter_284 (by decide) ?_
                        refine pm_ialdN hG dX12_quarter_286 rfl (by decide) (by omega) ?_
                        refine pm_gen (fun x92 ex92 => ?_)
                        refine pm_iloadi hG dX12_quarter_287 rfl ?_
                        refine pm_icmp_lt (tgt := 318) hG dX12_quarter_289 rfl (fun c93 => ?_) (fun c93 => ?_)
                        · refine pm_aloadn hG dX12_quarter_318 rfl ?_
                          refine pm_getf hG dX12_quarter_319 (flX12_7 _ rfl) rfl rfl ?_
                          refine pm_iloadn hG dX12_quarter_322 rfl ?_
                          refine pm_iconst (v := nI 3) hG dX12_quarter_323 (by decide) ?_
                          refine pm_iaddN (c := 6 * i7 + 1773) hG dX12_quarter_324 (by omega) ?_
                          refine pm_dup2 hG dX12_quarter_325 rfl rfl ?_
                          refine pm_ialdN hG dX12_quarter_326 rfl (by decide) (by omega) ?_
                          refine pm_gen (fun x94 ex94 => ?_)
                          refine pm_iconst (v := nI 1) hG dX12_quarter_327 (by decide) ?_
                          refine pm_iadd hG dX12_quarter_328 ?_
                          refine pm_iastN hG dX12_quarter_329 rfl (by decide) (by omega) ?_
                          refine mdn_now (fun n_95 en_95 => ?_)
                          have hnn_95 := KI.w en_95 hnn_86 (okv_f (kd_D (k := i7) (c := 3) (by omega) (by omega) (by decide)))
                          have hrn_95 := NRx.w en_95 hrn_86 (by rw [(kd_D (k := i7) (c := 3) (by omega) (by omega) (by decide))]; rfl)
                          have e96 : n_95 6 = nI k8 := by rw [en_95, pk_un (by omega)]; exact e87
                          have e97 : n_95 (6 * i7 + 1771) = x11 := by rw [en_95, pk_un (by omega)]; exact e88
                          have e98 : n_95 (6 * i7 + 1770) = x10 + x12 := by rw [en_95, pk_un (by omega)]; exact e89
                          have e99 : n_95 (6 * i7 + 1772) = x90 := by rw [en_95, pk_un (by omega)]; exact ex90
                          have e100 : n_95 9 = x92 := by rw [en_95, pk_un (by omega)]; exact ex92
                          have e101 : n_95 (6 * i7 + 1773) = x94 + (nI 1) := by rw [en_95, pk_us]
                          refine pm_aloadn hG dX12_quarter_330 rfl ?_
                          refine pm_getf hG dX12_quarter_331 (flX12_7 _ rfl) rfl rfl ?_
                          refine pm_iloadn hG dX12_quarter_334 rfl ?_
                          refine pm_iconst (v := nI 3) hG dX12_quarter_335 (by decide) ?_
                          refine pm_iaddN (c := 6 * i7 + 1773) hG dX12_quarter_336 (by omega) ?_
                          refine pm_ialdN hG dX12_quarter_337 rfl (by decide) (by omega) ?_
                          refine pm_top (v := x94 + (nI 1)) e101 ?_
                          refine pm_iconst (v := nI 2) hG dX12_quarter_338 (by decide) ?_
                          refine pm_icmp_ne (tgt := 363) hG dX12_quarter_339 rfl (fun c102 => ?_) (fun c102 => ?_)
                          · refine pm_iincX (v := nI (i7 + 1)) (loc' := [some (.ref (B + 54)), some (.int (nI (i7 + 1))), some (.int (nI (6 * i7 + 1770))), some (.int (x10 + x12)), some (.int x90)]) hG dX12_quarter_363 rfl (nI_1 _) (by decide) (pm_c1b rfl) rfl ?_
                            refine pm_goto (tgt := 180) hG dX12_quarter_366 rfl ?_
                            refine pm_fg 2 (loc' := [some (.ref (B + 54)), some (.int (nI (i7 + 1))), none, some (.int (x10 + x12)), some (.int x90)]) rfl ?_
                            refine pm_fg 3 (loc' := [some (.ref (B + 54)), some (.int (nI (i7 + 1))), none, none, some (.int x90)]) rfl ?_
                            refine pm_fg 4 (loc' := [some (.ref (B + 54)), some (.int (nI (i7 + 1))), none, none, none]) rfl ?_
                            exact ih7 n_95 (i7 + 1) hnn_95 hrn_95 (by omega) (by omega)
                          · refine pm_aloadn hG dX12_quarter_342 rfl ?_
                            refine pm_getf hG dX12_quarter_343 (flX12_7 _ rfl) rfl rfl ?_
                            refine pm_bipush (v := nI 20) hG dX12_quarter_346 (by decide) ?_
                            refine pm_iconst (v := nI 3) hG dX12_quarter_348 (by decide) ?_
                            refine pm_aloadn hG dX12_quarter_349 rfl ?_
                            refine pm_getf hG dX12_quarter_350 (flX12_7 _ rfl) rfl rfl ?_
                            refine pm_iloadn hG dX12_quarter_353 rfl ?_
                            refine pm_iconst (v := nI 4) hG dX12_quarter_354 (by decide) ?_
                            refine pm_iaddN (c := 6 * i7 + 1774) hG dX12_quarter_355 (by omega) ?_
                            refine pm_ialdN hG dX12_quarter_356 rfl (by decide) (by omega) ?_
                            obtain ⟨k103, hk103, ek103⟩ := KI.nat hnn_95 (kd_D (k := i7) (c := 4) (by omega) (by omega) (by decide))
                            refine pm_top (v := nI k103) ek103 ?_
                            refine pm_imulN (c := 3 * k103) hG dX12_quarter_357 (by omega) ?_
                            refine pm_iaddN (c := 3 * k103 + 20) hG dX12_quarter_358 (by omega) ?_
                            refine pm_iconst (v := nI 2) hG dX12_quarter_359 (by decide) ?_
                            refine pm_iaddN (c := 3 * k103 + 22) hG dX12_quarter_360 (by omega) ?_
                            refine pm_iconst (v := nI 1) hG dX12_quarter_361 (by decide) ?_
                            refine pm_iastN hG dX12_quarter_362 rfl (by decide) (by omega) ?_
                            refine mdn_now (fun n_104 en_104 => ?_)
                            have hnn_104 := KI.w en_104 hnn_95 (okv_f (kd_T (k := k103) (c := 2) (by omega) (by omega) (by decide)))
                            have hrn_104 := NRx.w en_104 hrn_95 (by rw [(kd_T (k := k103) (c := 2) (by omega) (by omega) (by decide))]; rfl)
                            have e105 : n_104 6 = nI k8 := by rw [en_104, pk_un (by omega)]; exact e96
                            have e106 : n_104 (6 * i7 + 1771) = x11 := by rw [en_104, pk_un (by omega)]; exact e97
                            have e107 : n_104 (6 * i7 + 1770) = x10 + x12 := by rw [en_104, pk_un (by omega)]; exact e98
                            have e108 : n_104 (6 * i7 + 1772) = x90 := by rw [en_104, pk_un (by omega)]; exact e99
                            have e109 : n_104 9 = x92 := by rw [en_104, pk_un (by omega)]; exact e100
                            have e110 : n_104 (6 * i7 + 1773) = x94 + (nI 1) := by rw [en_104, pk_un (by omega)]; exact e101
                            have e111 : n_104 (6 * i7 + 1774) = nI k103 := by rw [en_104, pk_un (by omega)]; exact ek103
                            have e112 : n_104 (3 * k103 + 22) = nI 1 := by rw [en_104, pk_us]
                            refine pm_iincX (v := nI (i7 + 1)) (loc' := [some (.ref (B + 54)), some (.int (nI (i7 + 1))), some (.int (nI (6 * i7 + 1770))), some (.int (x10 + x12)), some (.int x90)]) hG dX12_quarter_363 rfl (nI_1 _) (by decide) (pm_c1b rfl) rfl ?_
                            refine pm_goto (tgt := 180) hG dX12_quarter_366 rfl ?_
                            refine pm_fg 2 (loc' := [some (.ref (B + 54)), some (.int (nI (i7 + 1))), none, some (.int (x10 + x12)), some (.int x90)]) rfl ?_
                            refine pm_fg 3 (loc' := [some (.ref (B + 54)), some (.int (nI (i7 + 1))), none, none, some (.int x90)]) rfl ?_
                            refine pm_fg 4 (loc' := [some (.ref (B + 54)), some (.int (nI (i7 + 1))), none, none, none]) rfl ?_
                            exact ih7 n_104 (i7 + 1) hnn_104 hrn_104 (by omega) (by omega)
                        · refine pm_aloadn hG dX12_quarter_292 rfl ?_
                          refine pm_getf hG dX12_quarter_293 (flX12_7 _ rfl) rfl rfl ?_
                          refine pm_bipush (v := nI 9) hG dX12_quarter_296 (by decide) ?_
                          refine pm_dup2 hG dX12_quarter_298 rfl rfl ?_
                          refine pm_ialdN hG dX12_quarter_299 rfl (by decide) (by omega) ?_
                          refine pm_top (v := x92) ex92 ?_
                          refine pm_iloadi hG dX12_quarter_300 rfl ?_
                          refine pm_isub hG dX12_quarter_302 ?_
                          refine pm_iastN hG dX12_quarter_303 rfl (by decide) (by omega) ?_
                          refine mdn_now (fun n_113 en_113 => ?_)
                          have hnn_113 := KI.w en_113 hnn_86 (okv_f (by decide))
                          have hrn_113 := NRx.w en_113 hrn_86 (by decide)
                          have e114 : n_113 6 = nI k8 := by rw [en_113, pk_un (by omega)]; exact e87
                          have e115 : n_113 (6 * i7 + 1771) = x11 := by rw [en_113, pk_un (by omega)]; exact e88
                          have e116 : n_113 (6 * i7 + 1770) = x10 + x12 := by rw [en_113, pk_un (by omega)]; exact e89
                          have e117 : n_113 (6 * i7 + 1772) = x90 := by rw [en_113, pk_un (by omega)]; exact ex90
                          have e118 : n_113 9 = x92 - x90 := by rw [en_113, pk_us]
                          refine pm_aloadn hG dX12_quarter_304 rfl ?_
                          refine pm_getf hG dX12_quarter_305 (flX12_7 _ rfl) rfl rfl ?_
                          refine pm_iloadn hG dX12_quarter_308 rfl ?_
                          refine pm_dup2 hG dX12_quarter_309 rfl rfl ?_
                          refine pm_ialdN hG dX12_quarter_310 rfl (by decide) (by omega) ?_
                          refine pm_top (v := x10 + x12) e116 ?_
                          refine pm_iloadi hG dX12_quarter_311 rfl ?_
                          refine pm_isub hG dX12_quarter_313 ?_
                          refine pm_iastN hG dX12_quarter_314 rfl (by decide) (by omega) ?_
                          refine mdn_now (fun n_119 en_119 => ?_)
                          have hnn_119 := KI.w en_119 hnn_113 (okv_f (kd_D (k := i7) (c := 0) (by omega) (by omega) (by decide)))
                          have hrn_119 := NRx.w en_119 hrn_113 (by rw [(kd_D (k := i7) (c := 0) (by omega) (by omega) (by decide))]; rfl)
                          have e120 : n_119 6 = nI k8 := by rw [en_119, pk_un (by omega)]; exact e114
                          have e121 : n_119 (6 * i7 + 1771) = x11 := by rw [en_119, pk_un (by omega)]; exact e115
                          have e122 : n_119 (6 * i7 + 1772) = x90 := by rw [en_119, pk_un (by omega)]; exact e117
                          have e123 : n_119 9 = x92 - x90 := by rw [en_119, pk_un (by omega)]; exact e118
                          have e124 : n_119 (6 * i7 + 1770) = (x10 + x12) - x90 := by rw [en_119, pk_us]
                          refine pm_goto (tgt := 363) hG dX12_quarter_315 rfl ?_
                          refine pm_iincX (v := nI (i7 + 1)) (loc' := [some (.ref (B + 54)), some (.int (nI (i7 + 1))), some (.int (nI (6 * i7 + 1770))), some (.int (x10 + x12)), some (.int x90)]) hG dX12_quarter_363 rfl (nI_1 _) (by decide) (pm_c1b rfl) rfl ?_
                          refine pm_goto (tgt := 180) hG dX12_quarter_366 rfl ?_
                          refine pm_fg 2 (loc' := [some (.ref (B + 54)), some (.int (nI (i7 + 1))), none, some (.int (x10 + x12)), some (.int x90)]) rfl ?_
                          refine pm_fg 3 (loc' := [some (.ref (B + 54)), some (.int (nI (i7 + 1))), none, none, some (.int x90)]) rfl ?_
                          refine pm_fg 4 (loc' := [some (.ref (B + 54)), some (.int (nI (i7 + 1))), none, none, none]) rfl ?_
                          exact ih7 n_119 (i7 + 1) hnn_119 hrn_119 (by omega) (by omega)
                      · refine pm_aloadn hG dX12_quarter_261 rfl ?_
                        refine pm_getf hG dX12_quarter_262 (flX12_7 _ rfl) rfl rfl ?_
                        refine pm_iloadn hG dX12_quarter_265 rfl ?_
                        refine pm_ialdN hG dX12_quarter_266 rfl (by decide) (by omega) ?_
                        refine pm_top (v := x10 + x12) e89 ?_
                        refine pm_goto (tgt := 278) hG dX12_quarter_267 rfl ?_
                        refine pm_istoreXi (loc' := [some (.ref (B + 54)), some (.int (nI i7)), some (.int (nI (6 * i7 + 1770))), some (.int (x10 + x12)), some (.int (x10 + x12))]) hG dX12_quarter_278 (by decide) (pm_c1b rfl) rfl ?_
                        refine pm_aloadn hG dX12_quarter_280 rfl ?_
                        refine pm_getf hG dX12_quarter_281 (flX12_7 _ rfl) rfl rfl ?_
                        refine pm_bipush (v := nI 9) hG dX12_quarter_284 (by decide) ?_
                        refine pm_ialdN hG dX12_quarter_286 rfl (by decide) (by omega) ?_
                        refine pm_gen (fun x125 ex125 => ?_)
                        refine pm_iloadi hG dX12_quarter_287 rfl ?_
                        refine pm_icmp_lt (tgt := 318) hG dX12_quarter_289 rfl (fun c126 => ?_) (fun c126 => ?_)
                        · refine pm_aloadn hG dX12_quarter_318 rfl ?_
                          refine pm_getf hG dX12_quarter_319 (flX12_7 _ rfl) rfl rfl ?_
                          refine pm_iloadn hG dX12_quarter_322 rfl ?_
                          refine pm_iconst (v := nI 3) hG dX12_quarter_323 (by decide) ?_
                          refine pm_iaddN (c := 6 * i7 + 1773) hG dX12_quarter_324 (by omega) ?_
                          refine pm_dup2 hG dX12_quarter_325 rfl rfl ?_
                          refine pm_ialdN hG dX12_quarter_326 rfl (by decide) (by omega) ?_
                          refine pm_gen (fun x127 ex127 => ?_)
                          refine pm_iconst (v := nI 1) hG dX12_quarter_327 (by decide) ?_
                          refine pm_iadd hG dX12_quarter_328 ?_
                          refine pm_iastN hG dX12_quarter_329 rfl (by decide) (by omega) ?_
                          refine mdn_now (fun n_128 en_128 => ?_)
                          have hnn_128 := KI.w en_128 hnn_86 (okv_f (kd_D (k := i7) (c := 3) (by omega) (by omega) (by decide)))
                          have hrn_128 := NRx.w en_128 hrn_86 (by rw [(kd_D (k := i7) (c := 3) (by omega) (by omega) (by decide))]; rfl)
                          have e129 : n_128 6 = nI k8 := by rw [en_128, pk_un (by omega)]; exact e87
                          have e130 : n_128 (6 * i7 + 1771) = x11 := by rw [en_128, pk_un (by omega)]; exact e88
                          have e131 : n_128 (6 * i7 + 1770) = x10 + x12 := by rw [en_128, pk_un (by omega)]; exact e89
                          have e132 : n_128 (6 * i7 + 1772) = x90 := by rw [en_128, pk_un (by omega)]; exact ex90
                          have e133 : n_128 9 = x125 := by rw [en_128, pk_un (by omega)]; exact ex125
                          have e134 : n_128 (6 * i7 + 1773) = x127 + (nI 1) := by rw [en_128, pk_us]
                          refine pm_aloadn hG dX12_quarter_330 rfl ?_
                          refine pm_getf hG dX12_quarter_331 (flX12_7 _ rfl) rfl rfl ?_
                          refine pm_iloadn hG dX12_quarter_334 rfl ?_
                          refine pm_iconst (v := nI 3) hG dX12_quarter_335 (by decide) ?_
                          refine pm_iaddN (c := 6 * i7 + 1773) hG dX12_quarter_336 (by omega) ?_
                          refine pm_ialdN hG dX12_quarter_337 rfl (by decide) (by omega) ?_
                          refine pm_top (v := x127 + (nI 1)) e134 ?_
                          refine pm_iconst (v := nI 2) hG dX12_quarter_338 (by decide) ?_
                          refine pm_icmp_ne (tgt := 363) hG dX12_quarter_339 rfl (fun c135 => ?_) (fun c135 => ?_)
                          · refine pm_iincX (v := nI (i7 + 1)) (loc' := [some (.ref (B + 54)), some (.int (nI (i7 + 1))), some (.int (nI (6 * i7 + 1770))), some (.int (x10 + x12)), some (.int (x10 + x12))]) hG dX12_quarter_363 rfl (nI_1 _) (by decide) (pm_c1b rfl) rfl ?_
                            refine pm_goto (tgt := 180) hG dX12_quarter_366 rfl ?_
                            refine pm_fg 2 (loc' := [some (.ref (B + 54)), some (.int (nI (i7 + 1))), none, some (.int (x10 + x12)), some (.int (x10 + x12))]) rfl ?_
                            refine pm_fg 3 (loc' := [some (.ref (B + 54)), some (.int (nI (i7 + 1))), none, none, some (.int (x10 + x12))]) rfl ?_
                            refine pm_fg 4 (loc' := [some (.ref (B + 54)), some (.int (nI (i7 + 1))), none, none, none]) rfl ?_
                            exact ih7 n_128 (i7 + 1) hnn_128 hrn_128 (by omega) (by omega)
                          · refine pm_aloadn hG dX12_quarter_342 rfl ?_
                            refine pm_getf hG dX12_quarter_343 (flX12_7 _ rfl) rfl rfl ?_
                            refine pm_bipush (v := nI 20) hG dX12_quarter_346 (by decide) ?_
                            refine pm_iconst (v := nI 3) hG dX12_quarter_348 (by decide) ?_
                            refine pm_aloadn hG dX12_quarter_349 rfl ?_
                            refine pm_getf hG dX12_quarter_350 (flX12_7 _ rfl) rfl rfl ?_
                            refine pm_iloadn hG dX12_quarter_353 rfl ?_
                            refine pm_iconst (v := nI 4) hG dX12_quarter_354 (by decide) ?_
                            refine pm_iaddN (c := 6 * i7 + 1774) hG dX12_quarter_355 (by omega) ?_
                            refine pm_ialdN hG dX12_quarter_356 rfl (by decide) (by omega) ?_
                            obtain ⟨k136, hk136, ek136⟩ := KI.nat hnn_128 (kd_D (k := i7) (c := 4) (by omega) (by omega) (by decide))
                            refine pm_top (v := nI k136) ek136 ?_
                            refine pm_imulN (c := 3 * k136) hG dX12_quarter_357 (by omega) ?_
                            refine pm_iaddN (c := 3 * k136 + 20) hG dX12_quarter_358 (by omega) ?_
                            refine pm_iconst (v := nI 2) hG dX12_quarter_359 (by decide) ?_
                            refine pm_iaddN (c := 3 * k136 + 22) hG dX12_quarter_360 (by omega) ?_
                            refine pm_iconst (v := nI 1) hG dX12_quarter_361 (by decide) ?_
                            refine pm_iastN hG dX12_quarter_362 rfl (by decide) (by omega) ?_
                            refine mdn_now (fun n_137 en_137 => ?_)
                            have hnn_137 := KI.w en_137 hnn_128 (okv_f (kd_T (k := k136) (c := 2) (by omega) (by omega) (by decide)))
                            have hrn_137 := NRx.w en_137 hrn_128 (by rw [(kd_T (k := k136) (c := 2) (by omega) (by omega) (by decide))]; rfl)
                            have e138 : n_137 6 = nI k8 := by rw [en_137, pk_un (by omega)]; exact e129
                            have e139 : n_137 (6 * i7 + 1771) = x11 := by rw [en_137, pk_un (by omega)]; exact e130
                            have e140 : n_137 (6 * i7 + 1770) = x10 + x12 := by rw [en_137, pk_un (by omega)]; exact e131
                            have e141 : n_137 (6 * i7 + 1772) = x90 := by rw [en_137, pk_un (by omega)]; exact e132
                            have e142 : n_137 9 = x125 := by rw [en_137, pk_un (by omega)]; exact e133
                            have e143 : n_137 (6 * i7 + 1773) = x127 + (nI 1) := by rw [en_137, pk_un (by omega)]; exact e134
                            have e144 : n_137 (6 * i7 + 1774) = nI k136 := by rw [en_137, pk_un (by omega)]; exact ek136
                            have e145 : n_137 (3 * k136 + 22) = nI 1 := by rw [en_137, pk_us]
                            refine pm_iincX (v := nI (i7 + 1)) (loc' := [some (.ref (B + 54)), some (.int (nI (i7 + 1))), some (.int (nI (6 * i7 + 1770))), some (.int (x10 + x12)), some (.int (x10 + x12))]) hG dX12_quarter_363 rfl (nI_1 _) (by decide) (pm_c1b rfl) rfl ?_
                            refine pm_goto (tgt := 180) hG dX12_quarter_366 rfl ?_
                            refine pm_fg 2 (loc' := [some (.ref (B + 54)), some (.int (nI (i7 + 1))), none, some (.int (x10 + x12)), some (.int (x10 + x12))]) rfl ?_
                            refine pm_fg 3 (loc' := [some (.ref (B + 54)), some (.int (nI (i7 + 1))), none, none, some (.int (x10 + x12))]) rfl ?_
                            refine pm_fg 4 (loc' := [some (.ref (B + 54)), some (.int (nI (i7 + 1))), none, none, none]) rfl ?_
                            exact ih7 n_137 (i7 + 1) hnn_137 hrn_137 (by omega) (by omega)
                        · refine pm_aloadn hG dX12_quarter_292 rfl ?_
                          refine pm_getf hG dX12_quarter_293 (flX12_7 _ rfl) rfl rfl ?_
                          refine pm_bipush (v := nI 9) hG dX12_quarter_296 (by decide) ?_
                          refine pm_dup2 hG dX12_quarter_298 rfl rfl ?_
                          refine pm_ialdN hG dX12_quarter_299 rfl (by decide) (by omega) ?_
                          refine pm_top (v := x125) ex125 ?_
                          refine pm_iloadi hG dX12_quarter_300 rfl ?_
                          refine pm_isub hG dX12_quarter_302 ?_
                          refine pm_iastN hG dX12_quarter_303 rfl (by decide) (by omega) ?_
                          refine mdn_now (fun n_146 en_146 => ?_)
                          have hnn_146 := KI.w en_146 hnn_86 (okv_f (by decide))
                          have hrn_146 := NRx.w en_146 hrn_86 (by decide)
                          have e147 : n_146 6 = nI k8 := by rw [en_146, pk_un (by omega)]; exact e87
                          have e148 : n_146 (6 * i7 + 1771) = x11 := by rw [en_146, pk_un (by omega)]; exact e88
                          have e149 : n_146 (6 * i7 + 1770) = x10 + x12 := by rw [en_146, pk_un (by omega)]; exact e89
                          have e150 : n_146 (6 * i7 + 1772) = x90 := by rw [en_146, pk_un (by omega)]; exact ex90
                          have e151 : n_146 9 = x125 - (x10 + x12) := by rw [en_146, pk_us]
                          refine pm_aloadn hG dX12_quarter_304 rfl ?_
                          refine pm_getf hG dX12_quarter_305 (flX12_7 _ rfl) rfl rfl ?_
                          refine pm_iloadn hG dX12_quarter_308 rfl ?_
                          refine pm_dup2 hG dX12_quarter_309 rfl rfl ?_
                          refine pm_ialdN hG dX12_quarter_310 rfl (by decide) (by omega) ?_
                          refine pm_top (v := x10 + x12) e149 ?_
                          refine pm_iloadi hG dX12_quarter_311 rfl ?_
                          refine pm_isub hG dX12_quarter_313 ?_
                          refine pm_iastN hG dX12_quarter_314 rfl (by decide) (by omega) ?_
                          refine mdn_now (fun n_152 en_152 => ?_)
                          have hnn_152 := KI.w en_152 hnn_146 (okv_f (kd_D (k := i7) (c := 0) (by omega) (by omega) (by decide)))
                          have hrn_152 := NRx.w en_152 hrn_146 (by rw [(kd_D (k := i7) (c := 0) (by omega) (by omega) (by decide))]; rfl)
                          have e153 : n_152 6 = nI k8 := by rw [en_152, pk_un (by omega)]; exact e147
                          have e154 : n_152 (6 * i7 + 1771) = x11 := by rw [en_152, pk_un (by omega)]; exact e148
                          have e155 : n_152 (6 * i7 + 1772) = x90 := by rw [en_152, pk_un (by omega)]; exact e150
                          have e156 : n_152 9 = x125 - (x10 + x12) := by rw [en_152, pk_un (by omega)]; exact e151
                          have e157 : n_152 (6 * i7 + 1770) = (x10 + x12) - (x10 + x12) := by rw [en_152, pk_us]
                          refine pm_goto (tgt := 363) hG dX12_quarter_315 rfl ?_
                          refine pm_iincX (v := nI (i7 + 1)) (loc' := [some (.ref (B + 54)), some (.int (nI (i7 + 1))), some (.int (nI (6 * i7 + 1770))), some (.int (x10 + x12)), some (.int (x10 + x12))]) hG dX12_quarter_363 rfl (nI_1 _) (by decide) (pm_c1b rfl) rfl ?_
                          refine pm_goto (tgt := 180) hG dX12_quarter_366 rfl ?_
                          refine pm_fg 2 (loc' := [some (.ref (B + 54)), some (.int (nI (i7 + 1))), none, some (.int (x10 + x12)), some (.int (x10 + x12))]) rfl ?_
                          refine pm_fg 3 (loc' := [some (.ref (B + 54)), some (.int (nI (i7 + 1))), none, none, some (.int (x10 + x12))]) rfl ?_
                          refine pm_fg 4 (loc' := [some (.ref (B + 54)), some (.int (nI (i7 + 1))), none, none, none]) rfl ?_
                          exact ih7 n_152 (i7 + 1) hnn_152 hrn_152 (by omega) (by omega)
              exact loop180_7 _ n_4 0 hnn_4 hrn_4 (by omega) (Nat.lt_succ_self _)
            · refine pm_aloadn hG dX12_quarter_113 rfl ?_
              refine pm_iloadn hG dX12_quarter_114 rfl ?_
              refine pm_bipush (v := nI 7) hG dX12_quarter_115 (by decide) ?_
              refine pm_callV (As := [.int (nI i4), .int (nI 7)]) (rest := []) hG hR dX12_quarter_117 (lkX12_72 _ rfl) okV_X12_man rfl rfl (m_man (d := 1) (e := 14 * i4 + 117) (by omega) (by omega) (by omega)) rfl rfl hdd (Nat.le_refl _) (Nat.le_refl _) (by decide) (pm_ki (fun v158 σ' cnt' hq => ?_))
              obtain ⟨rfl, rfl, rfl⟩ := hq
              refine pm_gen (fun x159 ex159 => ?_)
              refine pm_aloadn hG dX12_quarter_120 rfl ?_
              refine pm_iloadn hG dX12_quarter_121 rfl ?_
              refine pm_bipush (v := nI 8) hG dX12_quarter_122 (by decide) ?_
              refine pm_callV (As := [.int (nI i4), .int (nI 8)]) (rest := [.int x159]) hG hR dX12_quarter_124 (lkX12_72 _ rfl) okV_X12_man rfl rfl (m_man (d := 1) (e := 14 * i4 + 118) (by omega) (by omega) (by omega)) rfl rfl hdd (Nat.le_refl _) (Nat.le_refl _) (Nat.le_of_ble_eq_true rfl) (pm_ki (fun v160 σ' cnt' hq => ?_))
              obtain ⟨rfl, rfl, rfl⟩ := hq
              refine pm_gen (fun x161 ex161 => ?_)
              refine pm_icmp_ge (tgt := 140) hG dX12_quarter_127 rfl (fun c162 => ?_) (fun c162 => ?_)
              · refine pm_aloadn hG dX12_quarter_140 rfl ?_
                refine pm_iloadn hG dX12_quarter_141 rfl ?_
                refine pm_bipush (v := nI 8) hG dX12_quarter_142 (by decide) ?_
                refine pm_callV (As := [.int (nI i4), .int (nI 8)]) (rest := []) hG hR dX12_quarter_144 (lkX12_72 _ rfl) okV_X12_man rfl rfl (m_man (d := 1) (e := 14 * i4 + 118) (by omega) (by omega) (by omega)) rfl rfl hdd (Nat.le_refl _) (Nat.le_refl _) (by decide) (pm_ki (fun v163 σ' cnt' hq => ?_))
                obtain ⟨rfl, rfl, rfl⟩ := hq
                refine pm_top (v := x161) ex161 ?_
                refine pm_istoreXn (loc' := [some (.ref (B + 54)), some (.int (nI i4)), some (.int x161), none, none]) hG dX12_quarter_147 (by decide) (pm_c1b rfl) rfl ?_
                refine pm_aloadn hG dX12_quarter_148 rfl ?_
                refine pm_iloadn hG dX12_quarter_149 rfl ?_
                refine pm_bipush (v := nI 7) hG dX12_quarter_150 (by decide) ?_
                refine pm_aloadn hG dX12_quarter_152 rfl ?_
                refine pm_iloadn hG dX12_quarter_153 rfl ?_
                refine pm_bipush (v := nI 7) hG dX12_quarter_154 (by decide) ?_
                refine pm_callV (As := [.int (nI i4), .int (nI 7)]) (rest := [.int (nI 7), .int (nI i4), .ref (B + 54)]) hG hR dX12_quarter_156 (lkX12_72 _ rfl) okV_X12_man rfl rfl (m_man (d := 1) (e := 14 * i4 + 117) (by omega) (by omega) (by omega)) rfl rfl hdd (Nat.le_refl _) (Nat.le_refl _) (Nat.le_of_ble_eq_true rfl) (pm_ki (fun v164 σ' cnt' hq => ?_))
                obtain ⟨rfl, rfl, rfl⟩ := hq
                refine pm_top (v := x159) ex159 ?_
                refine pm_iloadn hG dX12_quarter_159 rfl ?_
                refine pm_isub hG dX12_quarter_160 ?_
                refine pm_callV (As := [.int (nI i4), .int (nI 7), .int (x159 - x161)]) (rest := []) hG hR dX12_quarter_161 (lkX12_97 _ rfl) okV_X12_sets rfl rfl (m_sets (d := 1) (e := 14 * i4 + 117) (by omega) (by omega) (by omega)) rfl rfl hdd (Nat.le_refl _) (Nat.le_refl _) (by decide) (pm_kv (fun σ' cnt' hq => ?_))
                obtain ⟨rfl, rfl⟩ := hq
                obtain ⟨n_165, en_165⟩ : ∃ f : Nat → Int32, f = upd n_4 (14 * i4 + 117) (x159 - x161) := ⟨_, rfl⟩
                rw [← en_165]
                have hnn_165 := KI.w en_165 hnn_4 (okv_f (kd_P (k := i4) (c := 7) (by omega) (by omega) (by decide)))
                have hrn_165 := NRx.w en_165 hrn_4 (by rw [(kd_P (k := i4) (c := 7) (by omega) (by omega) (by decide))]; rfl)
                have e166 : n_165 2 = nI k5 := by rw [en_165, pk_un (by omega)]; exact ek5
                have e167 : n_165 (14 * i4 + 118) = x161 := by rw [en_165, pk_un (by omega)]; exact ex161
                have e168 : n_165 (14 * i4 + 117) = x159 - x161 := by rw [en_165, pk_us]
                refine pm_aloadn hG dX12_quarter_164 rfl ?_
                refine pm_iloadn hG dX12_quarter_165 rfl ?_
                refine pm_bipush (v := nI 8) hG dX12_quarter_166 (by decide) ?_
                refine pm_iloadn hG dX12_quarter_168 rfl ?_
                refine pm_callV (As := [.int (nI i4), .int (nI 8), .int x161]) (rest := []) hG hR dX12_quarter_169 (lkX12_97 _ rfl) okV_X12_sets rfl rfl (m_sets (d := 1) (e := 14 * i4 + 118) (by omega) (by omega) (by omega)) rfl rfl hdd (Nat.le_refl _) (Nat.le_refl _) (by decide) (pm_kv (fun σ' cnt' hq => ?_))
                obtain ⟨rfl, rfl⟩ := hq
                obtain ⟨n_169, en_169⟩ : ∃ f : Nat → Int32, f = upd n_165 (14 * i4 + 118) x161 := ⟨_, rfl⟩
                rw [← en_169]
                have hnn_169 := KI.w en_169 hnn_165 (okv_f (kd_P (k := i4) (c := 8) (by omega) (by omega) (by decide)))
                have hrn_169 := NRx.w en_169 hrn_165 (by rw [(kd_P (k := i4) (c := 8) (by omega) (by omega) (by decide))]; rfl)
                have e170 : n_169 2 = nI k5 := by rw [en_169, pk_un (by omega)]; exact e166
                have e171 : n_169 (14 * i4 + 117) = x159 - x161 := by rw [en_169, pk_un (by omega)]; exact e168
                have e172 : n_169 (14 * i4 + 118) = x161 := by rw [en_169, pk_us]
                refine pm_iincX (v := nI (i4 + 1)) (loc' := [some (.ref (B + 54)), some (.int (nI (i4 + 1))), some (.int x161), none, none]) hG dX12_quarter_172 rfl (nI_1 _) (by decide) (pm_c1b rfl) rfl ?_
                refine pm_goto (tgt := 103) hG dX12_quarter_175 rfl ?_
                refine pm_fg 2 (loc' := [some (.ref (B + 54)), some (.int (nI (i4 + 1))), none, none, none]) rfl ?_
                exact ih4 n_169 (i4 + 1) hnn_169 hrn_169 (by omega) (by omega)
              · refine pm_aloadn hG dX12_quarter_130 rfl ?_
                refine pm_iloadn hG dX12_quarter_131 rfl ?_
                refine pm_bipush (v := nI 7) hG dX12_quarter_132 (by decide) ?_
                refine pm_callV (As := [.int (nI i4), .int (nI 7)]) (rest := []) hG hR dX12_quarter_134 (lkX12_72 _ rfl) okV_X12_man rfl rfl (m_man (d := 1) (e := 14 * i4 + 117) (by omega) (by omega) (by omega)) rfl rfl hdd (Nat.le_refl _) (Nat.le_refl _) (by decide) (pm_ki (fun v173 σ' cnt' hq => ?_))
                obtain ⟨rfl, rfl, rfl⟩ := hq
                refine pm_top (v := x159) ex159 ?_
                refine pm_goto (tgt := 147) hG dX12_quarter_137 rfl ?_
                refine pm_istoreXn (loc' := [some (.ref (B + 54)), some (.int (nI i4)), some (.int x159), none, none]) hG dX12_quarter_147 (by decide) (pm_c1b rfl) rfl ?_
                refine pm_aloadn hG dX12_quarter_148 rfl ?_
                refine pm_iloadn hG dX12_quarter_149 rfl ?_
                refine pm_bipush (v := nI 7) hG dX12_quarter_150 (by decide) ?_
                refine pm_aloadn hG dX12_quarter_152 rfl ?_
                refine pm_iloadn hG dX12_quarter_153 rfl ?_
                refine pm_bipush (v := nI 7) hG dX12_quarter_154 (by decide) ?_
                refine pm_callV (As := [.int (nI i4), .int (nI 7)]) (rest := [.int (nI 7), .int (nI i4), .ref (B + 54)]) hG hR dX12_quarter_156 (lkX12_72 _ rfl) okV_X12_man rfl rfl (m_man (d := 1) (e := 14 * i4 + 117) (by omega) (by omega) (by omega)) rfl rfl hdd (Nat.le_refl _) (Nat.le_refl _) (Nat.le_of_ble_eq_true rfl) (pm_ki (fun v174 σ' cnt' hq => ?_))
                obtain ⟨rfl, rfl, rfl⟩ := hq
                refine pm_top (v := x159) ex159 ?_
                refine pm_iloadn hG dX12_quarter_159 rfl ?_
                refine pm_isub hG dX12_quarter_160 ?_
                refine pm_callV (As := [.int (nI i4), .int (nI 7), .int (x159 - x159)]) (rest := []) hG hR dX12_quarter_161 (lkX12_97 _ rfl) okV_X12_sets rfl rfl (m_sets (d := 1) (e := 14 * i4 + 117) (by omega) (by omega) (by omega)) rfl rfl hdd (Nat.le_refl _) (Nat.le_refl _) (by decide) (pm_kv (fun σ' cnt' hq => ?_))
                obtain ⟨rfl, rfl⟩ := hq
                obtain ⟨n_175, en_175⟩ : ∃ f : Nat → Int32, f = upd n_4 (14 * i4 + 117) (x159 - x159) := ⟨_, rfl⟩
                rw [← en_175]
                have hnn_175 := KI.w en_175 hnn_4 (okv_f (kd_P (k := i4) (c := 7) (by omega) (by omega) (by decide)))
                have hrn_175 := NRx.w en_175 hrn_4 (by rw [(kd_P (k := i4) (c := 7) (by omega) (by omega) (by decide))]; rfl)
                have e176 : n_175 2 = nI k5 := by rw [en_175, pk_un (by omega)]; exact ek5
                have e177 : n_175 (14 * i4 + 118) = x161 := by rw [en_175, pk_un (by omega)]; exact ex161
                have e178 : n_175 (14 * i4 + 117) = x159 - x159 := by rw [en_175, pk_us]
                refine pm_aloadn hG dX12_quarter_164 rfl ?_
                refine pm_iloadn hG dX12_quarter_165 rfl ?_
                refine pm_bipush (v := nI 8) hG dX12_quarter_166 (by decide) ?_
                refine pm_iloadn hG dX12_quarter_168 rfl ?_
                refine pm_callV (As := [.int (nI i4), .int (nI 8), .int x159]) (rest := []) hG hR dX12_quarter_169 (lkX12_97 _ rfl) okV_X12_sets rfl rfl (m_sets (d := 1) (e := 14 * i4 + 118) (by omega) (by omega) (by omega)) rfl rfl hdd (Nat.le_refl _) (Nat.le_refl _) (by decide) (pm_kv (fun σ' cnt' hq => ?_))
                obtain ⟨rfl, rfl⟩ := hq
                obtain ⟨n_179, en_179⟩ : ∃ f : Nat → Int32, f = upd n_175 (14 * i4 + 118) x159 := ⟨_, rfl⟩
                rw [← en_179]
                have hnn_179 := KI.w en_179 hnn_175 (okv_f (kd_P (k := i4) (c := 8) (by omega) (by omega) (by decide)))
                have hrn_179 := NRx.w en_179 hrn_175 (by rw [(kd_P (k := i4) (c := 8) (by omega) (by omega) (by decide))]; rfl)
                have e180 : n_179 2 = nI k5 := by rw [en_179, pk_un (by omega)]; exact e176
                have e181 : n_179 (14 * i4 + 117) = x159 - x159 := by rw [en_179, pk_un (by omega)]; exact e178
                have e182 : n_179 (14 * i4 + 118) = x159 := by rw [en_179, pk_us]
                refine pm_iincX (v := nI (i4 + 1)) (loc' := [some (.ref (B + 54)), some (.int (nI (i4 + 1))), some (.int x159), none, none]) hG dX12_quarter_172 rfl (nI_1 _) (by decide) (pm_c1b rfl) rfl ?_
                refine pm_goto (tgt := 103) hG dX12_quarter_175 rfl ?_
                refine pm_fg 2 (loc' := [some (.ref (B + 54)), some (.int (nI (i4 + 1))), none, none, none]) rfl ?_
                exact ih4 n_179 (i4 + 1) hnn_179 hrn_179 (by omega) (by omega)
        exact loop103_4 _ n_1 0 hnn_1 hrn_1 (by omega) (Nat.lt_succ_self _)
      · refine pm_bipush (v := nI 20) hG dX12_quarter_12 (by decide) ?_
        refine pm_iconst (v := nI 3) hG dX12_quarter_14 (by decide) ?_
        refine pm_iloadn hG dX12_quarter_15 rfl ?_
        refine pm_imulN (c := 3 * i1) hG dX12_quarter_16 (by omega) ?_
        refine pm_iaddN (c := 3 * i1 + 20) hG dX12_quarter_17 (by omega) ?_
        refine pm_istoreXn (loc' := [some (.ref (B + 54)), some (.int (nI i1)), some (.int (nI (3 * i1 + 20))), none, none]) hG dX12_quarter_18 (by decide) (pm_c1b rfl) rfl ?_
        refine pm_aloadn hG dX12_quarter_19 rfl ?_
        refine pm_getf hG dX12_quarter_20 (flX12_7 _ rfl) rfl rfl ?_
        refine pm_iloadn hG dX12_quarter_23 rfl ?_
        refine pm_iconst (v := nI 1) hG dX12_quarter_24 (by decide) ?_
        refine pm_iaddN (c := 3 * i1 + 21) hG dX12_quarter_25 (by omega) ?_
        refine pm_ialdN hG dX12_quarter_26 rfl (by decide) (by omega) ?_
        rcases KI.opt hnn_1 (kd_T (k := i1) (c := 1) (by omega) (by omega) (by decide)) with ek183 | ⟨k183, hk183, ek183⟩
        · refine pm_top (v := (-1)) ek183 ?_
          refine pm_istoreXn (loc' := [some (.ref (B + 54)), some (.int (nI i1)), some (.int (nI (3 * i1 + 20))), some (.int (-1)), none]) hG dX12_quarter_27 (by decide) (pm_c1b rfl) rfl ?_
          refine pm_aloadn hG dX12_quarter_28 rfl ?_
          refine pm_getf hG dX12_quarter_29 (flX12_7 _ rfl) rfl rfl ?_
          refine pm_iloadn hG dX12_quarter_32 rfl ?_
          refine pm_iconst (v := nI 2) hG dX12_quarter_33 (by decide) ?_
          refine pm_iaddN (c := 3 * i1 + 22) hG dX12_quarter_34 (by omega) ?_
          refine pm_ialdN hG dX12_quarter_35 rfl (by decide) (by omega) ?_
          refine pm_gen (fun x184 ex184 => ?_)
          refine pm_iconst (v := nI 1) hG dX12_quarter_36 (by decide) ?_
          refine pm_icmp_ne (tgt := 43) hG dX12_quarter_37 rfl (fun c185 => ?_) (fun c185 => ?_)
          · refine pm_iloadn hG dX12_quarter_43 rfl ?_
            refine pm_if_lt (tgt := 79) hG dX12_quarter_44 rfl (fun _ => ?_) (fun q => absurd q (by decide))
            refine pm_aloadn hG dX12_quarter_79 rfl ?_
            refine pm_getf hG dX12_quarter_80 (flX12_7 _ rfl) rfl rfl ?_
            refine pm_bipush (v := nI 9) hG dX12_quarter_83 (by decide) ?_
            refine pm_dup2 hG dX12_quarter_85 rfl rfl ?_
            refine pm_ialdN hG dX12_quarter_86 rfl (by decide) (by omega) ?_
            refine pm_gen (fun x186 ex186 => ?_)
            refine pm_aloadn hG dX12_quarter_87 rfl ?_
            refine pm_getf hG dX12_quarter_88 (flX12_7 _ rfl) rfl rfl ?_
            refine pm_iloadn hG dX12_quarter_91 rfl ?_
            refine pm_ialdN hG dX12_quarter_92 rfl (by decide) (by omega) ?_
            refine pm_gen (fun x187 ex187 => ?_)
            refine pm_iadd hG dX12_quarter_93 ?_
            refine pm_iastN hG dX12_quarter_94 rfl (by decide) (by omega) ?_
            refine mdn_now (fun n_188 en_188 => ?_)
            have hnn_188 := KI.w en_188 hnn_1 (okv_f (by decide))
            have hrn_188 := NRx.w en_188 hrn_1 (by decide)
            have e189 : n_188 0 = nI k2 := by rw [en_188, pk_un (by omega)]; exact ek2
            have e190 : n_188 (3 * i1 + 21) = (-1) := by rw [en_188, pk_un (by omega)]; exact ek183
            have e191 : n_188 (3 * i1 + 22) = x184 := by rw [en_188, pk_un (by omega)]; exact ex184
            have e192 : n_188 (3 * i1 + 20) = x187 := by rw [en_188, pk_un (by omega)]; exact ex187
            have e193 : n_188 9 = x186 + x187 := by rw [en_188, pk_us]
            refine pm_iincX (v := nI (i1 + 1)) (loc' := [some (.ref (B + 54)), some (.int (nI (i1 + 1))), some (.int (nI (3 * i1 + 20))), some (.int (-1)), none]) hG dX12_quarter_95 rfl (nI_1 _) (by decide) (pm_c1b rfl) rfl ?_
            refine pm_goto (tgt := 2) hG dX12_quarter_98 rfl ?_
            refine pm_fg 2 (loc' := [some (.ref (B + 54)), some (.int (nI (i1 + 1))), none, some (.int (-1)), none]) rfl ?_
            refine pm_fg 3 (loc' := [some (.ref (B + 54)), some (.int (nI (i1 + 1))), none, none, none]) rfl ?_
            exact ih1 n_188 (i1 + 1) hnn_188 hrn_188 (by omega) (by omega)
          · refine pm_goto (tgt := 95) hG dX12_quarter_40 rfl ?_
            refine pm_iincX (v := nI (i1 + 1)) (loc' := [some (.ref (B + 54)), some (.int (nI (i1 + 1))), some (.int (nI (3 * i1 + 20))), some (.int (-1)), none]) hG dX12_quarter_95 rfl (nI_1 _) (by decide) (pm_c1b rfl) rfl ?_
            refine pm_goto (tgt := 2) hG dX12_quarter_98 rfl ?_
            refine pm_fg 2 (loc' := [some (.ref (B + 54)), some (.int (nI (i1 + 1))), none, some (.int (-1)), none]) rfl ?_
            refine pm_fg 3 (loc' := [some (.ref (B + 54)), some (.int (nI (i1 + 1))), none, none, none]) rfl ?_
            exact ih1 n_1 (i1 + 1) hnn_1 hrn_1 (by omega) (by omega)
        · refine pm_top (v := nI k183) ek183 ?_
          refine pm_istoreXn (loc' := [some (.ref (B + 54)), some (.int (nI i1)), some (.int (nI (3 * i1 + 20))), some (.int (nI k183)), none]) hG dX12_quarter_27 (by decide) (pm_c1b rfl) rfl ?_
          refine pm_aloadn hG dX12_quarter_28 rfl ?_
          refine pm_getf hG dX12_quarter_29 (flX12_7 _ rfl) rfl rfl ?_
          refine pm_iloadn hG dX12_quarter_32 rfl ?_
          refine pm_iconst (v := nI 2) hG dX12_quarter_33 (by decide) ?_
          refine pm_iaddN (c := 3 * i1 + 22) hG dX12_quarter_34 (by omega) ?_
          refine pm_ialdN hG dX12_quarter_35 rfl (by decide) (by omega) ?_
          refine pm_gen (fun x194 ex194 => ?_)
          refine pm_iconst (v := nI 1) hG dX12_quarter_36 (by decide) ?_
          refine pm_icmp_ne (tgt := 43) hG dX12_quarter_37 rfl (fun c195 => ?_) (fun c195 => ?_)
          · refine pm_iloadn hG dX12_quarter_43 rfl ?_
            refine pm_ifN_lt hG dX12_quarter_44 rfl (by omega) ?_
            refine pm_aloadn hG dX12_quarter_47 rfl ?_
            refine pm_iloadn hG dX12_quarter_48 rfl ?_
            rcases KI.opt hnn_1 (kd_P (k := k183) (c := 9) (by omega) (by omega) (by decide)) with ek196 | ⟨k196, hk196, ek196⟩
            · refine pm_callV (As := [.int (nI k183)]) (rest := []) hG hR dX12_quarter_49 (lkX12_101 _ rfl) okV_X12_lives rfl rfl (m_lives1 (d := 1) (by decide) (by omega) (by omega : 14 * k183 + 119 = 14 * k183 + 119) ek196) rfl rfl hdd (Nat.le_refl _) (Nat.le_refl _) (by decide) (pm_ki (fun v197 σ' cnt' hq => ?_))
              obtain ⟨rfl, rfl, rfl⟩ := hq
              refine pm_ifN_eq (tgt := 79) hG dX12_quarter_52 rfl (by omega) (fun q => absurd q (by omega)) (fun _ => ?_)
              refine pm_aloadn hG dX12_quarter_55 rfl ?_
              refine pm_iloadn hG dX12_quarter_56 rfl ?_
              refine pm_bipush (v := nI 7) hG dX12_quarter_57 (by decide) ?_
              refine pm_aloadn hG dX12_quarter_59 rfl ?_
              refine pm_iloadn hG dX12_quarter_60 rfl ?_
              refine pm_bipush (v := nI 7) hG dX12_quarter_61 (by decide) ?_
              refine pm_callV (As := [.int (nI k183), .int (nI 7)]) (rest := [.int (nI 7), .int (nI k183), .ref (B + 54)]) hG hR dX12_quarter_63 (lkX12_72 _ rfl) okV_X12_man rfl rfl (m_man (d := 1) (e := 14 * k183 + 117) (by omega) (by omega) (by omega)) rfl rfl hdd (Nat.le_refl _) (Nat.le_refl _) (Nat.le_of_ble_eq_true rfl) (pm_ki (fun v198 σ' cnt' hq => ?_))
              obtain ⟨rfl, rfl, rfl⟩ := hq
              refine pm_gen (fun x199 ex199 => ?_)
              refine pm_aloadn hG dX12_quarter_66 rfl ?_
              refine pm_getf hG dX12_quarter_67 (flX12_7 _ rfl) rfl rfl ?_
              refine pm_iloadn hG dX12_quarter_70 rfl ?_
              refine pm_ialdN hG dX12_quarter_71 rfl (by decide) (by omega) ?_
              refine pm_gen (fun x200 ex200 => ?_)
              refine pm_iadd hG dX12_quarter_72 ?_
              refine pm_callV (As := [.int (nI k183), .int (nI 7), .int (x199 + x200)]) (rest := []) hG hR dX12_quarter_73 (lkX12_97 _ rfl) okV_X12_sets rfl rfl (m_sets (d := 1) (e := 14 * k183 + 117) (by omega) (by omega) (by omega)) rfl rfl hdd (Nat.le_refl _) (Nat.le_refl _) (by decide) (pm_kv (fun σ' cnt' hq => ?_))
              obtain ⟨rfl, rfl⟩ := hq
              obtain ⟨n_201, en_201⟩ : ∃ f : Nat → Int32, f = upd n_1 (14 * k183 + 117) (x199 + x200) := ⟨_, rfl⟩
              rw [← en_201]
              have hnn_201 := KI.w en_201 hnn_1 (okv_f (kd_P (k := k183) (c := 7) (by omega) (by omega) (by decide)))
              have hrn_201 := NRx.w en_201 hrn_1 (by rw [(kd_P (k := k183) (c := 7) (by omega) (by omega) (by decide))]; rfl)
              have e202 : n_201 0 = nI k2 := by rw [en_201, pk_un (by omega)]; exact ek2
              have e203 : n_201 (3 * i1 + 21) = nI k183 := by rw [en_201, pk_un (by omega)]; exact ek183
              have e204 : n_201 (3 * i1 + 22) = x194 := by rw [en_201, pk_un (by omega)]; exact ex194
              have e205 : n_201 (14 * k183 + 119) = (-1) := by rw [en_201, pk_un (by omega)]; exact ek196
              have e206 : n_201 (3 * i1 + 20) = x200 := by rw [en_201, pk_un (by omega)]; exact ex200
              have e207 : n_201 (14 * k183 + 117) = x199 + x200 := by rw [en_201, pk_us]
              refine pm_goto (tgt := 95) hG dX12_quarter_76 rfl ?_
              refine pm_iincX (v := nI (i1 + 1)) (loc' := [some (.ref (B + 54)), some (.int (nI (i1 + 1))), some (.int (nI (3 * i1 + 20))), some (.int (nI k183)), none]) hG dX12_quarter_95 rfl (nI_1 _) (by decide) (pm_c1b rfl) rfl ?_
              refine pm_goto (tgt := 2) hG dX12_quarter_98 rfl ?_
              refine pm_fg 2 (loc' := [some (.ref (B + 54)), some (.int (nI (i1 + 1))), none, some (.int (nI k183)), none]) rfl ?_
              refine pm_fg 3 (loc' := [some (.ref (B + 54)), some (.int (nI (i1 + 1))), none, none, none]) rfl ?_
              exact ih1 n_201 (i1 + 1) hnn_201 hrn_201 (by omega) (by omega)
            · refine pm_callV (As := [.int (nI k183)]) (rest := []) hG hR dX12_quarter_49 (lkX12_101 _ rfl) okV_X12_lives rfl rfl (m_lives0 (d := 1) (by decide) (by omega) (by omega : 14 * k183 + 119 = 14 * k183 + 119) ek196 (by omega)) rfl rfl hdd (Nat.le_refl _) (Nat.le_refl _) (by decide) (pm_ki (fun v208 σ' cnt' hq => ?_))
              obtain ⟨rfl, rfl, rfl⟩ := hq
              refine pm_ifN_eq (tgt := 79) hG dX12_quarter_52 rfl (by omega) (fun _ => ?_) (fun q => absurd q (by omega))
              refine pm_aloadn hG dX12_quarter_79 rfl ?_
              refine pm_getf hG dX12_quarter_80 (flX12_7 _ rfl) rfl rfl ?_
              refine pm_bipush (v := nI 9) hG dX12_quarter_83 (by decide) ?_
              refine pm_dup2 hG dX12_quarter_85 rfl rfl ?_
              refine pm_ialdN hG dX12_quarter_86 rfl (by decide) (by omega) ?_
              refine pm_gen (fun x209 ex209 => ?_)
              refine pm_aloadn hG dX12_quarter_87 rfl ?_
              refine pm_getf hG dX12_quarter_88 (flX12_7 _ rfl) rfl rfl ?_
              refine pm_iloadn hG dX12_quarter_91 rfl ?_
              refine pm_ialdN hG dX12_quarter_92 rfl (by decide) (by omega) ?_
              refine pm_gen (fun x210 ex210 => ?_)
              refine pm_iadd hG dX12_quarter_93 ?_
              refine pm_iastN hG dX12_quarter_94 rfl (by decide) (by omega) ?_
              refine mdn_now (fun n_211 en_211 => ?_)
              have hnn_211 := KI.w en_211 hnn_1 (okv_f (by decide))
              have hrn_211 := NRx.w en_211 hrn_1 (by decide)
              have e212 : n_211 0 = nI k2 := by rw [en_211, pk_un (by omega)]; exact ek2
              have e213 : n_211 (3 * i1 + 21) = nI k183 := by rw [en_211, pk_un (by omega)]; exact ek183
              have e214 : n_211 (3 * i1 + 22) = x194 := by rw [en_211, pk_un (by omega)]; exact ex194
              have e215 : n_211 (14 * k183 + 119) = nI k196 := by rw [en_211, pk_un (by omega)]; exact ek196
              have e216 : n_211 (3 * i1 + 20) = x210 := by rw [en_211, pk_un (by omega)]; exact ex210
              have e217 : n_211 9 = x209 + x210 := by rw [en_211, pk_us]
              refine pm_iincX (v := nI (i1 + 1)) (loc' := [some (.ref (B + 54)), some (.int (nI (i1 + 1))), some (.int (nI (3 * i1 + 20))), some (.int (nI k183)), none]) hG dX12_quarter_95 rfl (nI_1 _) (by decide) (pm_c1b rfl) rfl ?_
              refine pm_goto (tgt := 2) hG dX12_quarter_98 rfl ?_
              refine pm_fg 2 (loc' := [some (.ref (B + 54)), some (.int (nI (i1 + 1))), none, some (.int (nI k183)), none]) rfl ?_
              refine pm_fg 3 (loc' := [some (.ref (B + 54)), some (.int (nI (i1 + 1))), none, none, none]) rfl ?_
              exact ih1 n_211 (i1 + 1) hnn_211 hrn_211 (by omega) (by omega)
          · refine pm_goto (tgt := 95) hG dX12_quarter_40 rfl ?_
            refine pm_iincX (v := nI (i1 + 1)) (loc' := [some (.ref (B + 54)), some (.int (nI (i1 + 1))), some (.int (nI (3 * i1 + 20))), some (.int (nI k183)), none]) hG dX12_quarter_95 rfl (nI_1 _) (by decide) (pm_c1b rfl) rfl ?_
            refine pm_goto (tgt := 2) hG dX12_quarter_98 rfl ?_
            refine pm_fg 2 (loc' := [some (.ref (B + 54)), some (.int (nI (i1 + 1))), none, some (.int (nI k183)), none]) rfl ?_
            refine pm_fg 3 (loc' := [some (.ref (B + 54)), some (.int (nI (i1 + 1))), none, none, none]) rfl ?_
            exact ih1 n_1 (i1 + 1) hnn_1 hrn_1 (by omega) (by omega)
  exact loop2_1 _ n 0 hn hr (by omega) (Nat.lt_succ_self _)
