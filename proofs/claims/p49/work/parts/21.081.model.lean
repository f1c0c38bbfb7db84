set_option maxRecDepth 100000 in
set_option maxHeartbeats 4000000 in
theorem m_pay {d B cnt p0 t0 : Nat} {σ : pm_S} {I : Nat → Int32} {A : Nat → Nat → Int32} {n k z : Nat → Int32} {ac wt pl im : Int32} {y : Nat → Int32} {za zb : Int32} (hdd : 2 ≤ d) (hn : KI n) (hr : NR n) (hz : SZ z)  : pm_met mX12_pay d 0 0 B [.ref (B + 54), .int za, .int zb] cnt (pm_mid σ (md_L B I A n k z ac wt pl (nI p0) (nI t0) im y)) (pm_Qi (fun v σ' cnt' => (∃ (I' : Nat → Int32) (A' : Nat → Nat → Int32) (n' : Nat → Int32), σ' = pm_mid σ (md_L B I' A' n' k z ac wt pl (nI p0) (nI t0) im y) ∧ KI n' ∧ NR n') ∧ cnt = cnt')) := by
  refine pm_enter 0 (by decide) (Nat.le_of_ble_eq_true rfl) rfl (fun G hG hR hF => ?_)
  refine pm_aloadn hG dX12_pay_0 rfl ?_
  refine pm_iloadn hG dX12_pay_1 rfl ?_
  obtain ⟨k1, hk1, ek1⟩ := KI.nat hn (show kd 2 = (1, 21, true) by decide)
  refine pm_callV (As := [.int za]) (rest := []) hG hR dX12_pay_2 (lkX12_91 _ rfl) okV_X12_isPerson rfl rfl (m_isPerson (d := 1) (by decide) ek1 (by omega)) rfl rfl hdd (Nat.le_refl _) (Nat.le_refl _) (by decide) (pm_ki (fun v2 σ' cnt' hq => ?_))
  obtain ⟨hq, rfl, rfl⟩ := hq
  rcases hq with ⟨rfl, k4, hk4, ek4⟩ | rfl
  · refine pm_ifN_eq (tgt := 19) hG dX12_pay_5 rfl (by omega) (fun q => absurd q (by omega)) (fun _ => ?_)
    refine pm_iloadn hG dX12_pay_8 rfl ?_
    refine pm_iconst (v := nI 1) hG dX12_pay_9 (by decide) ?_
    refine pm_sipush (v := nI 9999) hG dX12_pay_10 (by decide) ?_
    refine pm_callS (As := [.int zb, .int (nI 1), .int (nI 9999)]) (rest := []) hG hR dX12_pay_13 (lkX12_68 _ rfl) okS_X12_in (m_in (d := 1)) rfl rfl hdd (Nat.le_refl _) (Nat.le_refl _) (by decide) (pm_ki (fun v5 σ' cnt' hq => ?_))
    obtain ⟨hq, rfl, rfl⟩ := hq
    rcases hq with ⟨rfl, ac6, bc6⟩ | ⟨rfl, c6⟩
    · obtain ⟨k7, hk7, ek7⟩ := in_nat (by omega) (by omega) ac6 bc6
      refine pm_ifN_ne (tgt := 25) hG dX12_pay_16 rfl (by omega) (fun _ => ?_) (fun q => absurd q (by omega))
      refine pm_aloadn hG dX12_pay_25 rfl ?_
      refine pm_iloadn hG dX12_pay_26 rfl ?_
      refine pm_top (v := nI k4) ek4 ?_
      rcases KI.opt hn (show kd (14 * k4 + 119) = (2, 2001, false) from (kd_P (k := k4) (c := 9) (by omega) (by omega) (by decide))) with ek8 | ⟨k8, hk8, ek8⟩
      · refine pm_callV (As := [.int (nI k4)]) (rest := []) hG hR dX12_pay_27 (lkX12_101 _ rfl) okV_X12_lives rfl rfl (m_lives1 (d := 1) (by decide) (by omega) (by omega : 14 * k4 + 119 = 14 * k4 + 119) ek8) rfl rfl hdd (Nat.le_refl _) (Nat.le_refl _) (by decide) (pm_ki (fun v9 σ' cnt' hq => ?_))
        obtain ⟨rfl, rfl, rfl⟩ := hq
        refine pm_ifN_ne (tgt := 39) hG dX12_pay_30 rfl (by omega) (fun _ => ?_) (fun q => absurd q (by omega))
        refine pm_aloadn hG dX12_pay_39 rfl ?_
        refine pm_getf hG dX12_pay_40 (flX12_7 _ rfl) rfl rfl ?_
        refine pm_bipush (v := nI 9) hG dX12_pay_43 (by decide) ?_
        refine pm_ialdN hG dX12_pay_45 rfl (by decide) (by omega) ?_
        refine pm_gen (fun x10 ex10 => ?_)
        refine pm_iloadn hG dX12_pay_46 rfl ?_
        refine pm_top (v := nI k7) ek7 ?_
        refine pm_icmp_ge (tgt := 56) hG dX12_pay_47 rfl (fun c11 => ?_) (fun c11 => ?_)
        · refine pm_aloadn hG dX12_pay_56 rfl ?_
          refine pm_getf hG dX12_pay_57 (flX12_7 _ rfl) rfl rfl ?_
          refine pm_bipush (v := nI 9) hG dX12_pay_60 (by decide) ?_
          refine pm_dup2 hG dX12_pay_62 rfl rfl ?_
          refine pm_ialdN hG dX12_pay_63 rfl (by decide) (by omega) ?_
          refine pm_top (v := x10) ex10 ?_
          refine pm_iloadn hG dX12_pay_64 rfl ?_
          refine pm_top (v := nI k7) ek7 ?_
          refine pm_isub hG dX12_pay_65 ?_
          refine pm_iastN hG dX12_pay_66 rfl (by decide) (by omega) ?_
          refine mdn_now (fun n_12 en_12 => ?_)
          have hnn_12 := KI.w en_12 hn (okv_f (show kd 9 = (0, 0, false) by decide))
          have hrn_12 := NRx.w en_12 hr (by rw [(show kd 9 = (0, 0, false) by decide)])
          have e13 : n_12 2 = nI k1 := by rw [en_12, pk_un (by omega)]; exact ek1
          have e14 : n_12 (14 * k4 + 119) = (-1) := by rw [en_12, pk_un (by omega)]; exact ek8
          have e15 : n_12 9 = x10 - (nI k7) := by rw [en_12, pk_us]
          refine pm_aloadn hG dX12_pay_67 rfl ?_
          refine pm_iloadn hG dX12_pay_68 rfl ?_
          refine pm_top (v := nI k4) ek4 ?_
          refine pm_bipush (v := nI 7) hG dX12_pay_69 (by decide) ?_
          refine pm_aloadn hG dX12_pay_71 rfl ?_
          refine pm_iloadn hG dX12_pay_72 rfl ?_
          refine pm_top (v := nI k4) ek4 ?_
          refine pm_bipush (v := nI 7) hG dX12_pay_73 (by decide) ?_
          refine pm_callV (As := [.int (nI k4), .int (nI 7)]) (rest := [.int (nI 7), .int (nI k4), .ref (B + 54)]) hG hR dX12_pay_75 (lkX12_72 _ rfl) okV_X12_man rfl rfl (m_man (d := 1) (e := 14 * k4 + 117) (by omega) (by omega) (by omega)) rfl rfl hdd (Nat.le_refl _) (Nat.le_refl _) (Nat.le_of_ble_eq_true rfl) (pm_ki (fun v16 σ' cnt' hq => ?_))
          obtain ⟨rfl, rfl, rfl⟩ := hq
          refine pm_gen (fun x17 ex17 => ?_)
          refine pm_iloadn hG dX12_pay_78 rfl ?_
          refine pm_top (v := nI k7) ek7 ?_
          refine pm_iadd hG dX12_pay_79 ?_
          refine pm_callV (As := [.int (nI k4), .int (nI 7), .int (x17 + (nI k7))]) (rest := []) hG hR dX12_pay_80 (lkX12_97 _ rfl) okV_X12_sets rfl rfl (m_sets (d := 1) (e := 14 * k4 + 117) (by omega) (by omega) (by omega)) rfl rfl hdd (Nat.le_refl _) (Nat.le_refl _) (by decide) (pm_kv (fun σ' cnt' hq => ?_))
          obtain ⟨rfl, rfl⟩ := hq
          obtain ⟨n_18, en_18⟩ : ∃ f : Nat → Int32, f = upd n_12 (14 * k4 + 117) (x17 + (nI k7)) := ⟨_, rfl⟩
          rw [← en_18]
          have hnn_18 := KI.w en_18 hnn_12 (okv_f (show kd (14 * k4 + 117) = (0, 0, false) from (kd_P (k := k4) (c := 7) (by omega) (by omega) (by decide))))
          have hrn_18 := NRx.w en_18 hrn_12 (by rw [(show kd (14 * k4 + 117) = (0, 0, false) from (kd_P (k := k4) (c := 7) (by omega) (by omega) (by decide)))])
          have e19 : n_18 2 = nI k1 := by rw [en_18, pk_un (by omega)]; exact e13
          have e20 : n_18 (14 * k4 + 119) = (-1) := by rw [en_18, pk_un (by omega)]; exact e14
          have e21 : n_18 9 = x10 - (nI k7) := by rw [en_18, pk_un (by omega)]; exact e15
          have e22 : n_18 (14 * k4 + 117) = x17 + (nI k7) := by rw [en_18, pk_us]
          refine pm_aloadn hG dX12_pay_83 rfl ?_
          refine pm_getf hG dX12_pay_84 (flX12_7 _ rfl) rfl rfl ?_
          refine pm_bipush (v := nI 9) hG dX12_pay_87 (by decide) ?_
          refine pm_ialdN hG dX12_pay_89 rfl (by decide) (by omega) ?_
          refine pm_top (v := x10 - (nI k7)) e21 ?_
          exact pm_iret hG hF dX12_pay_90 rfl (Nat.le_refl _) (Nat.le_refl _) ⟨_, rfl, ⟨_, _, _, rfl, hnn_18, hrn_18⟩, rfl⟩
        · refine pm_aloadn hG dX12_pay_50 rfl ?_
          refine pm_iconst (v := nI 2) hG dX12_pay_51 (by decide) ?_
          refine pm_callV (As := [.int (nI 2)]) (rest := []) hG hR dX12_pay_52 (lkX12_80 _ rfl) okV_X12_finds rfl rfl (m_finds (d := 1) (by decide) hn hz (by omega)) rfl rfl hdd (Nat.le_refl _) (Nat.le_refl _) (by decide) (pm_ki (fun v23 σ' cnt' hq => ?_))
          obtain ⟨⟨I24, A24, rfl⟩, rfl, fv23⟩ := hq
          exact pm_iret hG hF dX12_pay_55 rfl (Nat.le_refl _) (Nat.le_refl _) ⟨_, rfl, ⟨_, _, _, rfl, hn, hr⟩, rfl⟩
      · refine pm_callV (As := [.int (nI k4)]) (rest := []) hG hR dX12_pay_27 (lkX12_101 _ rfl) okV_X12_lives rfl rfl (m_lives0 (d := 1) (by decide) (by omega) (by omega : 14 * k4 + 119 = 14 * k4 + 119) ek8 (by omega)) rfl rfl hdd (Nat.le_refl _) (Nat.le_refl _) (by decide) (pm_ki (fun v25 σ' cnt' hq => ?_))
        obtain ⟨rfl, rfl, rfl⟩ := hq
        refine pm_ifN_ne (tgt := 39) hG dX12_pay_30 rfl (by omega) (fun q => absurd q (by omega)) (fun _ => ?_)
        refine pm_aloadn hG dX12_pay_33 rfl ?_
        refine pm_iconst (v := nI 3) hG dX12_pay_34 (by decide) ?_
        refine pm_callV (As := [.int (nI 3)]) (rest := []) hG hR dX12_pay_35 (lkX12_80 _ rfl) okV_X12_finds rfl rfl (m_finds (d := 1) (by decide) hn hz (by omega)) rfl rfl hdd (Nat.le_refl _) (Nat.le_refl _) (by decide) (pm_ki (fun v26 σ' cnt' hq => ?_))
        obtain ⟨⟨I27, A27, rfl⟩, rfl, fv26⟩ := hq
        exact pm_iret hG hF dX12_pay_38 rfl (Nat.le_refl _) (Nat.le_refl _) ⟨_, rfl, ⟨_, _, _, rfl, hn, hr⟩, rfl⟩
    · refine pm_ifN_ne (tgt := 25) hG dX12_pay_16 rfl (by omega) (fun q => absurd q (by omega)) (fun _ => ?_)
      refine pm_aloadn hG dX12_pay_19 rfl ?_
      refine pm_iconst (v := nI 1) hG dX12_pay_20 (by decide) ?_
      refine pm_callV (As := [.int (nI 1)]) (rest := []) hG hR dX12_pay_21 (lkX12_80 _ rfl) okV_X12_finds rfl rfl (m_finds (d := 1) (by decide) hn hz (by omega)) rfl rfl hdd (Nat.le_refl _) (Nat.le_refl _) (by decide) (pm_ki (fun v28 σ' cnt' hq => ?_))
      obtain ⟨⟨I29, A29, rfl⟩, rfl, fv28⟩ := hq
      exact pm_iret hG hF dX12_pay_24 rfl (Nat.le_refl _) (Nat.le_refl _) ⟨_, rfl, ⟨_, _, _, rfl, hn, hr⟩, rfl⟩
  · refine pm_ifN_eq (tgt := 19) hG dX12_pay_5 rfl (by omega) (fun _ => ?_) (fun q => absurd q (by omega))
    refine pm_aloadn hG dX12_pay_19 rfl ?_
    refine pm_iconst (v := nI 1) hG dX12_pay_20 (by decide) ?_
    refine pm_callV (As := [.int (nI 1)]) (rest := []) hG hR dX12_pay_21 (lkX12_80 _ rfl) okV_X12_finds rfl rfl (m_finds (d := 1) (by decide) hn hz (by omega)) rfl rfl hdd (Nat.le_refl _) (Nat.le_refl _) (by decide) (pm_ki (fun v30 σ' cnt' hq => ?_))
    obtain ⟨⟨I31, A31, rfl⟩, rfl, fv30⟩ := hq
    exact pm_iret hG hF dX12_pay_24 rfl (Nat.le_refl _) (Nat.le_refl _) ⟨_, rfl, ⟨_, _, _, rfl, hn, hr⟩, rfl⟩
