set_option maxRecDepth 100000 in
set_option maxHeartbeats 4000000 in
theorem m_price {d B cnt p0 t0 : Nat} {σ : pm_S} {I : Nat → Int32} {A : Nat → Nat → Int32} {n k z : Nat → Int32} {ac wt pl im : Int32} {y : Nat → Int32} {za zb : Int32} (hdd : 2 ≤ d) (hn : KI n) (hr : NR n) (hz : SZ z)  : pm_met mX12_price d 0 0 B [.ref (B + 54), .int za, .int zb] cnt (pm_mid σ (md_L B I A n k z ac wt pl (nI p0) (nI t0) im y)) (pm_Qi (fun v σ' cnt' => (∃ (I' : Nat → Int32) (A' : Nat → Nat → Int32) (n' : Nat → Int32), σ' = pm_mid σ (md_L B I' A' n' k z ac wt pl (nI p0) (nI t0) im y) ∧ KI n' ∧ NR n') ∧ cnt = cnt')) := by
  refine pm_enter 1 (by decide) (Nat.le_of_ble_eq_true rfl) rfl (fun G hG hR hF => ?_)
  refine pm_aloadn hG dX12_price_0 rfl ?_
  refine pm_iloadn hG dX12_price_1 rfl ?_
  obtain ⟨k1, hk1, ek1⟩ := KI.nat hn (show kd 2 = (1, 21, true) by decide)
  refine pm_callV (As := [.int za]) (rest := []) hG hR dX12_price_2 (lkX12_91 _ rfl) okV_X12_isPerson rfl rfl (m_isPerson (d := 1) (by decide) ek1 (by omega)) rfl rfl hdd (Nat.le_refl _) (Nat.le_refl _) (by decide) (pm_ki (fun v2 σ' cnt' hq => ?_))
  obtain ⟨hq, rfl, rfl⟩ := hq
  rcases hq with ⟨rfl, k4, hk4, ek4⟩ | rfl
  · refine pm_ifN_eq (tgt := 19) hG dX12_price_5 rfl (by omega) (fun q => absurd q (by omega)) (fun _ => ?_)
    refine pm_iloadn hG dX12_price_8 rfl ?_
    refine pm_iconst (v := nI 1) hG dX12_price_9 (by decide) ?_
    refine pm_sipush (v := nI 999) hG dX12_price_10 (by decide) ?_
    refine pm_callS (As := [.int zb, .int (nI 1), .int (nI 999)]) (rest := []) hG hR dX12_price_13 (lkX12_68 _ rfl) okS_X12_in (m_in (d := 1)) rfl rfl hdd (Nat.le_refl _) (Nat.le_refl _) (by decide) (pm_ki (fun v5 σ' cnt' hq => ?_))
    obtain ⟨hq, rfl, rfl⟩ := hq
    rcases hq with ⟨rfl, ac6, bc6⟩ | ⟨rfl, c6⟩
    · obtain ⟨k7, hk7, ek7⟩ := in_nat (by omega) (by omega) ac6 bc6
      refine pm_ifN_ne (tgt := 25) hG dX12_price_16 rfl (by omega) (fun _ => ?_) (fun q => absurd q (by omega))
      refine pm_aloadn hG dX12_price_25 rfl ?_
      refine pm_iloadn hG dX12_price_26 rfl ?_
      refine pm_top (v := nI k4) ek4 ?_
      refine pm_bipush (v := nI 12) hG dX12_price_27 (by decide) ?_
      refine pm_callV (As := [.int (nI k4), .int (nI 12)]) (rest := []) hG hR dX12_price_29 (lkX12_72 _ rfl) okV_X12_man rfl rfl (m_man (d := 1) (e := 14 * k4 + 122) (by omega) (by omega) (by omega)) rfl rfl hdd (Nat.le_refl _) (Nat.le_refl _) (by decide) (pm_ki (fun v8 σ' cnt' hq => ?_))
      obtain ⟨rfl, rfl, rfl⟩ := hq
      refine pm_gen (fun x9 ex9 => ?_)
      refine pm_istoreXn (loc' := [some (.ref (B + 54)), some (.int za), some (.int zb), some (.int x9)]) hG dX12_price_32 (by decide) (pm_c1b rfl) rfl ?_
      refine pm_aloadn hG dX12_price_33 rfl ?_
      refine pm_iloadn hG dX12_price_34 rfl ?_
      refine pm_top (v := nI k4) ek4 ?_
      refine pm_bipush (v := nI 12) hG dX12_price_35 (by decide) ?_
      refine pm_iloadn hG dX12_price_37 rfl ?_
      refine pm_top (v := nI k7) ek7 ?_
      refine pm_callV (As := [.int (nI k4), .int (nI 12), .int (nI k7)]) (rest := []) hG hR dX12_price_38 (lkX12_97 _ rfl) okV_X12_sets rfl rfl (m_sets (d := 1) (e := 14 * k4 + 122) (by omega) (by omega) (by omega)) rfl rfl hdd (Nat.le_refl _) (Nat.le_refl _) (by decide) (pm_kv (fun σ' cnt' hq => ?_))
      obtain ⟨rfl, rfl⟩ := hq
      obtain ⟨n_10, en_10⟩ : ∃ f : Nat → Int32, f = upd n (14 * k4 + 122) (nI k7) := ⟨_, rfl⟩
      rw [← en_10]
      have hnn_10 := KI.w en_10 hn (okv_f (show kd (14 * k4 + 122) = (0, 0, false) from (kd_P (k := k4) (c := 12) (by omega) (by omega) (by decide))))
      have hrn_10 := NRx.w en_10 hr (by rw [(show kd (14 * k4 + 122) = (0, 0, false) from (kd_P (k := k4) (c := 12) (by omega) (by omega) (by decide)))])
      have e11 : n_10 2 = nI k1 := by rw [en_10, pk_un (by omega)]; exact ek1
      have e12 : n_10 (14 * k4 + 122) = nI k7 := by rw [en_10, pk_us]
      refine pm_iloadn hG dX12_price_41 rfl ?_
      exact pm_iret hG hF dX12_price_42 rfl (Nat.le_refl _) (Nat.le_refl _) ⟨_, rfl, ⟨_, _, _, rfl, hnn_10, hrn_10⟩, rfl⟩
    · refine pm_ifN_ne (tgt := 25) hG dX12_price_16 rfl (by omega) (fun q => absurd q (by omega)) (fun _ => ?_)
      refine pm_aloadn hG dX12_price_19 rfl ?_
      refine pm_iconst (v := nI 1) hG dX12_price_20 (by decide) ?_
      refine pm_callV (As := [.int (nI 1)]) (rest := []) hG hR dX12_price_21 (lkX12_80 _ rfl) okV_X12_finds rfl rfl (m_finds (d := 1) (by decide) hn hz (by omega)) rfl rfl hdd (Nat.le_refl _) (Nat.le_refl _) (by decide) (pm_ki (fun v13 σ' cnt' hq => ?_))
      obtain ⟨⟨I14, A14, rfl⟩, rfl, fv13⟩ := hq
      exact pm_iret hG hF dX12_price_24 rfl (Nat.le_refl _) (Nat.le_refl _) ⟨_, rfl, ⟨_, _, _, rfl, hn, hr⟩, rfl⟩
  · refine pm_ifN_eq (tgt := 19) hG dX12_price_5 rfl (by omega) (fun _ => ?_) (fun q => absurd q (by omega))
    refine pm_aloadn hG dX12_price_19 rfl ?_
    refine pm_iconst (v := nI 1) hG dX12_price_20 (by decide) ?_
    refine pm_callV (As := [.int (nI 1)]) (rest := []) hG hR dX12_price_21 (lkX12_80 _ rfl) okV_X12_finds rfl rfl (m_finds (d := 1) (by decide) hn hz (by omega)) rfl rfl hdd (Nat.le_refl _) (Nat.le_refl _) (by decide) (pm_ki (fun v15 σ' cnt' hq => ?_))
    obtain ⟨⟨I16, A16, rfl⟩, rfl, fv15⟩ := hq
    exact pm_iret hG hF dX12_price_24 rfl (Nat.le_refl _) (Nat.le_refl _) ⟨_, rfl, ⟨_, _, _, rfl, hn, hr⟩, rfl⟩
