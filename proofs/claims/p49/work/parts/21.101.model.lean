set_option maxRecDepth 100000 in
set_option maxHeartbeats 4000000 in
theorem m_rent {d B cnt p0 t0 : Nat} {σ : pm_S} {I : Nat → Int32} {A : Nat → Nat → Int32} {n k z : Nat → Int32} {ac wt pl im : Int32} {y : Nat → Int32} {za zb : Int32} (hdd : 2 ≤ d) (hn : KI n) (hr : NR n) (hz : SZ z)  : pm_met mX12_rent d 0 0 B [.ref (B + 54), .int za, .int zb] cnt (pm_mid σ (md_L B I A n k z ac wt pl (nI p0) (nI t0) im y)) (pm_Qi (fun v σ' cnt' => (∃ (I' : Nat → Int32) (A' : Nat → Nat → Int32) (n' : Nat → Int32), σ' = pm_mid σ (md_L B I' A' n' k z ac wt pl (nI p0) (nI t0) im y) ∧ KI n' ∧ NR n') ∧ cnt = cnt')) := by
  refine pm_enter 1 (by decide) (Nat.le_of_ble_eq_true rfl) rfl (fun G hG hR hF => ?_)
  refine pm_aloadn hG dX12_rent_0 rfl ?_
  refine pm_iloadn hG dX12_rent_1 rfl ?_
  obtain ⟨k1, hk1, ek1⟩ := KI.nat hn (show kd 0 = (1, 11, true) by decide)
  refine pm_callV (As := [.int za]) (rest := []) hG hR dX12_rent_2 (lkX12_84 _ rfl) okV_X12_isTown rfl rfl (m_isTown (d := 1) (by decide) ek1 (by omega)) rfl rfl hdd (Nat.le_refl _) (Nat.le_refl _) (by decide) (pm_ki (fun v2 σ' cnt' hq => ?_))
  obtain ⟨hq, rfl, rfl⟩ := hq
  rcases hq with ⟨rfl, k4, hk4, ek4⟩ | rfl
  · refine pm_ifN_eq (tgt := 19) hG dX12_rent_5 rfl (by omega) (fun q => absurd q (by omega)) (fun _ => ?_)
    refine pm_iloadn hG dX12_rent_8 rfl ?_
    refine pm_iconst (v := nI 0) hG dX12_rent_9 (by decide) ?_
    refine pm_sipush (v := nI 999) hG dX12_rent_10 (by decide) ?_
    refine pm_callS (As := [.int zb, .int (nI 0), .int (nI 999)]) (rest := []) hG hR dX12_rent_13 (lkX12_68 _ rfl) okS_X12_in (m_in (d := 1)) rfl rfl hdd (Nat.le_refl _) (Nat.le_refl _) (by decide) (pm_ki (fun v5 σ' cnt' hq => ?_))
    obtain ⟨hq, rfl, rfl⟩ := hq
    rcases hq with ⟨rfl, ac6, bc6⟩ | ⟨rfl, c6⟩
    · obtain ⟨k7, hk7, ek7⟩ := in_nat (by omega) (by omega) ac6 bc6
      refine pm_ifN_ne (tgt := 25) hG dX12_rent_16 rfl (by omega) (fun _ => ?_) (fun q => absurd q (by omega))
      refine pm_aloadn hG dX12_rent_25 rfl ?_
      refine pm_getf hG dX12_rent_26 (flX12_7 _ rfl) rfl rfl ?_
      refine pm_bipush (v := nI 20) hG dX12_rent_29 (by decide) ?_
      refine pm_iconst (v := nI 3) hG dX12_rent_31 (by decide) ?_
      refine pm_iloadn hG dX12_rent_32 rfl ?_
      refine pm_top (v := nI k4) ek4 ?_
      refine pm_imulN (c := 3 * k4) hG dX12_rent_33 (by omega) ?_
      refine pm_iaddN (c := 3 * k4 + 20) hG dX12_rent_34 (by omega) ?_
      refine pm_ialdN hG dX12_rent_35 rfl (by decide) (by omega) ?_
      refine pm_gen (fun x8 ex8 => ?_)
      refine pm_istoreXn (loc' := [some (.ref (B + 54)), some (.int za), some (.int zb), some (.int x8)]) hG dX12_rent_36 (by decide) (pm_c1b rfl) rfl ?_
      refine pm_aloadn hG dX12_rent_37 rfl ?_
      refine pm_getf hG dX12_rent_38 (flX12_7 _ rfl) rfl rfl ?_
      refine pm_bipush (v := nI 20) hG dX12_rent_41 (by decide) ?_
      refine pm_iconst (v := nI 3) hG dX12_rent_43 (by decide) ?_
      refine pm_iloadn hG dX12_rent_44 rfl ?_
      refine pm_top (v := nI k4) ek4 ?_
      refine pm_imulN (c := 3 * k4) hG dX12_rent_45 (by omega) ?_
      refine pm_iaddN (c := 3 * k4 + 20) hG dX12_rent_46 (by omega) ?_
      refine pm_iloadn hG dX12_rent_47 rfl ?_
      refine pm_top (v := nI k7) ek7 ?_
      refine pm_iastN hG dX12_rent_48 rfl (by decide) (by omega) ?_
      refine mdn_now (fun n_9 en_9 => ?_)
      have hnn_9 := KI.w en_9 hn (okv_f (show kd (3 * k4 + 20) = (0, 0, false) from (kd_T (k := k4) (c := 0) (by omega) (by omega) (by decide))))
      have hrn_9 := NRx.w en_9 hr (by rw [(show kd (3 * k4 + 20) = (0, 0, false) from (kd_T (k := k4) (c := 0) (by omega) (by omega) (by decide)))])
      have e10 : n_9 0 = nI k1 := by rw [en_9, pk_un (by omega)]; exact ek1
      have e11 : n_9 (3 * k4 + 20) = nI k7 := by rw [en_9, pk_us]
      refine pm_iloadn hG dX12_rent_49 rfl ?_
      exact pm_iret hG hF dX12_rent_50 rfl (Nat.le_refl _) (Nat.le_refl _) ⟨_, rfl, ⟨_, _, _, rfl, hnn_9, hrn_9⟩, rfl⟩
    · refine pm_ifN_ne (tgt := 25) hG dX12_rent_16 rfl (by omega) (fun q => absurd q (by omega)) (fun _ => ?_)
      refine pm_aloadn hG dX12_rent_19 rfl ?_
      refine pm_iconst (v := nI 1) hG dX12_rent_20 (by decide) ?_
      refine pm_callV (As := [.int (nI 1)]) (rest := []) hG hR dX12_rent_21 (lkX12_80 _ rfl) okV_X12_finds rfl rfl (m_finds (d := 1) (by decide) hn hz (by omega)) rfl rfl hdd (Nat.le_refl _) (Nat.le_refl _) (by decide) (pm_ki (fun v12 σ' cnt' hq => ?_))
      obtain ⟨⟨I13, A13, rfl⟩, rfl, fv12⟩ := hq
      exact pm_iret hG hF dX12_rent_24 rfl (Nat.le_refl _) (Nat.le_refl _) ⟨_, rfl, ⟨_, _, _, rfl, hn, hr⟩, rfl⟩
  · refine pm_ifN_eq (tgt := 19) hG dX12_rent_5 rfl (by omega) (fun _ => ?_) (fun q => absurd q (by omega))
    refine pm_aloadn hG dX12_rent_19 rfl ?_
    refine pm_iconst (v := nI 1) hG dX12_rent_20 (by decide) ?_
    refine pm_callV (As := [.int (nI 1)]) (rest := []) hG hR dX12_rent_21 (lkX12_80 _ rfl) okV_X12_finds rfl rfl (m_finds (d := 1) (by decide) hn hz (by omega)) rfl rfl hdd (Nat.le_refl _) (Nat.le_refl _) (by decide) (pm_ki (fun v14 σ' cnt' hq => ?_))
    obtain ⟨⟨I15, A15, rfl⟩, rfl, fv14⟩ := hq
    exact pm_iret hG hF dX12_rent_24 rfl (Nat.le_refl _) (Nat.le_refl _) ⟨_, rfl, ⟨_, _, _, rfl, hn, hr⟩, rfl⟩
