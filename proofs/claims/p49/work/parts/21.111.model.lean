set_option maxRecDepth 100000 in
set_option maxHeartbeats 4000000 in
theorem m_strike {d B cnt p0 t0 : Nat} {σ : pm_S} {I : Nat → Int32} {A : Nat → Nat → Int32} {n k z : Nat → Int32} {ac wt pl im : Int32} {y : Nat → Int32} {za : Int32} (hdd : 2 ≤ d) (hn : KI n) (hr : NR n) (hz : SZ z)  : pm_met mX12_strike d 0 0 B [.ref (B + 54), .int za] cnt (pm_mid σ (md_L B I A n k z ac wt pl (nI p0) (nI t0) im y)) (pm_Qi (fun v σ' cnt' => (∃ (I' : Nat → Int32) (A' : Nat → Nat → Int32) (n' : Nat → Int32), σ' = pm_mid σ (md_L B I' A' n' k z ac wt pl (nI p0) (nI t0) im y) ∧ KI n' ∧ NR n') ∧ cnt = cnt')) := by
  refine pm_enter 0 (by decide) (Nat.le_of_ble_eq_true rfl) rfl (fun G hG hR hF => ?_)
  refine pm_aloadn hG dX12_strike_0 rfl ?_
  refine pm_iloadn hG dX12_strike_1 rfl ?_
  obtain ⟨k1, hk1, ek1⟩ := KI.nat hn (show kd 4 = (1, 13, false) by decide)
  refine pm_callV (As := [.int za]) (rest := []) hG hR dX12_strike_2 (lkX12_192 _ rfl) okV_X12_isLaw rfl rfl (m_isLaw (d := 1) (by decide) ek1 (by omega)) rfl rfl hdd (Nat.le_refl _) (Nat.le_refl _) (by decide) (pm_ki (fun v2 σ' cnt' hq => ?_))
  obtain ⟨hq, rfl, rfl⟩ := hq
  rcases hq with ⟨rfl, k4, hk4, ek4⟩ | rfl
  · refine pm_ifN_ne (tgt := 14) hG dX12_strike_5 rfl (by omega) (fun _ => ?_) (fun q => absurd q (by omega))
    refine pm_aloadn hG dX12_strike_14 rfl ?_
    refine pm_getf hG dX12_strike_15 (flX12_7 _ rfl) rfl rfl ?_
    refine pm_sipush (v := nI 510) hG dX12_strike_18 (by decide) ?_
    refine pm_bipush (v := nI 65) hG dX12_strike_21 (by decide) ?_
    refine pm_iloadn hG dX12_strike_23 rfl ?_
    refine pm_top (v := nI k4) ek4 ?_
    refine pm_imulN (c := 65 * k4) hG dX12_strike_24 (by omega) ?_
    refine pm_iaddN (c := 65 * k4 + 510) hG dX12_strike_25 (by omega) ?_
    refine pm_iconst (v := nI 3) hG dX12_strike_26 (by decide) ?_
    refine pm_iaddN (c := 65 * k4 + 513) hG dX12_strike_27 (by omega) ?_
    refine pm_ialdN hG dX12_strike_28 rfl (by decide) (by omega) ?_
    refine pm_gen (fun x5 ex5 => ?_)
    refine pm_if_lt (tgt := 38) hG dX12_strike_29 rfl (fun c6 => ?_) (fun c6 => ?_)
    · refine pm_aloadn hG dX12_strike_38 rfl ?_
      refine pm_getf hG dX12_strike_39 (flX12_7 _ rfl) rfl rfl ?_
      refine pm_sipush (v := nI 510) hG dX12_strike_42 (by decide) ?_
      refine pm_bipush (v := nI 65) hG dX12_strike_45 (by decide) ?_
      refine pm_iloadn hG dX12_strike_47 rfl ?_
      refine pm_top (v := nI k4) ek4 ?_
      refine pm_imulN (c := 65 * k4) hG dX12_strike_48 (by omega) ?_
      refine pm_iaddN (c := 65 * k4 + 510) hG dX12_strike_49 (by omega) ?_
      refine pm_iconst (v := nI 3) hG dX12_strike_50 (by decide) ?_
      refine pm_iaddN (c := 65 * k4 + 513) hG dX12_strike_51 (by omega) ?_
      refine pm_aloadn hG dX12_strike_52 rfl ?_
      refine pm_getf hG dX12_strike_53 (flX12_7 _ rfl) rfl rfl ?_
      refine pm_bipush (v := nI 8) hG dX12_strike_56 (by decide) ?_
      refine pm_ialdN hG dX12_strike_58 rfl (by decide) (by omega) ?_
      obtain ⟨k7, hk7, ek7⟩ := KI.nat hn (show kd 8 = (1, 2001, false) by decide)
      refine pm_top (v := nI k7) ek7 ?_
      refine pm_iastN hG dX12_strike_59 rfl (by decide) (by omega) ?_
      refine mdn_now (fun n_8 en_8 => ?_)
      have hnn_8 := KI.w en_8 hn (okv_f (show kd (65 * k4 + 513) = (0, 0, false) from (kd_L (k := k4) (c := 3) (by omega) (by omega) (by decide))))
      have hrn_8 := NRx.w en_8 hr (by rw [(show kd (65 * k4 + 513) = (0, 0, false) from (kd_L (k := k4) (c := 3) (by omega) (by omega) (by decide)))])
      have e9 : n_8 4 = nI k1 := by rw [en_8, pk_un (by omega)]; exact ek1
      have e10 : n_8 8 = nI k7 := by rw [en_8, pk_un (by omega)]; exact ek7
      have e11 : n_8 (65 * k4 + 513) = nI k7 := by rw [en_8, pk_us]
      refine pm_iconst (v := nI 1) hG dX12_strike_60 (by decide) ?_
      exact pm_iret hG hF dX12_strike_61 rfl (Nat.le_refl _) (Nat.le_refl _) ⟨_, rfl, ⟨_, _, _, rfl, hnn_8, hrn_8⟩, rfl⟩
    · obtain ⟨k12, hk12, ek12⟩ := nI_of c6
      refine pm_aloadn hG dX12_strike_32 rfl ?_
      refine pm_iconst (v := nI 3) hG dX12_strike_33 (by decide) ?_
      refine pm_callV (As := [.int (nI 3)]) (rest := []) hG hR dX12_strike_34 (lkX12_80 _ rfl) okV_X12_finds rfl rfl (m_finds (d := 1) (by decide) hn hz (by omega)) rfl rfl hdd (Nat.le_refl _) (Nat.le_refl _) (by decide) (pm_ki (fun v13 σ' cnt' hq => ?_))
      obtain ⟨⟨I14, A14, rfl⟩, rfl, fv13⟩ := hq
      exact pm_iret hG hF dX12_strike_37 rfl (Nat.le_refl _) (Nat.le_refl _) ⟨_, rfl, ⟨_, _, _, rfl, hn, hr⟩, rfl⟩
  · refine pm_ifN_ne (tgt := 14) hG dX12_strike_5 rfl (by omega) (fun q => absurd q (by omega)) (fun _ => ?_)
    refine pm_aloadn hG dX12_strike_8 rfl ?_
    refine pm_iconst (v := nI 1) hG dX12_strike_9 (by decide) ?_
    refine pm_callV (As := [.int (nI 1)]) (rest := []) hG hR dX12_strike_10 (lkX12_80 _ rfl) okV_X12_finds rfl rfl (m_finds (d := 1) (by decide) hn hz (by omega)) rfl rfl hdd (Nat.le_refl _) (Nat.le_refl _) (by decide) (pm_ki (fun v15 σ' cnt' hq => ?_))
    obtain ⟨⟨I16, A16, rfl⟩, rfl, fv15⟩ := hq
    exact pm_iret hG hF dX12_strike_13 rfl (Nat.le_refl _) (Nat.le_refl _) ⟨_, rfl, ⟨_, _, _, rfl, hn, hr⟩, rfl⟩
