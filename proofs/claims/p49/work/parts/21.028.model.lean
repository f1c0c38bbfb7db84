set_option maxRecDepth 100000 in
set_option maxHeartbeats 4000000 in
theorem m_breaks {d B cnt p0 t0 : Nat} {σ : pm_S} {I : Nat → Int32} {A : Nat → Nat → Int32} {n k z : Nat → Int32} {ac wt pl im : Int32} {y : Nat → Int32} {za : Int32} (hdd : 2 ≤ d) (hn : KI n) (hr : NR n) (hz : SZ z)  : pm_met mX12_breaks d 0 0 B [.ref (B + 54), .int za] cnt (pm_mid σ (md_L B I A n k z ac wt pl (nI p0) (nI t0) im y)) (pm_Qi (fun v σ' cnt' => (∃ (I' : Nat → Int32) (A' : Nat → Nat → Int32) (n' : Nat → Int32), σ' = pm_mid σ (md_L B I' A' n' k z ac wt pl (nI p0) (nI t0) im y) ∧ KI n' ∧ NR n') ∧ cnt = cnt')) := by
  refine pm_enter 0 (by decide) (Nat.le_of_ble_eq_true rfl) rfl (fun G hG hR hF => ?_)
  refine pm_iloadn hG dX12_breaks_0 rfl ?_
  refine pm_iconst (v := nI 0) hG dX12_breaks_1 (by decide) ?_
  refine pm_aloadn hG dX12_breaks_2 rfl ?_
  refine pm_getf hG dX12_breaks_3 (flX12_7 _ rfl) rfl rfl ?_
  refine pm_bipush (v := nI 7) hG dX12_breaks_6 (by decide) ?_
  refine pm_ialdN hG dX12_breaks_8 rfl (by decide) (by omega) ?_
  obtain ⟨k1, hk1, ek1⟩ := KI.nat hn (show kd 7 = (1, 31, false) by decide)
  refine pm_top (v := nI k1) ek1 ?_
  refine pm_iconst (v := nI 1) hG dX12_breaks_9 (by decide) ?_
  refine pm_isub hG dX12_breaks_10 ?_
  refine pm_callS (As := [.int za, .int (nI 0), .int ((nI k1) - (nI 1))]) (rest := []) hG hR dX12_breaks_11 (lkX12_68 _ rfl) okS_X12_in (m_in (d := 1)) rfl rfl hdd (Nat.le_refl _) (Nat.le_refl _) (by decide) (pm_ki (fun v2 σ' cnt' hq => ?_))
  obtain ⟨hq, rfl, rfl⟩ := hq
  rcases hq with ⟨rfl, ac3, bc3⟩ | ⟨rfl, c3⟩
  · obtain ⟨k4, hk4, ek4⟩ := in_cnt (c := k1) (by omega) ac3 bc3
    refine pm_ifN_ne (tgt := 23) hG dX12_breaks_14 rfl (by omega) (fun _ => ?_) (fun q => absurd q (by omega))
    refine pm_aloadn hG dX12_breaks_23 rfl ?_
    refine pm_iloadn hG dX12_breaks_24 rfl ?_
    refine pm_top (v := nI k4) ek4 ?_
    refine pm_callV (As := [.int (nI k4)]) (rest := []) hG hR dX12_breaks_25 (lkX12_226 _ rfl) okV_X12_stands rfl rfl (m_stands (d := 1) (by decide) hn hz (by omega)) rfl rfl hdd (Nat.le_refl _) (Nat.le_refl _) (by decide) (pm_ki (fun v5 σ' cnt' hq => ?_))
    obtain ⟨rfl, rfl, bv5⟩ := hq
    refine pm_if_ne (tgt := 37) hG dX12_breaks_28 rfl (fun c7 => ?_) (fun c7 => ?_)
    · refine pm_aloadn hG dX12_breaks_37 rfl ?_
      refine pm_getf hG dX12_breaks_38 (flX12_7 _ rfl) rfl rfl ?_
      refine pm_sipush (v := nI 1806) hG dX12_breaks_41 (by decide) ?_
      refine pm_bipush (v := nI 6) hG dX12_breaks_44 (by decide) ?_
      refine pm_iloadn hG dX12_breaks_46 rfl ?_
      refine pm_top (v := nI k4) ek4 ?_
      refine pm_imulN (c := 6 * k4) hG dX12_breaks_47 (by omega) ?_
      refine pm_iaddN (c := 6 * k4 + 1806) hG dX12_breaks_48 (by omega) ?_
      refine pm_iconst (v := nI 4) hG dX12_breaks_49 (by decide) ?_
      refine pm_iaddN (c := 6 * k4 + 1810) hG dX12_breaks_50 (by omega) ?_
      refine pm_iconst (v := nI 1) hG dX12_breaks_51 (by decide) ?_
      refine pm_iastN hG dX12_breaks_52 rfl (by decide) (by omega) ?_
      refine mdn_now (fun n_8 en_8 => ?_)
      have hnn_8 := KI.w en_8 hn (okv_f (show kd (6 * k4 + 1810) = (0, 0, false) from (kd_Q (k := k4) (c := 4) (by omega) (by omega) (by decide))))
      have hrn_8 := NRx.w en_8 hr (by rw [(show kd (6 * k4 + 1810) = (0, 0, false) from (kd_Q (k := k4) (c := 4) (by omega) (by omega) (by decide)))])
      have e9 : n_8 7 = nI k1 := by rw [en_8, pk_un (by omega)]; exact ek1
      have e10 : n_8 (6 * k4 + 1810) = nI 1 := by rw [en_8, pk_us]
      refine pm_iconst (v := nI 1) hG dX12_breaks_53 (by decide) ?_
      exact pm_iret hG hF dX12_breaks_54 rfl (Nat.le_refl _) (Nat.le_refl _) ⟨_, rfl, ⟨_, _, _, rfl, hnn_8, hrn_8⟩, rfl⟩
    · refine pm_aloadn hG dX12_breaks_31 rfl ?_
      refine pm_iconst (v := nI 3) hG dX12_breaks_32 (by decide) ?_
      refine pm_callV (As := [.int (nI 3)]) (rest := []) hG hR dX12_breaks_33 (lkX12_80 _ rfl) okV_X12_finds rfl rfl (m_finds (d := 1) (by decide) hn hz (by omega)) rfl rfl hdd (Nat.le_refl _) (Nat.le_refl _) (by decide) (pm_ki (fun v11 σ' cnt' hq => ?_))
      obtain ⟨⟨I12, A12, rfl⟩, rfl, fv11⟩ := hq
      exact pm_iret hG hF dX12_breaks_36 rfl (Nat.le_refl _) (Nat.le_refl _) ⟨_, rfl, ⟨_, _, _, rfl, hn, hr⟩, rfl⟩
  · refine pm_ifN_ne (tgt := 23) hG dX12_breaks_14 rfl (by omega) (fun q => absurd q (by omega)) (fun _ => ?_)
    refine pm_aloadn hG dX12_breaks_17 rfl ?_
    refine pm_iconst (v := nI 1) hG dX12_breaks_18 (by decide) ?_
    refine pm_callV (As := [.int (nI 1)]) (rest := []) hG hR dX12_breaks_19 (lkX12_80 _ rfl) okV_X12_finds rfl rfl (m_finds (d := 1) (by decide) hn hz (by omega)) rfl rfl hdd (Nat.le_refl _) (Nat.le_refl _) (by decide) (pm_ki (fun v13 σ' cnt' hq => ?_))
    obtain ⟨⟨I14, A14, rfl⟩, rfl, fv13⟩ := hq
    exact pm_iret hG hF dX12_breaks_22 rfl (Nat.le_refl _) (Nat.le_refl _) ⟨_, rfl, ⟨_, _, _, rfl, hn, hr⟩, rfl⟩
