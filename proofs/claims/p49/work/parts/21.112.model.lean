set_option maxRecDepth 100000 in
set_option maxHeartbeats 4000000 in
theorem m_tell {d B cnt p0 t0 : Nat} {σ : pm_S} {I : Nat → Int32} {A : Nat → Nat → Int32} {n k z : Nat → Int32} {ac wt pl im : Int32} {y : Nat → Int32} {za : Int32} (hdd : 2 ≤ d) (hn : KI n) (hr : NR n) (hz : SZ z)  : pm_met mX12_tell d 0 0 B [.ref (B + 54), .int za] cnt (pm_mid σ (md_L B I A n k z ac wt pl (nI p0) (nI t0) im y)) (pm_Qi (fun v σ' cnt' => (∃ (I' : Nat → Int32) (A' : Nat → Nat → Int32) (n' : Nat → Int32), σ' = pm_mid σ (md_L B I' A' n' k z ac wt pl (nI p0) (nI t0) im y) ∧ KI n' ∧ NR n') ∧ cnt = cnt')) := by
  refine pm_enter 0 (by decide) (Nat.le_of_ble_eq_true rfl) rfl (fun G hG hR hF => ?_)
  refine pm_aloadn hG dX12_tell_0 rfl ?_
  refine pm_getf hG dX12_tell_1 (flX12_7 _ rfl) rfl rfl ?_
  refine pm_bipush (v := nI 11) hG dX12_tell_4 (by decide) ?_
  refine pm_ialdN hG dX12_tell_6 rfl (by decide) (by omega) ?_
  obtain ⟨k1, hk1, ek1⟩ := KI.nat hn (show kd 11 = (1, 21, false) by decide)
  refine pm_top (v := nI k1) ek1 ?_
  refine pm_bipush (v := nI 20) hG dX12_tell_7 (by decide) ?_
  refine pm_icmpN_ne (tgt := 18) hG dX12_tell_9 rfl (by omega) (by omega) (fun c2 => ?_) (fun c2 => ?_)
  · refine pm_aloadn hG dX12_tell_18 rfl ?_
    refine pm_getf hG dX12_tell_19 (flX12_7 _ rfl) rfl rfl ?_
    refine pm_sipush (v := nI 2051) hG dX12_tell_22 (by decide) ?_
    refine pm_aloadn hG dX12_tell_25 rfl ?_
    refine pm_getf hG dX12_tell_26 (flX12_7 _ rfl) rfl rfl ?_
    refine pm_bipush (v := nI 11) hG dX12_tell_29 (by decide) ?_
    refine pm_ialdN hG dX12_tell_31 rfl (by decide) (by omega) ?_
    refine pm_top (v := nI k1) ek1 ?_
    refine pm_iaddN (c := k1 + 2051) hG dX12_tell_32 (by omega) ?_
    refine pm_iloadn hG dX12_tell_33 rfl ?_
    refine pm_iastN hG dX12_tell_34 rfl (by decide) (by omega) ?_
    refine mdn_now (fun n_3 en_3 => ?_)
    have hnn_3 := KI.w en_3 hn (okv_f (show kd (k1 + 2051) = (0, 0, false) from (kd_O (by omega))))
    have hrn_3 := NRx.w en_3 hr (by rw [(show kd (k1 + 2051) = (0, 0, false) from (kd_O (by omega)))])
    have e4 : n_3 11 = nI k1 := by rw [en_3, pk_un (by omega)]; exact ek1
    have e5 : n_3 (k1 + 2051) = za := by rw [en_3, pk_us]
    refine pm_aloadn hG dX12_tell_35 rfl ?_
    refine pm_getf hG dX12_tell_36 (flX12_7 _ rfl) rfl rfl ?_
    refine pm_bipush (v := nI 11) hG dX12_tell_39 (by decide) ?_
    refine pm_dup2 hG dX12_tell_41 rfl rfl ?_
    refine pm_ialdN hG dX12_tell_42 rfl (by decide) (by omega) ?_
    refine pm_top (v := nI k1) e4 ?_
    refine pm_iconst (v := nI 1) hG dX12_tell_43 (by decide) ?_
    refine pm_iaddN (c := k1 + 1) hG dX12_tell_44 (by omega) ?_
    refine pm_iastN hG dX12_tell_45 rfl (by decide) (by omega) ?_
    refine mdn_now (fun n_6 en_6 => ?_)
    have hnn_6 := KI.w en_6 hnn_3 (okv_n (show kd 11 = (1, 21, false) by decide) (by omega))
    have hrn_6 := NRx.w en_6 hrn_3 (by rw [(show kd 11 = (1, 21, false) by decide)])
    have e7 : n_6 (k1 + 2051) = za := by rw [en_6, pk_un (by omega)]; exact e5
    have e8 : n_6 11 = nI (k1 + 1) := by rw [en_6, pk_us]
    refine pm_aloadn hG dX12_tell_46 rfl ?_
    refine pm_getf hG dX12_tell_47 (flX12_7 _ rfl) rfl rfl ?_
    refine pm_bipush (v := nI 11) hG dX12_tell_50 (by decide) ?_
    refine pm_ialdN hG dX12_tell_52 rfl (by decide) (by omega) ?_
    refine pm_top (v := nI (k1 + 1)) e8 ?_
    exact pm_iret hG hF dX12_tell_53 rfl (Nat.le_refl _) (Nat.le_refl _) ⟨_, rfl, ⟨_, _, _, rfl, hnn_6, hrn_6⟩, rfl⟩
  · refine pm_aloadn hG dX12_tell_12 rfl ?_
    refine pm_iconst (v := nI 4) hG dX12_tell_13 (by decide) ?_
    refine pm_callV (As := [.int (nI 4)]) (rest := []) hG hR dX12_tell_14 (lkX12_80 _ rfl) okV_X12_finds rfl rfl (m_finds (d := 1) (by decide) hn hz (by omega)) rfl rfl hdd (Nat.le_refl _) (Nat.le_refl _) (by decide) (pm_ki (fun v9 σ' cnt' hq => ?_))
    obtain ⟨⟨I10, A10, rfl⟩, rfl, fv9⟩ := hq
    exact pm_iret hG hF dX12_tell_17 rfl (Nat.le_refl _) (Nat.le_refl _) ⟨_, rfl, ⟨_, _, _, rfl, hn, hr⟩, rfl⟩
