set_option maxRecDepth 100000 in
set_option maxHeartbeats 4000000 in
theorem m_town {d B cnt p0 t0 : Nat} {σ : pm_S} {I : Nat → Int32} {A : Nat → Nat → Int32} {n k z : Nat → Int32} {ac wt pl im : Int32} {y : Nat → Int32} (hdd : 2 ≤ d) (hn : KI n) (hr : NR n) (hz : SZ z)  : pm_met mX12_town d 0 0 B [.ref (B + 54)] cnt (pm_mid σ (md_L B I A n k z ac wt pl (nI p0) (nI t0) im y)) (pm_Qi (fun v σ' cnt' => (∃ (I' : Nat → Int32) (A' : Nat → Nat → Int32) (n' : Nat → Int32), σ' = pm_mid σ (md_L B I' A' n' k z ac wt pl (nI p0) (nI t0) im y) ∧ KI n' ∧ NR n') ∧ cnt = cnt')) := by
  refine pm_enter 1 (by decide) (Nat.le_of_ble_eq_true rfl) rfl (fun G hG hR hF => ?_)
  refine pm_aloadn hG dX12_town_0 rfl ?_
  refine pm_getf hG dX12_town_1 (flX12_7 _ rfl) rfl rfl ?_
  refine pm_iconst (v := nI 0) hG dX12_town_4 (by decide) ?_
  refine pm_ialdN hG dX12_town_5 rfl (by decide) (by omega) ?_
  obtain ⟨k1, hk1, ek1⟩ := KI.nat hn (show kd 0 = (1, 11, true) by decide)
  refine pm_top (v := nI k1) ek1 ?_
  refine pm_istoreXn (loc' := [some (.ref (B + 54)), some (.int (nI k1))]) hG dX12_town_6 (by decide) (pm_c1b rfl) rfl ?_
  refine pm_iloadn hG dX12_town_7 rfl ?_
  refine pm_bipush (v := nI 10) hG dX12_town_8 (by decide) ?_
  refine pm_icmpN_ne (tgt := 19) hG dX12_town_10 rfl (by omega) (by omega) (fun c2 => ?_) (fun c2 => ?_)
  · refine pm_aloadn hG dX12_town_19 rfl ?_
    refine pm_getf hG dX12_town_20 (flX12_7 _ rfl) rfl rfl ?_
    refine pm_iconst (v := nI 0) hG dX12_town_23 (by decide) ?_
    refine pm_dup2 hG dX12_town_24 rfl rfl ?_
    refine pm_ialdN hG dX12_town_25 rfl (by decide) (by omega) ?_
    refine pm_top (v := nI k1) ek1 ?_
    refine pm_iconst (v := nI 1) hG dX12_town_26 (by decide) ?_
    refine pm_iaddN (c := k1 + 1) hG dX12_town_27 (by omega) ?_
    refine pm_iastN hG dX12_town_28 rfl (by decide) (by omega) ?_
    refine mdn_now (fun n_3 en_3 => ?_)
    have hnn_3 := KI.w en_3 hn (okv_n (show kd 0 = (1, 11, true) by decide) (by omega))
    have hrn_3 := NRx.town en_3 hr (by omega)
    have e4 : n_3 0 = nI (k1 + 1) := by rw [en_3, pk_us]
    refine pm_aloadn hG dX12_town_29 rfl ?_
    refine pm_getf hG dX12_town_30 (flX12_7 _ rfl) rfl rfl ?_
    refine pm_bipush (v := nI 20) hG dX12_town_33 (by decide) ?_
    refine pm_iconst (v := nI 3) hG dX12_town_35 (by decide) ?_
    refine pm_iloadn hG dX12_town_36 rfl ?_
    refine pm_imulN (c := 3 * k1) hG dX12_town_37 (by omega) ?_
    refine pm_iaddN (c := 3 * k1 + 20) hG dX12_town_38 (by omega) ?_
    refine pm_iconst (v := nI 0) hG dX12_town_39 (by decide) ?_
    refine pm_iastN hG dX12_town_40 rfl (by decide) (by omega) ?_
    refine mdn_now (fun n_5 en_5 => ?_)
    have hnn_5 := KI.w en_5 hnn_3 (okv_f (show kd (3 * k1 + 20) = (0, 0, false) from (kd_T (k := k1) (c := 0) (by omega) (by omega) (by decide))))
    have hrn_5 := NRx.w en_5 hrn_3 (by rw [(show kd (3 * k1 + 20) = (0, 0, false) from (kd_T (k := k1) (c := 0) (by omega) (by omega) (by decide)))])
    have e6 : n_5 0 = nI (k1 + 1) := by rw [en_5, pk_un (by omega)]; exact e4
    have e7 : n_5 (3 * k1 + 20) = nI 0 := by rw [en_5, pk_us]
    refine pm_aloadn hG dX12_town_41 rfl ?_
    refine pm_getf hG dX12_town_42 (flX12_7 _ rfl) rfl rfl ?_
    refine pm_bipush (v := nI 20) hG dX12_town_45 (by decide) ?_
    refine pm_iconst (v := nI 3) hG dX12_town_47 (by decide) ?_
    refine pm_iloadn hG dX12_town_48 rfl ?_
    refine pm_imulN (c := 3 * k1) hG dX12_town_49 (by omega) ?_
    refine pm_iaddN (c := 3 * k1 + 20) hG dX12_town_50 (by omega) ?_
    refine pm_iconst (v := nI 1) hG dX12_town_51 (by decide) ?_
    refine pm_iaddN (c := 3 * k1 + 21) hG dX12_town_52 (by omega) ?_
    refine pm_iconst (v := (-1)) hG dX12_town_53 (by decide) ?_
    refine pm_iastN hG dX12_town_54 rfl (by decide) (by omega) ?_
    refine mdn_now (fun n_8 en_8 => ?_)
    have hnn_8 := KI.w en_8 hnn_5 (okv_m (show kd (3 * k1 + 21) = (2, 20, false) from (kd_T (k := k1) (c := 1) (by omega) (by omega) (by decide))))
    have hrn_8 := NRx.w en_8 hrn_5 (by rw [(show kd (3 * k1 + 21) = (2, 20, false) from (kd_T (k := k1) (c := 1) (by omega) (by omega) (by decide)))])
    have e9 : n_8 0 = nI (k1 + 1) := by rw [en_8, pk_un (by omega)]; exact e6
    have e10 : n_8 (3 * k1 + 20) = nI 0 := by rw [en_8, pk_un (by omega)]; exact e7
    have e11 : n_8 (3 * k1 + 21) = (-1) := by rw [en_8, pk_us]
    refine pm_aloadn hG dX12_town_55 rfl ?_
    refine pm_getf hG dX12_town_56 (flX12_7 _ rfl) rfl rfl ?_
    refine pm_bipush (v := nI 20) hG dX12_town_59 (by decide) ?_
    refine pm_iconst (v := nI 3) hG dX12_town_61 (by decide) ?_
    refine pm_iloadn hG dX12_town_62 rfl ?_
    refine pm_imulN (c := 3 * k1) hG dX12_town_63 (by omega) ?_
    refine pm_iaddN (c := 3 * k1 + 20) hG dX12_town_64 (by omega) ?_
    refine pm_iconst (v := nI 2) hG dX12_town_65 (by decide) ?_
    refine pm_iaddN (c := 3 * k1 + 22) hG dX12_town_66 (by omega) ?_
    refine pm_iconst (v := nI 0) hG dX12_town_67 (by decide) ?_
    refine pm_iastN hG dX12_town_68 rfl (by decide) (by omega) ?_
    refine mdn_now (fun n_12 en_12 => ?_)
    have hnn_12 := KI.w en_12 hnn_8 (okv_f (show kd (3 * k1 + 22) = (0, 0, false) from (kd_T (k := k1) (c := 2) (by omega) (by omega) (by decide))))
    have hrn_12 := NRx.w en_12 hrn_8 (by rw [(show kd (3 * k1 + 22) = (0, 0, false) from (kd_T (k := k1) (c := 2) (by omega) (by omega) (by decide)))])
    have e13 : n_12 0 = nI (k1 + 1) := by rw [en_12, pk_un (by omega)]; exact e9
    have e14 : n_12 (3 * k1 + 20) = nI 0 := by rw [en_12, pk_un (by omega)]; exact e10
    have e15 : n_12 (3 * k1 + 21) = (-1) := by rw [en_12, pk_un (by omega)]; exact e11
    have e16 : n_12 (3 * k1 + 22) = nI 0 := by rw [en_12, pk_us]
    refine pm_iloadn hG dX12_town_69 rfl ?_
    exact pm_iret hG hF dX12_town_70 rfl (Nat.le_refl _) (Nat.le_refl _) ⟨_, rfl, ⟨_, _, _, rfl, hnn_12, hrn_12⟩, rfl⟩
  · refine pm_aloadn hG dX12_town_13 rfl ?_
    refine pm_iconst (v := nI 4) hG dX12_town_14 (by decide) ?_
    refine pm_callV (As := [.int (nI 4)]) (rest := []) hG hR dX12_town_15 (lkX12_80 _ rfl) okV_X12_finds rfl rfl (m_finds (d := 1) (by decide) hn hz (by omega)) rfl rfl hdd (Nat.le_refl _) (Nat.le_refl _) (by decide) (pm_ki (fun v17 σ' cnt' hq => ?_))
    obtain ⟨⟨I18, A18, rfl⟩, rfl, fv17⟩ := hq
    exact pm_iret hG hF dX12_town_18 rfl (Nat.le_refl _) (Nat.le_refl _) ⟨_, rfl, ⟨_, _, _, rfl, hn, hr⟩, rfl⟩
