set_option maxRecDepth 100000 in
set_option maxHeartbeats 4000000 in
theorem m_leaves {d B cnt p0 t0 : Nat} {σ : pm_S} {I : Nat → Int32} {A : Nat → Nat → Int32} {n k z : Nat → Int32} {ac wt pl im : Int32} {y : Nat → Int32} {ba : Nat} (hdd : 1 ≤ d) (hn : KI n) (hr : NR n) (hz : SZ z) (hba : ba < 20) : pm_met mX12_leaves d 0 0 B [.ref (B + 54), .int (nI ba)] cnt (pm_mid σ (md_L B I A n k z ac wt pl (nI p0) (nI t0) im y)) (pm_Qv (fun σ' cnt' => (∃ (n' : Nat → Int32), σ' = pm_mid σ (md_L B I A n' k z ac wt pl (nI p0) (nI t0) im y) ∧ KI n' ∧ NR n') ∧ cnt = cnt')) := by
  refine pm_enter 1 (by decide) (Nat.le_of_ble_eq_true rfl) rfl (fun G hG hR hF => ?_)
  refine pm_aloadn hG dX12_leaves_0 rfl ?_
  refine pm_iloadn hG dX12_leaves_1 rfl ?_
  refine pm_bipush (v := nI 11) hG dX12_leaves_2 (by decide) ?_
  refine pm_iconst (v := nI 0) hG dX12_leaves_4 (by decide) ?_
  refine pm_callV (As := [.int (nI ba), .int (nI 11), .int (nI 0)]) (rest := []) hG hR dX12_leaves_5 (lkX12_97 _ rfl) okV_X12_sets rfl rfl (m_sets (d := 0) (e := 14 * ba + 121) (by omega) (by omega) (by omega)) rfl rfl hdd (Nat.le_refl _) (Nat.le_refl _) (by decide) (pm_kv (fun σ' cnt' hq => ?_))
  obtain ⟨rfl, rfl⟩ := hq
  obtain ⟨n_1, en_1⟩ : ∃ f : Nat → Int32, f = upd n (14 * ba + 121) (nI 0) := ⟨_, rfl⟩
  rw [← en_1]
  have hnn_1 := KI.w en_1 hn (okv_n (show kd (14 * ba + 121) = (1, 2, true) from (kd_P (k := ba) (c := 11) (by omega) (by omega) (by decide))) (by omega))
  have hrn_1 := NRx.unseat (p := ba) en_1 hr (by omega)
  have e2 : n_1 (14 * ba + 121) = nI 0 := by rw [en_1, pk_us]
  refine pm_iconst (v := nI 0) hG dX12_leaves_8 (by decide) ?_
  refine pm_istoreXn (loc' := [some (.ref (B + 54)), some (.int (nI ba)), some (.int (nI 0))]) hG dX12_leaves_9 (by decide) (pm_c1b rfl) rfl ?_
  have loop10_3 : ∀ (m3 : Nat) (n_3 : Nat → Int32) (i3 : Nat), KI n_3 → NRx 40 n_3 → i3 ≤ 30 → 30 - i3 < m3 → pm_wp mX12_leaves G B 10 [some (.ref (B + 54)), some (.int (nI ba)), some (.int (nI i3))] [] 0 0 cnt (pm_mid σ (md_L B I A n_3 k z ac wt pl (nI p0) (nI t0) im y)) := by
    intro m3
    induction m3 with
    | zero => intro n_3 i3 _ _ _ hm; exact absurd hm (Nat.not_lt_zero _)
    | succ m3 ih3 =>
      intro n_3 i3 hnn_3 hrn_3 hi3 hm3
      refine pm_iloadn hG dX12_leaves_10 rfl ?_
      refine pm_aloadn hG dX12_leaves_11 rfl ?_
      refine pm_getf hG dX12_leaves_12 (flX12_7 _ rfl) rfl rfl ?_
      refine pm_bipush (v := nI 7) hG dX12_leaves_15 (by decide) ?_
      refine pm_ialdN hG dX12_leaves_17 rfl (by decide) (by omega) ?_
      obtain ⟨k4, hk4, ek4⟩ := KI.nat hnn_3 (show kd 7 = (1, 31, false) by decide)
      refine pm_top (v := nI k4) ek4 ?_
      refine pm_icmpN_ge (tgt := 53) hG dX12_leaves_18 rfl (by omega) (by omega) (fun c5 => ?_) (fun c5 => ?_)
      · exact pm_vret hG hF dX12_leaves_53 rfl (Nat.le_refl _) (Nat.le_refl _) ⟨rfl, ⟨_, rfl, hnn_3, hrn_3⟩, rfl⟩
      · refine pm_aloadn hG dX12_leaves_21 rfl ?_
        refine pm_iloadn hG dX12_leaves_22 rfl ?_
        refine pm_iconst (v := nI 0) hG dX12_leaves_23 (by decide) ?_
        refine pm_callV (As := [.int (nI i3), .int (nI 0)]) (rest := []) hG hR dX12_leaves_24 (lkX12_223 _ rfl) okV_X12_promised rfl rfl (m_promised (d := 0) (e := 6 * i3 + 1806) (by omega) (by omega) (by omega)) rfl rfl hdd (Nat.le_refl _) (Nat.le_refl _) (by decide) (pm_ki (fun v6 σ' cnt' hq => ?_))
        obtain ⟨rfl, rfl, rfl⟩ := hq
        obtain ⟨k7, hk7, ek7⟩ := KI.nat hnn_3 (show kd (6 * i3 + 1806) = (1, 20, false) from (kd_Q (k := i3) (c := 0) (by omega) (by omega) (by decide)))
        refine pm_top (v := nI k7) ek7 ?_
        refine pm_iloadn hG dX12_leaves_27 rfl ?_
        refine pm_icmpN_ne (tgt := 47) hG dX12_leaves_28 rfl (by omega) (by omega) (fun c8 => ?_) (fun c8 => ?_)
        · refine pm_iincX (v := nI (i3 + 1)) (loc' := [some (.ref (B + 54)), some (.int (nI ba)), some (.int (nI (i3 + 1)))]) hG dX12_leaves_47 rfl (nI_1 _) (by decide) (pm_c1b rfl) rfl ?_
          refine pm_goto (tgt := 10) hG dX12_leaves_50 rfl ?_
          exact ih3 n_3 (i3 + 1) hnn_3 hrn_3 (by omega) (by omega)
        · refine pm_aloadn hG dX12_leaves_31 rfl ?_
          refine pm_getf hG dX12_leaves_32 (flX12_7 _ rfl) rfl rfl ?_
          refine pm_sipush (v := nI 1806) hG dX12_leaves_35 (by decide) ?_
          refine pm_bipush (v := nI 6) hG dX12_leaves_38 (by decide) ?_
          refine pm_iloadn hG dX12_leaves_40 rfl ?_
          refine pm_imulN (c := 6 * i3) hG dX12_leaves_41 (by omega) ?_
          refine pm_iaddN (c := 6 * i3 + 1806) hG dX12_leaves_42 (by omega) ?_
          refine pm_iconst (v := nI 5) hG dX12_leaves_43 (by decide) ?_
          refine pm_iaddN (c := 6 * i3 + 1811) hG dX12_leaves_44 (by omega) ?_
          refine pm_iconst (v := nI 1) hG dX12_leaves_45 (by decide) ?_
          refine pm_iastN hG dX12_leaves_46 rfl (by decide) (by omega) ?_
          refine mdn_now (fun n_9 en_9 => ?_)
          have hnn_9 := KI.w en_9 hnn_3 (okv_f (show kd (6 * i3 + 1811) = (0, 0, false) from (kd_Q (k := i3) (c := 5) (by omega) (by omega) (by decide))))
          have hrn_9 := NRx.w en_9 hrn_3 (by rw [(show kd (6 * i3 + 1811) = (0, 0, false) from (kd_Q (k := i3) (c := 5) (by omega) (by omega) (by decide)))])
          have e10 : n_9 7 = nI k4 := by rw [en_9, pk_un (by omega)]; exact ek4
          have e11 : n_9 (6 * i3 + 1806) = nI k7 := by rw [en_9, pk_un (by omega)]; exact ek7
          have e12 : n_9 (6 * i3 + 1811) = nI 1 := by rw [en_9, pk_us]
          refine pm_iincX (v := nI (i3 + 1)) (loc' := [some (.ref (B + 54)), some (.int (nI ba)), some (.int (nI (i3 + 1)))]) hG dX12_leaves_47 rfl (nI_1 _) (by decide) (pm_c1b rfl) rfl ?_
          refine pm_goto (tgt := 10) hG dX12_leaves_50 rfl ?_
          exact ih3 n_9 (i3 + 1) hnn_9 hrn_9 (by omega) (by omega)
  exact loop10_3 _ n_1 0 hnn_1 hrn_1 (by omega) (Nat.lt_succ_self _)
