set_option maxRecDepth 100000 in
set_option maxHeartbeats 4000000 in
theorem m_actsOf {d B cnt p0 t0 : Nat} {σ : pm_S} {I : Nat → Int32} {A : Nat → Nat → Int32} {n k z : Nat → Int32} {ac wt pl im : Int32} {y : Nat → Int32} {zb : Int32} {ba : Nat} (hdd : 4 ≤ d) (hn : KI n) (hz : SZ z) (ht0 : t0 ≤ 40) (hba : ba < 20) : pm_met mX12_actsOf d 0 0 B [.ref (B + 54), .int (nI ba), .int zb] cnt (pm_mid σ (md_L B I A n k z ac wt pl (nI p0) (nI t0) im y)) (pm_Qi (fun v σ' cnt' => (∃ (I' : Nat → Int32) (A' : Nat → Nat → Int32) (t0' : Nat), σ' = pm_mid σ (md_L B I' A' n k z ac wt pl (nI p0) (nI t0') im y) ∧ t0' ≤ 40) ∧ cnt = cnt')) := by
  refine pm_enter 1 (by decide) (Nat.le_of_ble_eq_true rfl) rfl (fun G hG hR hF => ?_)
  refine pm_aloadn hG dX12_actsOf_0 rfl ?_
  refine pm_iloadn hG dX12_actsOf_1 rfl ?_
  refine pm_iconst (v := nI 0) hG dX12_actsOf_2 (by decide) ?_
  refine pm_callV (As := [.int (nI ba), .int (nI 0)]) (rest := []) hG hR dX12_actsOf_3 (lkX12_110 _ rfl) okV_X12_its rfl rfl (m_its (d := 3) (e := 6 * ba + 390) (by omega) (by omega) (by omega)) rfl rfl hdd (Nat.le_refl _) (Nat.le_refl _) (by decide) (pm_ki (fun v1 σ' cnt' hq => ?_))
  obtain ⟨rfl, rfl, rfl⟩ := hq
  refine pm_gen (fun x2 ex2 => ?_)
  refine pm_istoreXn (loc' := [some (.ref (B + 54)), some (.int (nI ba)), some (.int zb), some (.int x2)]) hG dX12_actsOf_6 (by decide) (pm_c1b rfl) rfl ?_
  refine pm_iloadn hG dX12_actsOf_7 rfl ?_
  refine pm_iconst (v := nI 1) hG dX12_actsOf_8 (by decide) ?_
  refine pm_icmp_eq (tgt := 17) hG dX12_actsOf_9 rfl (fun c3 => ?_) (fun c3 => ?_)
  · refine pm_aloadn hG dX12_actsOf_17 rfl ?_
    refine pm_iloadn hG dX12_actsOf_18 rfl ?_
    refine pm_iloadn hG dX12_actsOf_19 rfl ?_
    refine pm_callV (As := [.int (nI ba), .int zb]) (rest := []) hG hR dX12_actsOf_20 (lkX12_292 _ rfl) okV_X12_actsOffice rfl rfl (m_actsOffice (d := 3) (by decide) hn hz (by omega) (by omega)) rfl rfl hdd (Nat.le_refl _) (Nat.le_refl _) (by decide) (pm_ki (fun v4 σ' cnt' hq => ?_))
    obtain ⟨⟨I5, A5, t5, rfl, ht5⟩, rfl⟩ := hq
    exact pm_iret hG hF dX12_actsOf_23 rfl (Nat.le_refl _) (Nat.le_refl _) ⟨_, rfl, ⟨_, _, _, rfl, by omega⟩, rfl⟩
  · refine pm_iloadn hG dX12_actsOf_12 rfl ?_
    refine pm_iconst (v := nI 3) hG dX12_actsOf_13 (by decide) ?_
    refine pm_icmp_ne (tgt := 24) hG dX12_actsOf_14 rfl (fun c6 => ?_) (fun c6 => ?_)
    · refine pm_iloadn hG dX12_actsOf_24 rfl ?_
      refine pm_iconst (v := nI 4) hG dX12_actsOf_25 (by decide) ?_
      refine pm_icmp_eq (tgt := 36) hG dX12_actsOf_26 rfl (fun c7 => ?_) (fun c7 => ?_)
      · refine pm_aloadn hG dX12_actsOf_36 rfl ?_
        refine pm_bipush (v := nI 50) hG dX12_actsOf_37 (by decide) ?_
        refine pm_callV (As := [.int (nI 50)]) (rest := []) hG hR dX12_actsOf_39 (lkX12_286 _ rfl) okV_X12_ran rfl rfl (m_ran (d := 3) (by decide) hn hz (by omega)) rfl rfl hdd (Nat.le_refl _) (Nat.le_refl _) (by decide) (pm_kv (fun σ' cnt' hq => ?_))
        obtain ⟨⟨I9, A9, t9, rfl, ht9⟩, rfl⟩ := hq
        refine pm_aloadn hG dX12_actsOf_42 rfl ?_
        refine pm_iloadn hG dX12_actsOf_43 rfl ?_
        refine pm_iloadn hG dX12_actsOf_44 rfl ?_
        refine pm_aloadn hG dX12_actsOf_45 rfl ?_
        refine pm_iloadn hG dX12_actsOf_46 rfl ?_
        refine pm_iconst (v := nI 4) hG dX12_actsOf_47 (by decide) ?_
        refine pm_callV (As := [.int (nI ba), .int (nI 4)]) (rest := [.int zb, .int (nI ba), .ref (B + 54)]) hG hR dX12_actsOf_48 (lkX12_110 _ rfl) okV_X12_its rfl rfl (m_its (d := 3) (e := 6 * ba + 394) (by omega) (by omega) (by omega)) rfl rfl hdd (Nat.le_refl _) (Nat.le_refl _) (Nat.le_of_ble_eq_true rfl) (pm_ki (fun v10 σ' cnt' hq => ?_))
        obtain ⟨rfl, rfl, rfl⟩ := hq
        refine pm_gen (fun x11 ex11 => ?_)
        refine pm_isub hG dX12_actsOf_51 ?_
        refine pm_callV (As := [.int (nI ba), .int (zb - x11)]) (rest := []) hG hR dX12_actsOf_52 (lkX12_292 _ rfl) okV_X12_actsOffice rfl rfl (m_actsOffice (d := 3) (by decide) hn hz (by omega) (by omega)) rfl rfl hdd (Nat.le_refl _) (Nat.le_refl _) (by decide) (pm_ki (fun v12 σ' cnt' hq => ?_))
        obtain ⟨⟨I13, A13, t13, rfl, ht13⟩, rfl⟩ := hq
        exact pm_iret hG hF dX12_actsOf_55 rfl (Nat.le_refl _) (Nat.le_refl _) ⟨_, rfl, ⟨_, _, _, rfl, by omega⟩, rfl⟩
      · refine pm_aloadn hG dX12_actsOf_29 rfl ?_
        refine pm_iloadn hG dX12_actsOf_30 rfl ?_
        refine pm_iloadn hG dX12_actsOf_31 rfl ?_
        refine pm_callV (As := [.int (nI ba), .int zb]) (rest := []) hG hR dX12_actsOf_32 (lkX12_289 _ rfl) okV_X12_actsPower rfl rfl (m_actsPower (d := 3) (by decide) hn hz (by omega) (by omega)) rfl rfl hdd (Nat.le_refl _) (Nat.le_refl _) (by decide) (pm_ki (fun v14 σ' cnt' hq => ?_))
        obtain ⟨⟨I15, A15, t15, rfl, ht15⟩, rfl⟩ := hq
        exact pm_iret hG hF dX12_actsOf_35 rfl (Nat.le_refl _) (Nat.le_refl _) ⟨_, rfl, ⟨_, _, _, rfl, by omega⟩, rfl⟩
    · refine pm_aloadn hG dX12_actsOf_17 rfl ?_
      refine pm_iloadn hG dX12_actsOf_18 rfl ?_
      refine pm_iloadn hG dX12_actsOf_19 rfl ?_
      refine pm_callV (As := [.int (nI ba), .int zb]) (rest := []) hG hR dX12_actsOf_20 (lkX12_292 _ rfl) okV_X12_actsOffice rfl rfl (m_actsOffice (d := 3) (by decide) hn hz (by omega) (by omega)) rfl rfl hdd (Nat.le_refl _) (Nat.le_refl _) (by decide) (pm_ki (fun v16 σ' cnt' hq => ?_))
      obtain ⟨⟨I17, A17, t17, rfl, ht17⟩, rfl⟩ := hq
      exact pm_iret hG hF dX12_actsOf_23 rfl (Nat.le_refl _) (Nat.le_refl _) ⟨_, rfl, ⟨_, _, _, rfl, by omega⟩, rfl⟩
