set_option maxRecDepth 100000 in
set_option maxHeartbeats 4000000 in
theorem m_bindsOf {d B cnt p0 t0 : Nat} {σ : pm_S} {I : Nat → Int32} {A : Nat → Nat → Int32} {n k z : Nat → Int32} {ac wt pl im : Int32} {y : Nat → Int32} {zb : Int32} {ba : Nat} (hdd : 6 ≤ d) (hn : KI n) (hz : SZ z) (ht0 : t0 ≤ 40) (hba : ba < 20) : pm_met mX12_bindsOf d 0 0 B [.ref (B + 54), .int (nI ba), .int zb] cnt (pm_mid σ (md_L B I A n k z ac wt pl (nI p0) (nI t0) im y)) (pm_Qi (fun v σ' cnt' => (∃ (I' : Nat → Int32) (A' : Nat → Nat → Int32) (t0' : Nat), σ' = pm_mid σ (md_L B I' A' n k z ac wt pl (nI p0) (nI t0') im y) ∧ t0' ≤ 40) ∧ cnt = cnt')) := by
  refine pm_enter 2 (by decide) (Nat.le_of_ble_eq_true rfl) rfl (fun G hG hR hF => ?_)
  refine pm_aloadn hG dX12_bindsOf_0 rfl ?_
  refine pm_iloadn hG dX12_bindsOf_1 rfl ?_
  refine pm_iconst (v := nI 0) hG dX12_bindsOf_2 (by decide) ?_
  refine pm_callV (As := [.int (nI ba), .int (nI 0)]) (rest := []) hG hR dX12_bindsOf_3 (lkX12_110 _ rfl) okV_X12_its rfl rfl (m_its (d := 5) (e := 6 * ba + 390) (by omega) (by omega) (by omega)) rfl rfl hdd (Nat.le_refl _) (Nat.le_refl _) (by decide) (pm_ki (fun v1 σ' cnt' hq => ?_))
  obtain ⟨rfl, rfl, rfl⟩ := hq
  refine pm_gen (fun x2 ex2 => ?_)
  refine pm_istoreXn (loc' := [some (.ref (B + 54)), some (.int (nI ba)), some (.int zb), some (.int x2), none]) hG dX12_bindsOf_6 (by decide) (pm_c1b rfl) rfl ?_
  refine pm_iloadn hG dX12_bindsOf_7 rfl ?_
  refine pm_iconst (v := nI 3) hG dX12_bindsOf_8 (by decide) ?_
  refine pm_icmp_eq (tgt := 17) hG dX12_bindsOf_9 rfl (fun c3 => ?_) (fun c3 => ?_)
  · refine pm_aloadn hG dX12_bindsOf_17 rfl ?_
    refine pm_bipush (v := nI 40) hG dX12_bindsOf_18 (by decide) ?_
    refine pm_callV (As := [.int (nI 40)]) (rest := []) hG hR dX12_bindsOf_20 (lkX12_286 _ rfl) okV_X12_ran rfl rfl (m_ran (d := 5) (by decide) hn hz (by omega)) rfl rfl hdd (Nat.le_refl _) (Nat.le_refl _) (by decide) (pm_kv (fun σ' cnt' hq => ?_))
    obtain ⟨⟨I5, A5, t5, rfl, ht5⟩, rfl⟩ := hq
    refine pm_aloadn hG dX12_bindsOf_23 rfl ?_
    refine pm_iloadn hG dX12_bindsOf_24 rfl ?_
    refine pm_iloadn hG dX12_bindsOf_25 rfl ?_
    refine pm_callV (As := [.int (nI ba), .int zb]) (rest := []) hG hR dX12_bindsOf_26 (lkX12_298 _ rfl) okV_X12_bindsPower rfl rfl (m_bindsPower (d := 5) (by decide) hn hz (by omega) (by omega)) rfl rfl hdd (Nat.le_refl _) (Nat.le_refl _) (by decide) (pm_ki (fun v6 σ' cnt' hq => ?_))
    obtain ⟨⟨I7, A7, t7, rfl, ht7⟩, rfl⟩ := hq
    refine pm_istoreXi (loc' := [some (.ref (B + 54)), some (.int (nI ba)), some (.int zb), some (.int x2), some (.int v6)]) hG dX12_bindsOf_29 (by decide) (pm_c1b rfl) rfl ?_
    refine pm_iloadi hG dX12_bindsOf_31 rfl ?_
    refine pm_aloadn hG dX12_bindsOf_33 rfl ?_
    refine pm_iloadn hG dX12_bindsOf_34 rfl ?_
    refine pm_iloadn hG dX12_bindsOf_35 rfl ?_
    refine pm_callV (As := [.int (nI ba), .int zb]) (rest := [.int v6]) hG hR dX12_bindsOf_36 (lkX12_295 _ rfl) okV_X12_actsOf rfl rfl (m_actsOf (d := 5) (by decide) hn hz (by omega) (by omega)) rfl rfl hdd (Nat.le_refl _) (Nat.le_refl _) (Nat.le_of_ble_eq_true rfl) (pm_ki (fun v8 σ' cnt' hq => ?_))
    obtain ⟨⟨I9, A9, t9, rfl, ht9⟩, rfl⟩ := hq
    refine pm_isub hG dX12_bindsOf_39 ?_
    exact pm_iret hG hF dX12_bindsOf_40 rfl (Nat.le_refl _) (Nat.le_refl _) ⟨_, rfl, ⟨_, _, _, rfl, by omega⟩, rfl⟩
  · refine pm_iloadn hG dX12_bindsOf_12 rfl ?_
    refine pm_iconst (v := nI 4) hG dX12_bindsOf_13 (by decide) ?_
    refine pm_icmp_ne (tgt := 41) hG dX12_bindsOf_14 rfl (fun c10 => ?_) (fun c10 => ?_)
    · refine pm_iloadn hG dX12_bindsOf_41 rfl ?_
      refine pm_iconst (v := nI 5) hG dX12_bindsOf_42 (by decide) ?_
      refine pm_icmp_eq (tgt := 53) hG dX12_bindsOf_43 rfl (fun c11 => ?_) (fun c11 => ?_)
      · refine pm_aloadn hG dX12_bindsOf_53 rfl ?_
        refine pm_bipush (v := nI 60) hG dX12_bindsOf_54 (by decide) ?_
        refine pm_callV (As := [.int (nI 60)]) (rest := []) hG hR dX12_bindsOf_56 (lkX12_286 _ rfl) okV_X12_ran rfl rfl (m_ran (d := 5) (by decide) hn hz (by omega)) rfl rfl hdd (Nat.le_refl _) (Nat.le_refl _) (by decide) (pm_kv (fun σ' cnt' hq => ?_))
        obtain ⟨⟨I13, A13, t13, rfl, ht13⟩, rfl⟩ := hq
        refine pm_aloadn hG dX12_bindsOf_59 rfl ?_
        refine pm_iloadn hG dX12_bindsOf_60 rfl ?_
        refine pm_iloadn hG dX12_bindsOf_61 rfl ?_
        refine pm_callV (As := [.int (nI ba), .int zb]) (rest := []) hG hR dX12_bindsOf_62 (lkX12_298 _ rfl) okV_X12_bindsPower rfl rfl (m_bindsPower (d := 5) (by decide) hn hz (by omega) (by omega)) rfl rfl hdd (Nat.le_refl _) (Nat.le_refl _) (by decide) (pm_ki (fun v14 σ' cnt' hq => ?_))
        obtain ⟨⟨I15, A15, t15, rfl, ht15⟩, rfl⟩ := hq
        refine pm_aloadn hG dX12_bindsOf_65 rfl ?_
        refine pm_iloadn hG dX12_bindsOf_66 rfl ?_
        refine pm_iconst (v := nI 4) hG dX12_bindsOf_67 (by decide) ?_
        refine pm_callV (As := [.int (nI ba), .int (nI 4)]) (rest := [.int v14]) hG hR dX12_bindsOf_68 (lkX12_110 _ rfl) okV_X12_its rfl rfl (m_its (d := 5) (e := 6 * ba + 394) (by omega) (by omega) (by omega)) rfl rfl hdd (Nat.le_refl _) (Nat.le_refl _) (Nat.le_of_ble_eq_true rfl) (pm_ki (fun v16 σ' cnt' hq => ?_))
        obtain ⟨rfl, rfl, rfl⟩ := hq
        refine pm_gen (fun x17 ex17 => ?_)
        refine pm_iadd hG dX12_bindsOf_71 ?_
        exact pm_iret hG hF dX12_bindsOf_72 rfl (Nat.le_refl _) (Nat.le_refl _) ⟨_, rfl, ⟨_, _, _, rfl, by omega⟩, rfl⟩
      · refine pm_aloadn hG dX12_bindsOf_46 rfl ?_
        refine pm_iloadn hG dX12_bindsOf_47 rfl ?_
        refine pm_iloadn hG dX12_bindsOf_48 rfl ?_
        refine pm_callV (As := [.int (nI ba), .int zb]) (rest := []) hG hR dX12_bindsOf_49 (lkX12_298 _ rfl) okV_X12_bindsPower rfl rfl (m_bindsPower (d := 5) (by decide) hn hz (by omega) (by omega)) rfl rfl hdd (Nat.le_refl _) (Nat.le_refl _) (by decide) (pm_ki (fun v18 σ' cnt' hq => ?_))
        obtain ⟨⟨I19, A19, t19, rfl, ht19⟩, rfl⟩ := hq
        exact pm_iret hG hF dX12_bindsOf_52 rfl (Nat.le_refl _) (Nat.le_refl _) ⟨_, rfl, ⟨_, _, _, rfl, by omega⟩, rfl⟩
    · refine pm_aloadn hG dX12_bindsOf_17 rfl ?_
      refine pm_bipush (v := nI 40) hG dX12_bindsOf_18 (by decide) ?_
      refine pm_callV (As := [.int (nI 40)]) (rest := []) hG hR dX12_bindsOf_20 (lkX12_286 _ rfl) okV_X12_ran rfl rfl (m_ran (d := 5) (by decide) hn hz (by omega)) rfl rfl hdd (Nat.le_refl _) (Nat.le_refl _) (by decide) (pm_kv (fun σ' cnt' hq => ?_))
      obtain ⟨⟨I21, A21, t21, rfl, ht21⟩, rfl⟩ := hq
      refine pm_aloadn hG dX12_bindsOf_23 rfl ?_
      refine pm_iloadn hG dX12_bindsOf_24 rfl ?_
      refine pm_iloadn hG dX12_bindsOf_25 rfl ?_
      refine pm_callV (As := [.int (nI ba), .int zb]) (rest := []) hG hR dX12_bindsOf_26 (lkX12_298 _ rfl) okV_X12_bindsPower rfl rfl (m_bindsPower (d := 5) (by decide) hn hz (by omega) (by omega)) rfl rfl hdd (Nat.le_refl _) (Nat.le_refl _) (by decide) (pm_ki (fun v22 σ' cnt' hq => ?_))
      obtain ⟨⟨I23, A23, t23, rfl, ht23⟩, rfl⟩ := hq
      refine pm_istoreXi (loc' := [some (.ref (B + 54)), some (.int (nI ba)), some (.int zb), some (.int x2), some (.int v22)]) hG dX12_bindsOf_29 (by decide) (pm_c1b rfl) rfl ?_
      refine pm_iloadi hG dX12_bindsOf_31 rfl ?_
      refine pm_aloadn hG dX12_bindsOf_33 rfl ?_
      refine pm_iloadn hG dX12_bindsOf_34 rfl ?_
      refine pm_iloadn hG dX12_bindsOf_35 rfl ?_
      refine pm_callV (As := [.int (nI ba), .int zb]) (rest := [.int v22]) hG hR dX12_bindsOf_36 (lkX12_295 _ rfl) okV_X12_actsOf rfl rfl (m_actsOf (d := 5) (by decide) hn hz (by omega) (by omega)) rfl rfl hdd (Nat.le_refl _) (Nat.le_refl _) (Nat.le_of_ble_eq_true rfl) (pm_ki (fun v24 σ' cnt' hq => ?_))
      obtain ⟨⟨I25, A25, t25, rfl, ht25⟩, rfl⟩ := hq
      refine pm_isub hG dX12_bindsOf_39 ?_
      exact pm_iret hG hF dX12_bindsOf_40 rfl (Nat.le_refl _) (Nat.le_refl _) ⟨_, rfl, ⟨_, _, _, rfl, by omega⟩, rfl⟩
