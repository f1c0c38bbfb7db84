set_option maxRecDepth 100000 in
set_option maxHeartbeats 4000000 in
theorem m_tellsOf {d B cnt p0 t0 : Nat} {σ : pm_S} {I : Nat → Int32} {A : Nat → Nat → Int32} {n k z : Nat → Int32} {ac wt pl im : Int32} {y : Nat → Int32} {zb : Int32} {ba : Nat} (hdd : 9 ≤ d) (hn : KI n) (hz : SZ z) (ht0 : t0 ≤ 40) (hba : ba < 20) : pm_met mX12_tellsOf d 0 0 B [.ref (B + 54), .int (nI ba), .int zb] cnt (pm_mid σ (md_L B I A n k z ac wt pl (nI p0) (nI t0) im y)) (pm_Qi (fun v σ' cnt' => (∃ (I' : Nat → Int32) (A' : Nat → Nat → Int32) (t0' : Nat), σ' = pm_mid σ (md_L B I' A' n k z ac wt pl (nI p0) (nI t0') im y) ∧ t0' ≤ 40) ∧ cnt = cnt')) := by
  refine pm_enter 2 (by decide) (Nat.le_of_ble_eq_true rfl) rfl (fun G hG hR hF => ?_)
  refine pm_aloadn hG dX12_tellsOf_0 rfl ?_
  refine pm_iloadn hG dX12_tellsOf_1 rfl ?_
  refine pm_iconst (v := nI 0) hG dX12_tellsOf_2 (by decide) ?_
  refine pm_callV (As := [.int (nI ba), .int (nI 0)]) (rest := []) hG hR dX12_tellsOf_3 (lkX12_110 _ rfl) okV_X12_its rfl rfl (m_its (d := 8) (e := 6 * ba + 390) (by omega) (by omega) (by omega)) rfl rfl hdd (Nat.le_refl _) (Nat.le_refl _) (by decide) (pm_ki (fun v1 σ' cnt' hq => ?_))
  obtain ⟨rfl, rfl, rfl⟩ := hq
  refine pm_gen (fun x2 ex2 => ?_)
  refine pm_istoreXn (loc' := [some (.ref (B + 54)), some (.int (nI ba)), some (.int zb), some (.int x2), none]) hG dX12_tellsOf_6 (by decide) (pm_c1b rfl) rfl ?_
  refine pm_iloadn hG dX12_tellsOf_7 rfl ?_
  refine pm_iconst (v := nI 1) hG dX12_tellsOf_8 (by decide) ?_
  refine pm_icmp_eq (tgt := 17) hG dX12_tellsOf_9 rfl (fun c3 => ?_) (fun c3 => ?_)
  · refine pm_aloadn hG dX12_tellsOf_17 rfl ?_
    refine pm_iloadn hG dX12_tellsOf_18 rfl ?_
    refine pm_iloadn hG dX12_tellsOf_19 rfl ?_
    refine pm_callV (As := [.int (nI ba), .int zb]) (rest := []) hG hR dX12_tellsOf_20 (lkX12_313 _ rfl) okV_X12_tellsOffice rfl rfl (m_tellsOffice (d := 8) (by decide) hn hz (by omega) (by omega)) rfl rfl hdd (Nat.le_refl _) (Nat.le_refl _) (by decide) (pm_ki (fun v4 σ' cnt' hq => ?_))
    obtain ⟨⟨I5, A5, t5, rfl, ht5⟩, rfl⟩ := hq
    exact pm_iret hG hF dX12_tellsOf_23 rfl (Nat.le_refl _) (Nat.le_refl _) ⟨_, rfl, ⟨_, _, _, rfl, by omega⟩, rfl⟩
  · refine pm_iloadn hG dX12_tellsOf_12 rfl ?_
    refine pm_iconst (v := nI 3) hG dX12_tellsOf_13 (by decide) ?_
    refine pm_icmp_ne (tgt := 24) hG dX12_tellsOf_14 rfl (fun c6 => ?_) (fun c6 => ?_)
    · refine pm_iloadn hG dX12_tellsOf_24 rfl ?_
      refine pm_iconst (v := nI 4) hG dX12_tellsOf_25 (by decide) ?_
      refine pm_icmp_eq (tgt := 36) hG dX12_tellsOf_26 rfl (fun c7 => ?_) (fun c7 => ?_)
      · refine pm_aloadn hG dX12_tellsOf_36 rfl ?_
        refine pm_bipush (v := nI 51) hG dX12_tellsOf_37 (by decide) ?_
        refine pm_callV (As := [.int (nI 51)]) (rest := []) hG hR dX12_tellsOf_39 (lkX12_286 _ rfl) okV_X12_ran rfl rfl (m_ran (d := 8) (by decide) hn hz (by omega)) rfl rfl hdd (Nat.le_refl _) (Nat.le_refl _) (by decide) (pm_kv (fun σ' cnt' hq => ?_))
        obtain ⟨⟨I9, A9, t9, rfl, ht9⟩, rfl⟩ := hq
        refine pm_aloadn hG dX12_tellsOf_42 rfl ?_
        refine pm_iloadn hG dX12_tellsOf_43 rfl ?_
        refine pm_iloadn hG dX12_tellsOf_44 rfl ?_
        refine pm_callV (As := [.int (nI ba), .int zb]) (rest := []) hG hR dX12_tellsOf_45 (lkX12_307 _ rfl) okV_X12_ranksOf rfl rfl (m_ranksOf (d := 8) (by decide) hn hz (by omega) (by omega)) rfl rfl hdd (Nat.le_refl _) (Nat.le_refl _) (by decide) (pm_ki (fun v10 σ' cnt' hq => ?_))
        obtain ⟨⟨I11, A11, t11, rfl, ht11⟩, rfl⟩ := hq
        refine pm_istoreXi (loc' := [some (.ref (B + 54)), some (.int (nI ba)), some (.int zb), some (.int x2), some (.int v10)]) hG dX12_tellsOf_48 (by decide) (pm_c1b rfl) rfl ?_
        refine pm_iloadi hG dX12_tellsOf_50 rfl ?_
        refine pm_aloadn hG dX12_tellsOf_52 rfl ?_
        refine pm_iloadn hG dX12_tellsOf_53 rfl ?_
        refine pm_iloadn hG dX12_tellsOf_54 rfl ?_
        refine pm_callV (As := [.int (nI ba), .int zb]) (rest := [.int v10]) hG hR dX12_tellsOf_55 (lkX12_313 _ rfl) okV_X12_tellsOffice rfl rfl (m_tellsOffice (d := 8) (by decide) hn hz (by omega) (by omega)) rfl rfl hdd (Nat.le_refl _) (Nat.le_refl _) (Nat.le_of_ble_eq_true rfl) (pm_ki (fun v12 σ' cnt' hq => ?_))
        obtain ⟨⟨I13, A13, t13, rfl, ht13⟩, rfl⟩ := hq
        refine pm_isub hG dX12_tellsOf_58 ?_
        exact pm_iret hG hF dX12_tellsOf_59 rfl (Nat.le_refl _) (Nat.le_refl _) ⟨_, rfl, ⟨_, _, _, rfl, by omega⟩, rfl⟩
      · refine pm_aloadn hG dX12_tellsOf_29 rfl ?_
        refine pm_iloadn hG dX12_tellsOf_30 rfl ?_
        refine pm_iloadn hG dX12_tellsOf_31 rfl ?_
        refine pm_callV (As := [.int (nI ba), .int zb]) (rest := []) hG hR dX12_tellsOf_32 (lkX12_310 _ rfl) okV_X12_tellsPower rfl rfl (m_tellsPower (d := 8) (by decide) hn hz (by omega) (by omega)) rfl rfl hdd (Nat.le_refl _) (Nat.le_refl _) (by decide) (pm_ki (fun v14 σ' cnt' hq => ?_))
        obtain ⟨⟨I15, A15, t15, rfl, ht15⟩, rfl⟩ := hq
        exact pm_iret hG hF dX12_tellsOf_35 rfl (Nat.le_refl _) (Nat.le_refl _) ⟨_, rfl, ⟨_, _, _, rfl, by omega⟩, rfl⟩
    · refine pm_aloadn hG dX12_tellsOf_17 rfl ?_
      refine pm_iloadn hG dX12_tellsOf_18 rfl ?_
      refine pm_iloadn hG dX12_tellsOf_19 rfl ?_
      refine pm_callV (As := [.int (nI ba), .int zb]) (rest := []) hG hR dX12_tellsOf_20 (lkX12_313 _ rfl) okV_X12_tellsOffice rfl rfl (m_tellsOffice (d := 8) (by decide) hn hz (by omega) (by omega)) rfl rfl hdd (Nat.le_refl _) (Nat.le_refl _) (by decide) (pm_ki (fun v16 σ' cnt' hq => ?_))
      obtain ⟨⟨I17, A17, t17, rfl, ht17⟩, rfl⟩ := hq
      exact pm_iret hG hF dX12_tellsOf_23 rfl (Nat.le_refl _) (Nat.le_refl _) ⟨_, rfl, ⟨_, _, _, rfl, by omega⟩, rfl⟩
