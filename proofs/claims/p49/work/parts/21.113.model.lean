set_option maxRecDepth 100000 in
set_option maxHeartbeats 4000000 in
theorem m_tellsPower {d B cnt p0 t0 : Nat} {σ : pm_S} {I : Nat → Int32} {A : Nat → Nat → Int32} {n k z : Nat → Int32} {ac wt pl im : Int32} {y : Nat → Int32} {zb : Int32} {ba : Nat} (hdd : 7 ≤ d) (hn : KI n) (hz : SZ z) (ht0 : t0 ≤ 40) (hba : ba < 20) : pm_met mX12_tellsPower d 0 0 B [.ref (B + 54), .int (nI ba), .int zb] cnt (pm_mid σ (md_L B I A n k z ac wt pl (nI p0) (nI t0) im y)) (pm_Qi (fun v σ' cnt' => (∃ (I' : Nat → Int32) (A' : Nat → Nat → Int32) (t0' : Nat), σ' = pm_mid σ (md_L B I' A' n k z ac wt pl (nI p0) (nI t0') im y) ∧ t0' ≤ 40) ∧ cnt = cnt')) := by
  refine pm_enter 1 (by decide) (Nat.le_of_ble_eq_true rfl) rfl (fun G hG hR hF => ?_)
  refine pm_aloadn hG dX12_tellsPower_0 rfl ?_
  refine pm_bipush (v := nI 13) hG dX12_tellsPower_1 (by decide) ?_
  refine pm_callV (As := [.int (nI 13)]) (rest := []) hG hR dX12_tellsPower_3 (lkX12_286 _ rfl) okV_X12_ran rfl rfl (m_ran (d := 6) (by decide) hn hz (by omega)) rfl rfl hdd (Nat.le_refl _) (Nat.le_refl _) (by decide) (pm_kv (fun σ' cnt' hq => ?_))
  obtain ⟨⟨I2, A2, t2, rfl, ht2⟩, rfl⟩ := hq
  refine pm_aloadn hG dX12_tellsPower_6 rfl ?_
  refine pm_iloadn hG dX12_tellsPower_7 rfl ?_
  refine pm_iloadn hG dX12_tellsPower_8 rfl ?_
  refine pm_callV (As := [.int (nI ba), .int zb]) (rest := []) hG hR dX12_tellsPower_9 (lkX12_304 _ rfl) okV_X12_bindsOf rfl rfl (m_bindsOf (d := 6) (by decide) hn hz (by omega) (by omega)) rfl rfl hdd (Nat.le_refl _) (Nat.le_refl _) (by decide) (pm_ki (fun v3 σ' cnt' hq => ?_))
  obtain ⟨⟨I4, A4, t4, rfl, ht4⟩, rfl⟩ := hq
  refine pm_istoreXn (loc' := [some (.ref (B + 54)), some (.int (nI ba)), some (.int zb), some (.int v3)]) hG dX12_tellsPower_12 (by decide) (pm_c1b rfl) rfl ?_
  refine pm_iloadn hG dX12_tellsPower_13 rfl ?_
  refine pm_aloadn hG dX12_tellsPower_14 rfl ?_
  refine pm_iloadn hG dX12_tellsPower_15 rfl ?_
  refine pm_iloadn hG dX12_tellsPower_16 rfl ?_
  refine pm_callV (As := [.int (nI ba), .int zb]) (rest := [.int v3]) hG hR dX12_tellsPower_17 (lkX12_307 _ rfl) okV_X12_ranksOf rfl rfl (m_ranksOf (d := 6) (by decide) hn hz (by omega) (by omega)) rfl rfl hdd (Nat.le_refl _) (Nat.le_refl _) (Nat.le_of_ble_eq_true rfl) (pm_ki (fun v5 σ' cnt' hq => ?_))
  obtain ⟨⟨I6, A6, t6, rfl, ht6⟩, rfl⟩ := hq
  refine pm_ixor hG dX12_tellsPower_20 ?_
  refine pm_any (fun x7 => ?_)
  exact pm_iret hG hF dX12_tellsPower_21 rfl (Nat.le_refl _) (Nat.le_refl _) ⟨_, rfl, ⟨_, _, _, rfl, by omega⟩, rfl⟩
