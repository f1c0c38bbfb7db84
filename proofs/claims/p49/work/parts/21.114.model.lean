set_option maxRecDepth 100000 in
set_option maxHeartbeats 4000000 in
theorem m_tellsOffice {d B cnt p0 t0 : Nat} {σ : pm_S} {I : Nat → Int32} {A : Nat → Nat → Int32} {n k z : Nat → Int32} {ac wt pl im : Int32} {y : Nat → Int32} {zb : Int32} {ba : Nat} (hdd : 8 ≤ d) (hn : KI n) (hz : SZ z) (ht0 : t0 ≤ 40) (hba : ba < 20) : pm_met mX12_tellsOffice d 0 0 B [.ref (B + 54), .int (nI ba), .int zb] cnt (pm_mid σ (md_L B I A n k z ac wt pl (nI p0) (nI t0) im y)) (pm_Qi (fun v σ' cnt' => (∃ (I' : Nat → Int32) (A' : Nat → Nat → Int32) (t0' : Nat), σ' = pm_mid σ (md_L B I' A' n k z ac wt pl (nI p0) (nI t0') im y) ∧ t0' ≤ 40) ∧ cnt = cnt')) := by
  refine pm_enter 0 (by decide) (Nat.le_of_ble_eq_true rfl) rfl (fun G hG hR hF => ?_)
  refine pm_aloadn hG dX12_tellsOffice_0 rfl ?_
  refine pm_bipush (v := nI 21) hG dX12_tellsOffice_1 (by decide) ?_
  refine pm_callV (As := [.int (nI 21)]) (rest := []) hG hR dX12_tellsOffice_3 (lkX12_286 _ rfl) okV_X12_ran rfl rfl (m_ran (d := 7) (by decide) hn hz (by omega)) rfl rfl hdd (Nat.le_refl _) (Nat.le_refl _) (by decide) (pm_kv (fun σ' cnt' hq => ?_))
  obtain ⟨⟨I2, A2, t2, rfl, ht2⟩, rfl⟩ := hq
  refine pm_aloadn hG dX12_tellsOffice_6 rfl ?_
  refine pm_iloadn hG dX12_tellsOffice_7 rfl ?_
  refine pm_iloadn hG dX12_tellsOffice_8 rfl ?_
  refine pm_iconst (v := nI 1) hG dX12_tellsOffice_9 (by decide) ?_
  refine pm_iadd hG dX12_tellsOffice_10 ?_
  refine pm_callV (As := [.int (nI ba), .int (zb + (nI 1))]) (rest := []) hG hR dX12_tellsOffice_11 (lkX12_310 _ rfl) okV_X12_tellsPower rfl rfl (m_tellsPower (d := 7) (by decide) hn hz (by omega) (by omega)) rfl rfl hdd (Nat.le_refl _) (Nat.le_refl _) (by decide) (pm_ki (fun v3 σ' cnt' hq => ?_))
  obtain ⟨⟨I4, A4, t4, rfl, ht4⟩, rfl⟩ := hq
  exact pm_iret hG hF dX12_tellsOffice_14 rfl (Nat.le_refl _) (Nat.le_refl _) ⟨_, rfl, ⟨_, _, _, rfl, by omega⟩, rfl⟩
