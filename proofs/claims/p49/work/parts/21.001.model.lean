set_option maxRecDepth 100000 in
set_option maxHeartbeats 4000000 in
theorem m_farOf {d B cnt p0 t0 : Nat} {σ : pm_S} {I : Nat → Int32} {A : Nat → Nat → Int32} {n k z : Nat → Int32} {ac wt pl im : Int32} {y : Nat → Int32} {za : Int32} {bb : Nat} (hdd : 2 ≤ d) (hn : KI n) (hz : SZ z) (hbb : bb < 10) : pm_met mX12_farOf d 0 0 B [.ref (B + 54), .int za, .int (nI bb)] cnt (pm_mid σ (md_L B I A n k z ac wt pl (nI p0) (nI t0) im y)) (pm_Qi (fun v σ' cnt' => (∃ (I' : Nat → Int32) (A' : Nat → Nat → Int32), σ' = pm_mid σ (md_L B I' A' n k z ac wt pl (nI p0) (nI t0) im y)) ∧ cnt = cnt')) := by
  refine pm_enter 0 (by decide) (Nat.le_of_ble_eq_true rfl) rfl (fun G hG hR hF => ?_)
  refine pm_aloadn hG dX12_farOf_0 rfl ?_
  refine pm_iloadn hG dX12_farOf_1 rfl ?_
  refine pm_callV (As := [.int za]) (rest := []) hG hR dX12_farOf_2 (lkX12_76 _ rfl) okV_X12_findDays rfl rfl (m_findDays (d := 1) (by decide) hn hz) rfl rfl hdd (Nat.le_refl _) (Nat.le_refl _) (by decide) (pm_kv (fun σ' cnt' hq => ?_))
  obtain ⟨⟨I2, A2, rfl⟩, rfl⟩ := hq
  refine pm_aloadn hG dX12_farOf_5 rfl ?_
  refine pm_getf hG dX12_farOf_6 (flX12_19 _ rfl) rfl rfl ?_
  refine pm_iloadn hG dX12_farOf_9 rfl ?_
  refine pm_ialdN hG dX12_farOf_10 rfl (by decide) (by omega) ?_
  refine pm_any (fun x3 => ?_)
  exact pm_iret hG hF dX12_farOf_11 rfl (Nat.le_refl _) (Nat.le_refl _) ⟨_, rfl, ⟨_, _, rfl⟩, rfl⟩
