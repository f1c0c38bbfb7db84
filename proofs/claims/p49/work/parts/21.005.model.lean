set_option maxRecDepth 100000 in
set_option maxHeartbeats 4000000 in
theorem m_finds {d B cnt p0 t0 : Nat} {σ : pm_S} {I : Nat → Int32} {A : Nat → Nat → Int32} {n k z : Nat → Int32} {ac wt pl im : Int32} {y : Nat → Int32} {ba : Nat} (hdd : 1 ≤ d) (hn : KI n) (hz : SZ z) (hba : ba < 6) : pm_met mX12_finds d 0 0 B [.ref (B + 54), .int (nI ba)] cnt (pm_mid σ (md_L B I A n k z ac wt pl (nI p0) (nI t0) im y)) (pm_Qi (fun v σ' cnt' => (∃ (I' : Nat → Int32) (A' : Nat → Nat → Int32), σ' = pm_mid σ (md_L B I' A' n k z ac wt pl (nI p0) (nI t0) im y)) ∧ cnt = cnt' ∧ v = (-1000000) - nI ba)) := by
  refine pm_enter 0 (by decide) (Nat.le_of_ble_eq_true rfl) rfl (fun G hG hR hF => ?_)
  refine pm_aloadn hG dX12_finds_0 rfl ?_
  refine pm_getf hG dX12_finds_1 (flX12_16 _ rfl) rfl rfl ?_
  refine pm_iloadn hG dX12_finds_4 rfl ?_
  refine pm_dup2 hG dX12_finds_5 rfl rfl ?_
  refine pm_ialdN hG dX12_finds_6 rfl (by decide) (by omega) ?_
  refine pm_any (fun x1 => ?_)
  refine pm_iconst (v := nI 1) hG dX12_finds_7 (by decide) ?_
  refine pm_iadd hG dX12_finds_8 ?_
  refine pm_iastN hG dX12_finds_9 rfl (by decide) (by omega) ?_
  refine mdn_found (fun A_2 => ?_)
  refine pm_ldc hG dX12_finds_10 (ctX12_67 _ rfl) ?_
  refine pm_iloadn hG dX12_finds_12 rfl ?_
  refine pm_isub hG dX12_finds_13 ?_
  exact pm_iret hG hF dX12_finds_14 rfl (Nat.le_refl _) (Nat.le_refl _) ⟨_, rfl, ⟨_, _, rfl⟩, rfl, rfl⟩
