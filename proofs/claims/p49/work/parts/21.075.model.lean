set_option maxRecDepth 100000 in
set_option maxHeartbeats 4000000 in
theorem m_comesTo_m_n20_n40 {d B cnt p0 t0 : Nat} {σ : pm_S} {I : Nat → Int32} {A : Nat → Nat → Int32} {n k z : Nat → Int32} {ac wt pl im : Int32} {y : Nat → Int32} {zd : Int32} {bb bc : Nat} (hdd : 1 ≤ d) (hn : KI n) (hr : NR n) (hz : SZ z) (hbb : bb < 20) (hbc : bc < 40) : pm_met mX12_comesTo d 0 0 B [.ref (B + 54), .int (-1), .int (nI bb), .int (nI bc), .int zd] cnt (pm_mid σ (md_L B I A n k z ac wt pl (nI p0) (nI t0) im y)) (pm_Qi (fun v σ' cnt' => (∃ (I' : Nat → Int32) (A' : Nat → Nat → Int32), σ' = pm_mid σ (md_L B I' A' n k z ac wt pl (nI p0) (nI t0) im y)) ∧ cnt = cnt')) := by
  refine pm_enter 4 (by decide) (Nat.le_of_ble_eq_true rfl) rfl (fun G hG hR hF => ?_)
  refine pm_iloadn hG dX12_comesTo_0 rfl ?_
  refine pm_if_ge (tgt := 6) hG dX12_comesTo_1 rfl (fun q => absurd q (by decide)) (fun _ => ?_)
  refine pm_iconst (v := nI 1) hG dX12_comesTo_4 (by decide) ?_
  exact pm_iret hG hF dX12_comesTo_5 rfl (Nat.le_refl _) (Nat.le_refl _) ⟨_, rfl, ⟨_, _, rfl⟩, rfl⟩
