set_option maxRecDepth 100000 in
set_option maxHeartbeats 4000000 in
theorem m_ran {d B cnt p0 t0 : Nat} {σ : pm_S} {I : Nat → Int32} {A : Nat → Nat → Int32} {n k z : Nat → Int32} {ac wt pl im : Int32} {y : Nat → Int32} {za : Int32} (hdd : 1 ≤ d) (hn : KI n) (hz : SZ z) (ht0 : t0 ≤ 40)  : pm_met mX12_ran d 0 0 B [.ref (B + 54), .int za] cnt (pm_mid σ (md_L B I A n k z ac wt pl (nI p0) (nI t0) im y)) (pm_Qv (fun σ' cnt' => (∃ (I' : Nat → Int32) (A' : Nat → Nat → Int32) (t0' : Nat), σ' = pm_mid σ (md_L B I' A' n k z ac wt pl (nI p0) (nI t0') im y) ∧ t0' ≤ 40) ∧ cnt = cnt')) := by
  refine pm_enter 0 (by decide) (Nat.le_of_ble_eq_true rfl) rfl (fun G hG hR hF => ?_)
  refine pm_aloadn hG dX12_ran_0 rfl ?_
  refine pm_getf hG dX12_ran_1 (flX12_283 _ rfl) rfl rfl ?_
  refine pm_bipush (v := nI 40) hG dX12_ran_4 (by decide) ?_
  refine pm_icmpN_ge (tgt := 29) hG dX12_ran_6 rfl (by omega) (by omega) (fun c1 => ?_) (fun c1 => ?_)
  · exact pm_vret hG hF dX12_ran_29 rfl (Nat.le_refl _) (Nat.le_refl _) ⟨rfl, ⟨_, _, _, rfl, by omega⟩, rfl⟩
  · refine pm_aloadn hG dX12_ran_9 rfl ?_
    refine pm_getf hG dX12_ran_10 (flX12_52 _ rfl) rfl rfl ?_
    refine pm_aloadn hG dX12_ran_13 rfl ?_
    refine pm_getf hG dX12_ran_14 (flX12_283 _ rfl) rfl rfl ?_
    refine pm_iloadn hG dX12_ran_17 rfl ?_
    refine pm_iastN hG dX12_ran_18 rfl (by decide) (by omega) ?_
    refine mdn_trace (fun A_2 => ?_)
    refine pm_aloadn hG dX12_ran_19 rfl ?_
    refine pm_dup hG dX12_ran_20 rfl ?_
    refine pm_getf hG dX12_ran_21 (flX12_283 _ rfl) rfl rfl ?_
    refine pm_iconst (v := nI 1) hG dX12_ran_24 (by decide) ?_
    refine pm_iaddN (c := t0 + 1) hG dX12_ran_25 (by omega) ?_
    refine pm_putf hG dX12_ran_26 (fwX12_283 _ rfl) rfl rfl rfl ?_
    refine mdn_traced ?_
    exact pm_vret hG hF dX12_ran_29 rfl (Nat.le_refl _) (Nat.le_refl _) ⟨rfl, ⟨_, _, _, rfl, by omega⟩, rfl⟩
