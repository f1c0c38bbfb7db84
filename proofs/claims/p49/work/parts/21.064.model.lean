set_option maxRecDepth 100000 in
set_option maxHeartbeats 4000000 in
theorem m_winsBy_m_c1 {d B cnt p0 t0 : Nat} {σ : pm_S} {I : Nat → Int32} {A : Nat → Nat → Int32} {n k z : Nat → Int32} {ac wt pl im : Int32} {y : Nat → Int32} {zc zd ze : Int32} (hdd : 1 ≤ d) (hn : KI n) (hz : SZ z)  : pm_met mX12_winsBy d 0 0 B [.ref (B + 54), .int (-1), .int (nI 1), .int zc, .int zd, .int ze] cnt (pm_mid σ (md_L B I A n k z ac wt pl (nI p0) (nI t0) im y)) (pm_Qi (fun v σ' cnt' => (∃ (I' : Nat → Int32) (A' : Nat → Nat → Int32), σ' = pm_mid σ (md_L B I' A' n k z ac wt pl (nI p0) (nI t0) im y)) ∧ cnt = cnt' ∧ (v = 0 ∨ v = 1))) := by
  refine pm_enter 6 (by decide) (Nat.le_of_ble_eq_true rfl) rfl (fun G hG hR hF => ?_)
  refine pm_iloadn hG dX12_winsBy_0 rfl ?_
  refine pm_iloadi hG dX12_winsBy_1 rfl ?_
  refine pm_icmp_ne (tgt := 8) hG dX12_winsBy_3 rfl (fun c1 => ?_) (fun c1 => ?_)
  · refine pm_iloadn hG dX12_winsBy_8 rfl ?_
    refine pm_iconst (v := nI 1) hG dX12_winsBy_9 (by decide) ?_
    refine pm_icmpN_ne (tgt := 15) hG dX12_winsBy_10 rfl (by omega) (by omega) (fun q => absurd q (by omega)) (fun _ => ?_)
    refine pm_iconst (v := nI 0) hG dX12_winsBy_13 (by decide) ?_
    exact pm_zret hG hF dX12_winsBy_14 rfl (pm_nz (Or.inl rfl)) (Nat.le_refl _) (Nat.le_refl _) ⟨_, rfl, ⟨_, _, rfl⟩, rfl, (Or.inl rfl)⟩
  · refine pm_iconst (v := nI 1) hG dX12_winsBy_6 (by decide) ?_
    exact pm_zret hG hF dX12_winsBy_7 rfl (pm_nz (Or.inr rfl)) (Nat.le_refl _) (Nat.le_refl _) ⟨_, rfl, ⟨_, _, rfl⟩, rfl, (Or.inr rfl)⟩
