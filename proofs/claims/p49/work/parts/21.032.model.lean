set_option maxRecDepth 100000 in
set_option maxHeartbeats 4000000 in
theorem m_isTaken {d B cnt p0 t0 : Nat} {σ : pm_S} {I : Nat → Int32} {A : Nat → Nat → Int32} {n k z : Nat → Int32} {ac wt pl im : Int32} {y : Nat → Int32} {za zb : Int32} (hdd : 1 ≤ d) (hn : KI n) (hz : SZ z)  : pm_met mX12_isTaken d 0 0 B [.int za, .int zb] cnt (pm_mid σ (md_L B I A n k z ac wt pl (nI p0) (nI t0) im y)) (pm_Qi (fun v σ' cnt' => σ' = pm_mid σ (md_L B I A n k z ac wt pl (nI p0) (nI t0) im y) ∧ cnt = cnt' ∧ (v = 0 ∨ v = 1))) := by
  refine pm_enter 0 (by decide) (Nat.le_of_ble_eq_true rfl) rfl (fun G hG hR hF => ?_)
  refine pm_iloadn hG dX12_isTaken_0 rfl ?_
  refine pm_iconst (v := nI 0) hG dX12_isTaken_1 (by decide) ?_
  refine pm_iconst (v := nI 4) hG dX12_isTaken_2 (by decide) ?_
  refine pm_callS (As := [.int zb, .int (nI 0), .int (nI 4)]) (rest := []) hG hR dX12_isTaken_3 (lkX12_68 _ rfl) okS_X12_in (m_in (d := 0)) rfl rfl hdd (Nat.le_refl _) (Nat.le_refl _) (by decide) (pm_ki (fun v1 σ' cnt' hq => ?_))
  obtain ⟨hq, rfl, rfl⟩ := hq
  rcases hq with ⟨rfl, ac2, bc2⟩ | ⟨rfl, c2⟩
  · obtain ⟨k3, hk3, ek3⟩ := in_nat (by omega) (by omega) ac2 bc2
    refine pm_ifN_eq (tgt := 22) hG dX12_isTaken_6 rfl (by omega) (fun q => absurd q (by omega)) (fun _ => ?_)
    refine pm_iloadn hG dX12_isTaken_9 rfl ?_
    refine pm_iloadn hG dX12_isTaken_10 rfl ?_
    refine pm_top (v := nI k3) ek3 ?_
    refine pm_ishr hG dX12_isTaken_11 ?_
    refine pm_any (fun x4 => ?_)
    refine pm_iconst (v := nI 1) hG dX12_isTaken_12 (by decide) ?_
    refine pm_iand hG dX12_isTaken_13 ?_
    refine pm_any (fun x5 => ?_)
    refine pm_iconst (v := nI 1) hG dX12_isTaken_14 (by decide) ?_
    refine pm_icmp_ne (tgt := 22) hG dX12_isTaken_15 rfl (fun c6 => ?_) (fun c6 => ?_)
    · refine pm_iconst (v := nI 0) hG dX12_isTaken_22 (by decide) ?_
      exact pm_zret hG hF dX12_isTaken_23 rfl (pm_nz (Or.inl rfl)) (Nat.le_refl _) (Nat.le_refl _) ⟨_, rfl, rfl, rfl, (Or.inl rfl)⟩
    · refine pm_iconst (v := nI 1) hG dX12_isTaken_18 (by decide) ?_
      refine pm_goto (tgt := 23) hG dX12_isTaken_19 rfl ?_
      exact pm_zret hG hF dX12_isTaken_23 rfl (pm_nz (Or.inr rfl)) (Nat.le_refl _) (Nat.le_refl _) ⟨_, rfl, rfl, rfl, (Or.inr rfl)⟩
  · refine pm_ifN_eq (tgt := 22) hG dX12_isTaken_6 rfl (by omega) (fun _ => ?_) (fun q => absurd q (by omega))
    refine pm_iconst (v := nI 0) hG dX12_isTaken_22 (by decide) ?_
    exact pm_zret hG hF dX12_isTaken_23 rfl (pm_nz (Or.inl rfl)) (Nat.le_refl _) (Nat.le_refl _) ⟨_, rfl, rfl, rfl, (Or.inl rfl)⟩
