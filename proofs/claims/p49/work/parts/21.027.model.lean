set_option maxRecDepth 100000 in
set_option maxHeartbeats 4000000 in
theorem m_stands {d B cnt p0 t0 : Nat} {σ : pm_S} {I : Nat → Int32} {A : Nat → Nat → Int32} {n k z : Nat → Int32} {ac wt pl im : Int32} {y : Nat → Int32} {ba : Nat} (hdd : 1 ≤ d) (hn : KI n) (hz : SZ z) (hba : ba < 30) : pm_met mX12_stands d 0 0 B [.ref (B + 54), .int (nI ba)] cnt (pm_mid σ (md_L B I A n k z ac wt pl (nI p0) (nI t0) im y)) (pm_Qi (fun v σ' cnt' => σ' = pm_mid σ (md_L B I A n k z ac wt pl (nI p0) (nI t0) im y) ∧ cnt = cnt' ∧ (v = 0 ∨ v = 1))) := by
  refine pm_enter 0 (by decide) (Nat.le_of_ble_eq_true rfl) rfl (fun G hG hR hF => ?_)
  refine pm_aloadn hG dX12_stands_0 rfl ?_
  refine pm_iloadn hG dX12_stands_1 rfl ?_
  refine pm_iconst (v := nI 4) hG dX12_stands_2 (by decide) ?_
  refine pm_callV (As := [.int (nI ba), .int (nI 4)]) (rest := []) hG hR dX12_stands_3 (lkX12_223 _ rfl) okV_X12_promised rfl rfl (m_promised (d := 0) (e := 6 * ba + 1810) (by omega) (by omega) (by omega)) rfl rfl hdd (Nat.le_refl _) (Nat.le_refl _) (by decide) (pm_ki (fun v1 σ' cnt' hq => ?_))
  obtain ⟨rfl, rfl, rfl⟩ := hq
  refine pm_gen (fun x2 ex2 => ?_)
  refine pm_if_ne (tgt := 38) hG dX12_stands_6 rfl (fun c3 => ?_) (fun c3 => ?_)
  · refine pm_iconst (v := nI 0) hG dX12_stands_38 (by decide) ?_
    exact pm_zret hG hF dX12_stands_39 rfl (pm_nz (Or.inl rfl)) (Nat.le_refl _) (Nat.le_refl _) ⟨_, rfl, rfl, rfl, (Or.inl rfl)⟩
  · refine pm_aloadn hG dX12_stands_9 rfl ?_
    refine pm_iloadn hG dX12_stands_10 rfl ?_
    refine pm_iconst (v := nI 5) hG dX12_stands_11 (by decide) ?_
    refine pm_callV (As := [.int (nI ba), .int (nI 5)]) (rest := []) hG hR dX12_stands_12 (lkX12_223 _ rfl) okV_X12_promised rfl rfl (m_promised (d := 0) (e := 6 * ba + 1811) (by omega) (by omega) (by omega)) rfl rfl hdd (Nat.le_refl _) (Nat.le_refl _) (by decide) (pm_ki (fun v4 σ' cnt' hq => ?_))
    obtain ⟨rfl, rfl, rfl⟩ := hq
    refine pm_gen (fun x5 ex5 => ?_)
    refine pm_if_ne (tgt := 38) hG dX12_stands_15 rfl (fun c6 => ?_) (fun c6 => ?_)
    · refine pm_iconst (v := nI 0) hG dX12_stands_38 (by decide) ?_
      exact pm_zret hG hF dX12_stands_39 rfl (pm_nz (Or.inl rfl)) (Nat.le_refl _) (Nat.le_refl _) ⟨_, rfl, rfl, rfl, (Or.inl rfl)⟩
    · refine pm_aloadn hG dX12_stands_18 rfl ?_
      refine pm_getf hG dX12_stands_19 (flX12_7 _ rfl) rfl rfl ?_
      refine pm_bipush (v := nI 8) hG dX12_stands_22 (by decide) ?_
      refine pm_ialdN hG dX12_stands_24 rfl (by decide) (by omega) ?_
      obtain ⟨k7, hk7, ek7⟩ := KI.nat hn (show kd 8 = (1, 2001, false) by decide)
      refine pm_top (v := nI k7) ek7 ?_
      refine pm_aloadn hG dX12_stands_25 rfl ?_
      refine pm_iloadn hG dX12_stands_26 rfl ?_
      refine pm_iconst (v := nI 2) hG dX12_stands_27 (by decide) ?_
      refine pm_callV (As := [.int (nI ba), .int (nI 2)]) (rest := [.int (nI k7)]) hG hR dX12_stands_28 (lkX12_223 _ rfl) okV_X12_promised rfl rfl (m_promised (d := 0) (e := 6 * ba + 1808) (by omega) (by omega) (by omega)) rfl rfl hdd (Nat.le_refl _) (Nat.le_refl _) (Nat.le_of_ble_eq_true rfl) (pm_ki (fun v8 σ' cnt' hq => ?_))
      obtain ⟨rfl, rfl, rfl⟩ := hq
      refine pm_gen (fun x9 ex9 => ?_)
      refine pm_icmp_gt (tgt := 38) hG dX12_stands_31 rfl (fun c10 => ?_) (fun c10 => ?_)
      · refine pm_iconst (v := nI 0) hG dX12_stands_38 (by decide) ?_
        exact pm_zret hG hF dX12_stands_39 rfl (pm_nz (Or.inl rfl)) (Nat.le_refl _) (Nat.le_refl _) ⟨_, rfl, rfl, rfl, (Or.inl rfl)⟩
      · refine pm_iconst (v := nI 1) hG dX12_stands_34 (by decide) ?_
        refine pm_goto (tgt := 39) hG dX12_stands_35 rfl ?_
        exact pm_zret hG hF dX12_stands_39 rfl (pm_nz (Or.inr rfl)) (Nat.le_refl _) (Nat.le_refl _) ⟨_, rfl, rfl, rfl, (Or.inr rfl)⟩
