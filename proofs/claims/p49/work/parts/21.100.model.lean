set_option maxRecDepth 100000 in
set_option maxHeartbeats 4000000 in
theorem m_ranksOf {d B cnt p0 t0 : Nat} {σ : pm_S} {I : Nat → Int32} {A : Nat → Nat → Int32} {n k z : Nat → Int32} {ac wt pl im : Int32} {y : Nat → Int32} {zb : Int32} {ba : Nat} (hdd : 3 ≤ d) (hn : KI n) (hz : SZ z) (ht0 : t0 ≤ 40) (hba : ba < 20) : pm_met mX12_ranksOf d 0 0 B [.ref (B + 54), .int (nI ba), .int zb] cnt (pm_mid σ (md_L B I A n k z ac wt pl (nI p0) (nI t0) im y)) (pm_Qi (fun v σ' cnt' => (∃ (I' : Nat → Int32) (A' : Nat → Nat → Int32) (t0' : Nat), σ' = pm_mid σ (md_L B I' A' n k z ac wt pl (nI p0) (nI t0') im y) ∧ t0' ≤ 40) ∧ cnt = cnt')) := by
  refine pm_enter 0 (by decide) (Nat.le_of_ble_eq_true rfl) rfl (fun G hG hR hF => ?_)
  refine pm_aloadn hG dX12_ranksOf_0 rfl ?_
  refine pm_iloadn hG dX12_ranksOf_1 rfl ?_
  refine pm_iconst (v := nI 0) hG dX12_ranksOf_2 (by decide) ?_
  refine pm_callV (As := [.int (nI ba), .int (nI 0)]) (rest := []) hG hR dX12_ranksOf_3 (lkX12_110 _ rfl) okV_X12_its rfl rfl (m_its (d := 2) (e := 6 * ba + 390) (by omega) (by omega) (by omega)) rfl rfl hdd (Nat.le_refl _) (Nat.le_refl _) (by decide) (pm_ki (fun v1 σ' cnt' hq => ?_))
  obtain ⟨rfl, rfl, rfl⟩ := hq
  refine pm_gen (fun x2 ex2 => ?_)
  refine pm_iconst (v := nI 2) hG dX12_ranksOf_6 (by decide) ?_
  refine pm_icmp_eq (tgt := 17) hG dX12_ranksOf_7 rfl (fun c3 => ?_) (fun c3 => ?_)
  · refine pm_aloadn hG dX12_ranksOf_17 rfl ?_
    refine pm_bipush (v := nI 30) hG dX12_ranksOf_18 (by decide) ?_
    refine pm_callV (As := [.int (nI 30)]) (rest := []) hG hR dX12_ranksOf_20 (lkX12_286 _ rfl) okV_X12_ran rfl rfl (m_ran (d := 2) (by decide) hn hz (by omega)) rfl rfl hdd (Nat.le_refl _) (Nat.le_refl _) (by decide) (pm_kv (fun σ' cnt' hq => ?_))
    obtain ⟨⟨I5, A5, t5, rfl, ht5⟩, rfl⟩ := hq
    refine pm_aloadn hG dX12_ranksOf_23 rfl ?_
    refine pm_iloadn hG dX12_ranksOf_24 rfl ?_
    refine pm_iloadn hG dX12_ranksOf_25 rfl ?_
    refine pm_callV (As := [.int (nI ba), .int zb]) (rest := []) hG hR dX12_ranksOf_26 (lkX12_301 _ rfl) okV_X12_ranksPower rfl rfl (m_ranksPower (d := 2) (by decide) hn hz (by omega) (by omega)) rfl rfl hdd (Nat.le_refl _) (Nat.le_refl _) (by decide) (pm_ki (fun v6 σ' cnt' hq => ?_))
    obtain ⟨⟨I7, A7, t7, rfl, ht7⟩, rfl⟩ := hq
    refine pm_iconst (v := nI 3) hG dX12_ranksOf_29 (by decide) ?_
    refine pm_imul hG dX12_ranksOf_30 ?_
    exact pm_iret hG hF dX12_ranksOf_31 rfl (Nat.le_refl _) (Nat.le_refl _) ⟨_, rfl, ⟨_, _, _, rfl, by omega⟩, rfl⟩
  · refine pm_aloadn hG dX12_ranksOf_10 rfl ?_
    refine pm_iloadn hG dX12_ranksOf_11 rfl ?_
    refine pm_iloadn hG dX12_ranksOf_12 rfl ?_
    refine pm_callV (As := [.int (nI ba), .int zb]) (rest := []) hG hR dX12_ranksOf_13 (lkX12_301 _ rfl) okV_X12_ranksPower rfl rfl (m_ranksPower (d := 2) (by decide) hn hz (by omega) (by omega)) rfl rfl hdd (Nat.le_refl _) (Nat.le_refl _) (by decide) (pm_ki (fun v8 σ' cnt' hq => ?_))
    obtain ⟨⟨I9, A9, t9, rfl, ht9⟩, rfl⟩ := hq
    exact pm_iret hG hF dX12_ranksOf_16 rfl (Nat.le_refl _) (Nat.le_refl _) ⟨_, rfl, ⟨_, _, _, rfl, by omega⟩, rfl⟩
