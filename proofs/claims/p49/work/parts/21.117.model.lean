set_option maxRecDepth 100000 in
set_option maxHeartbeats 4000000 in
theorem m_trace {d B cnt p0 t0 : Nat} {σ : pm_S} {I : Nat → Int32} {A : Nat → Nat → Int32} {n k z : Nat → Int32} {ac wt pl im : Int32} {y : Nat → Int32} {za : Int32} (hdd : 2 ≤ d) (hn : KI n) (hz : SZ z) (ht0 : t0 ≤ 40)  : pm_met mX12_trace d 0 0 B [.ref (B + 54), .int za] cnt (pm_mid σ (md_L B I A n k z ac wt pl (nI p0) (nI t0) im y)) (pm_Qi (fun v σ' cnt' => (∃ (I' : Nat → Int32) (A' : Nat → Nat → Int32), σ' = pm_mid σ (md_L B I' A' n k z ac wt pl (nI p0) (nI t0) im y)) ∧ cnt = cnt')) := by
  refine pm_enter 0 (by decide) (Nat.le_of_ble_eq_true rfl) rfl (fun G hG hR hF => ?_)
  refine pm_iloadn hG dX12_trace_0 rfl ?_
  refine pm_iconst (v := nI 0) hG dX12_trace_1 (by decide) ?_
  refine pm_aloadn hG dX12_trace_2 rfl ?_
  refine pm_getf hG dX12_trace_3 (flX12_283 _ rfl) rfl rfl ?_
  refine pm_iconst (v := nI 1) hG dX12_trace_6 (by decide) ?_
  refine pm_isub hG dX12_trace_7 ?_
  refine pm_callS (As := [.int za, .int (nI 0), .int ((nI t0) - (nI 1))]) (rest := []) hG hR dX12_trace_8 (lkX12_68 _ rfl) okS_X12_in (m_in (d := 1)) rfl rfl hdd (Nat.le_refl _) (Nat.le_refl _) (by decide) (pm_ki (fun v1 σ' cnt' hq => ?_))
  obtain ⟨hq, rfl, rfl⟩ := hq
  rcases hq with ⟨rfl, ac2, bc2⟩ | ⟨rfl, c2⟩
  · obtain ⟨k3, hk3, ek3⟩ := in_cnt (c := t0) (by omega) ac2 bc2
    refine pm_ifN_eq (tgt := 23) hG dX12_trace_11 rfl (by omega) (fun q => absurd q (by omega)) (fun _ => ?_)
    refine pm_aloadn hG dX12_trace_14 rfl ?_
    refine pm_getf hG dX12_trace_15 (flX12_52 _ rfl) rfl rfl ?_
    refine pm_iloadn hG dX12_trace_18 rfl ?_
    refine pm_top (v := nI k3) ek3 ?_
    refine pm_ialdN hG dX12_trace_19 rfl (by decide) (by omega) ?_
    refine pm_any (fun x4 => ?_)
    refine pm_goto (tgt := 28) hG dX12_trace_20 rfl ?_
    exact pm_iret hG hF dX12_trace_28 rfl (Nat.le_refl _) (Nat.le_refl _) ⟨_, rfl, ⟨_, _, rfl⟩, rfl⟩
  · refine pm_ifN_eq (tgt := 23) hG dX12_trace_11 rfl (by omega) (fun _ => ?_) (fun q => absurd q (by omega))
    refine pm_aloadn hG dX12_trace_23 rfl ?_
    refine pm_iconst (v := nI 2) hG dX12_trace_24 (by decide) ?_
    refine pm_callV (As := [.int (nI 2)]) (rest := []) hG hR dX12_trace_25 (lkX12_80 _ rfl) okV_X12_finds rfl rfl (m_finds (d := 1) (by decide) hn hz (by omega)) rfl rfl hdd (Nat.le_refl _) (Nat.le_refl _) (by decide) (pm_ki (fun v5 σ' cnt' hq => ?_))
    obtain ⟨⟨I6, A6, rfl⟩, rfl, fv5⟩ := hq
    exact pm_iret hG hF dX12_trace_28 rfl (Nat.le_refl _) (Nat.le_refl _) ⟨_, rfl, ⟨_, _, rfl⟩, rfl⟩
