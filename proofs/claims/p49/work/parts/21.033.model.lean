set_option maxRecDepth 100000 in
set_option maxHeartbeats 4000000 in
theorem m_canTake {d B cnt p0 t0 : Nat} {σ : pm_S} {I : Nat → Int32} {A : Nat → Nat → Int32} {n k z : Nat → Int32} {ac wt pl im : Int32} {y : Nat → Int32} {za zb : Int32} {bc : Nat} (hdd : 2 ≤ d) (hn : KI n) (hz : SZ z) (hbc : bc < 5) : pm_met mX12_canTake d 0 0 B [.ref (B + 54), .int za, .int zb, .int (nI bc)] cnt (pm_mid σ (md_L B I A n k z ac wt pl (nI p0) (nI t0) im y)) (pm_Qi (fun v σ' cnt' => σ' = pm_mid σ (md_L B I A n k z ac wt pl (nI p0) (nI t0) im y) ∧ cnt = cnt' ∧ (v = 0 ∨ v = 1))) := by
  refine pm_enter 0 (by decide) (Nat.le_of_ble_eq_true rfl) rfl (fun G hG hR hF => ?_)
  refine pm_iloadn hG dX12_canTake_0 rfl ?_
  refine pm_iloadn hG dX12_canTake_1 rfl ?_
  refine pm_callS (As := [.int za, .int (nI bc)]) (rest := []) hG hR dX12_canTake_2 (lkX12_253 _ rfl) okS_X12_isTaken (m_isTaken (d := 1) (by decide) hn hz) rfl rfl hdd (Nat.le_refl _) (Nat.le_refl _) (by decide) (pm_ki (fun v1 σ' cnt' hq => ?_))
  obtain ⟨rfl, rfl, bv1⟩ := hq
  refine pm_if_ne (tgt := 46) hG dX12_canTake_5 rfl (fun c3 => ?_) (fun c3 => ?_)
  · refine pm_iconst (v := nI 0) hG dX12_canTake_46 (by decide) ?_
    exact pm_zret hG hF dX12_canTake_47 rfl (pm_nz (Or.inl rfl)) (Nat.le_refl _) (Nat.le_refl _) ⟨_, rfl, rfl, rfl, (Or.inl rfl)⟩
  · refine pm_iloadn hG dX12_canTake_8 rfl ?_
    refine pm_ifN_eq (tgt := 32) hG dX12_canTake_9 rfl (by omega) (fun c4 => ?_) (fun c4 => ?_)
    · refine pm_iloadn hG dX12_canTake_32 rfl ?_
      refine pm_aloadn hG dX12_canTake_33 rfl ?_
      refine pm_getf hG dX12_canTake_34 (flX12_43 _ rfl) rfl rfl ?_
      refine pm_iloadn hG dX12_canTake_37 rfl ?_
      refine pm_ialdN hG dX12_canTake_38 rfl (by decide) (by omega) ?_
      refine pm_any (fun x5 => ?_)
      refine pm_icmp_le (tgt := 46) hG dX12_canTake_39 rfl (fun c6 => ?_) (fun c6 => ?_)
      · refine pm_iconst (v := nI 0) hG dX12_canTake_46 (by decide) ?_
        exact pm_zret hG hF dX12_canTake_47 rfl (pm_nz (Or.inl rfl)) (Nat.le_refl _) (Nat.le_refl _) ⟨_, rfl, rfl, rfl, (Or.inl rfl)⟩
      · refine pm_iconst (v := nI 1) hG dX12_canTake_42 (by decide) ?_
        refine pm_goto (tgt := 47) hG dX12_canTake_43 rfl ?_
        exact pm_zret hG hF dX12_canTake_47 rfl (pm_nz (Or.inr rfl)) (Nat.le_refl _) (Nat.le_refl _) ⟨_, rfl, rfl, rfl, (Or.inr rfl)⟩
    · refine pm_iloadn hG dX12_canTake_12 rfl ?_
      refine pm_iloadn hG dX12_canTake_13 rfl ?_
      refine pm_iconst (v := nI 1) hG dX12_canTake_14 (by decide) ?_
      obtain ⟨q7, hq7⟩ : ∃ q7 : Nat, bc = 1 + q7 := ⟨bc - (1), by omega⟩
      refine pm_isubN (c := q7) hG dX12_canTake_15 (by omega) ?_
      refine pm_callS (As := [.int za, .int (nI q7)]) (rest := []) hG hR dX12_canTake_16 (lkX12_253 _ rfl) okS_X12_isTaken (m_isTaken (d := 1) (by decide) hn hz) rfl rfl hdd (Nat.le_refl _) (Nat.le_refl _) (by decide) (pm_ki (fun v8 σ' cnt' hq => ?_))
      obtain ⟨rfl, rfl, bv8⟩ := hq
      refine pm_if_ne (tgt := 32) hG dX12_canTake_19 rfl (fun c10 => ?_) (fun c10 => ?_)
      · refine pm_iloadn hG dX12_canTake_32 rfl ?_
        refine pm_aloadn hG dX12_canTake_33 rfl ?_
        refine pm_getf hG dX12_canTake_34 (flX12_43 _ rfl) rfl rfl ?_
        refine pm_iloadn hG dX12_canTake_37 rfl ?_
        refine pm_ialdN hG dX12_canTake_38 rfl (by decide) (by omega) ?_
        refine pm_any (fun x11 => ?_)
        refine pm_icmp_le (tgt := 46) hG dX12_canTake_39 rfl (fun c12 => ?_) (fun c12 => ?_)
        · refine pm_iconst (v := nI 0) hG dX12_canTake_46 (by decide) ?_
          exact pm_zret hG hF dX12_canTake_47 rfl (pm_nz (Or.inl rfl)) (Nat.le_refl _) (Nat.le_refl _) ⟨_, rfl, rfl, rfl, (Or.inl rfl)⟩
        · refine pm_iconst (v := nI 1) hG dX12_canTake_42 (by decide) ?_
          refine pm_goto (tgt := 47) hG dX12_canTake_43 rfl ?_
          exact pm_zret hG hF dX12_canTake_47 rfl (pm_nz (Or.inr rfl)) (Nat.le_refl _) (Nat.le_refl _) ⟨_, rfl, rfl, rfl, (Or.inr rfl)⟩
      · refine pm_iloadn hG dX12_canTake_22 rfl ?_
        refine pm_iloadn hG dX12_canTake_23 rfl ?_
        refine pm_iconst (v := nI 1) hG dX12_canTake_24 (by decide) ?_
        refine pm_iaddN (c := bc + 1) hG dX12_canTake_25 (by omega) ?_
        refine pm_callS (As := [.int za, .int (nI (bc + 1))]) (rest := []) hG hR dX12_canTake_26 (lkX12_253 _ rfl) okS_X12_isTaken (m_isTaken (d := 1) (by decide) hn hz) rfl rfl hdd (Nat.le_refl _) (Nat.le_refl _) (by decide) (pm_ki (fun v13 σ' cnt' hq => ?_))
        obtain ⟨rfl, rfl, bv13⟩ := hq
        refine pm_if_eq (tgt := 46) hG dX12_canTake_29 rfl (fun c15 => ?_) (fun c15 => ?_)
        · refine pm_iconst (v := nI 0) hG dX12_canTake_46 (by decide) ?_
          exact pm_zret hG hF dX12_canTake_47 rfl (pm_nz (Or.inl rfl)) (Nat.le_refl _) (Nat.le_refl _) ⟨_, rfl, rfl, rfl, (Or.inl rfl)⟩
        · refine pm_iloadn hG dX12_canTake_32 rfl ?_
          refine pm_aloadn hG dX12_canTake_33 rfl ?_
          refine pm_getf hG dX12_canTake_34 (flX12_43 _ rfl) rfl rfl ?_
          refine pm_iloadn hG dX12_canTake_37 rfl ?_
          refine pm_ialdN hG dX12_canTake_38 rfl (by decide) (by omega) ?_
          refine pm_any (fun x16 => ?_)
          refine pm_icmp_le (tgt := 46) hG dX12_canTake_39 rfl (fun c17 => ?_) (fun c17 => ?_)
          · refine pm_iconst (v := nI 0) hG dX12_canTake_46 (by decide) ?_
            exact pm_zret hG hF dX12_canTake_47 rfl (pm_nz (Or.inl rfl)) (Nat.le_refl _) (Nat.le_refl _) ⟨_, rfl, rfl, rfl, (Or.inl rfl)⟩
          · refine pm_iconst (v := nI 1) hG dX12_canTake_42 (by decide) ?_
            refine pm_goto (tgt := 47) hG dX12_canTake_43 rfl ?_
            exact pm_zret hG hF dX12_canTake_47 rfl (pm_nz (Or.inr rfl)) (Nat.le_refl _) (Nat.le_refl _) ⟨_, rfl, rfl, rfl, (Or.inr rfl)⟩
