set_option maxRecDepth 100000 in
set_option maxHeartbeats 4000000 in
theorem m_isUnder {d B cnt p0 t0 : Nat} {σ : pm_S} {I : Nat → Int32} {A : Nat → Nat → Int32} {n k z : Nat → Int32} {ac wt pl im : Int32} {y : Nat → Int32} {za zb : Int32} (hdd : 1 ≤ d) (hn : KI n) (hz : SZ z)  : pm_met mX12_isUnder d 0 0 B [.int za, .int zb] cnt (pm_mid σ (md_L B I A n k z ac wt pl (nI p0) (nI t0) im y)) (pm_Qi (fun v σ' cnt' => σ' = pm_mid σ (md_L B I A n k z ac wt pl (nI p0) (nI t0) im y) ∧ cnt = cnt' ∧ (v = 0 ∨ v = 1))) := by
  refine pm_enter 0 (by decide) (Nat.le_of_ble_eq_true rfl) rfl (fun G hG hR hF => ?_)
  refine pm_iloadn hG dX12_isUnder_0 rfl ?_
  refine pm_if_eq (tgt := 34) hG dX12_isUnder_1 rfl (fun c1 => ?_) (fun c1 => ?_)
  · refine pm_iconst (v := nI 1) hG dX12_isUnder_34 (by decide) ?_
    refine pm_goto (tgt := 39) hG dX12_isUnder_35 rfl ?_
    exact pm_zret hG hF dX12_isUnder_39 rfl (pm_nz (Or.inr rfl)) (Nat.le_refl _) (Nat.le_refl _) ⟨_, rfl, rfl, rfl, (Or.inr rfl)⟩
  · refine pm_iloadn hG dX12_isUnder_4 rfl ?_
    refine pm_iloadn hG dX12_isUnder_5 rfl ?_
    refine pm_icmp_eq (tgt := 34) hG dX12_isUnder_6 rfl (fun c2 => ?_) (fun c2 => ?_)
    · refine pm_iconst (v := nI 1) hG dX12_isUnder_34 (by decide) ?_
      refine pm_goto (tgt := 39) hG dX12_isUnder_35 rfl ?_
      exact pm_zret hG hF dX12_isUnder_39 rfl (pm_nz (Or.inr rfl)) (Nat.le_refl _) (Nat.le_refl _) ⟨_, rfl, rfl, rfl, (Or.inr rfl)⟩
    · refine pm_iloadn hG dX12_isUnder_9 rfl ?_
      refine pm_iconst (v := nI 1) hG dX12_isUnder_10 (by decide) ?_
      refine pm_icmp_ne (tgt := 24) hG dX12_isUnder_11 rfl (fun c3 => ?_) (fun c3 => ?_)
      · refine pm_iloadn hG dX12_isUnder_24 rfl ?_
        refine pm_iconst (v := nI 3) hG dX12_isUnder_25 (by decide) ?_
        refine pm_icmp_ne (tgt := 38) hG dX12_isUnder_26 rfl (fun c4 => ?_) (fun c4 => ?_)
        · refine pm_iconst (v := nI 0) hG dX12_isUnder_38 (by decide) ?_
          exact pm_zret hG hF dX12_isUnder_39 rfl (pm_nz (Or.inl rfl)) (Nat.le_refl _) (Nat.le_refl _) ⟨_, rfl, rfl, rfl, (Or.inl rfl)⟩
        · refine pm_iloadn hG dX12_isUnder_29 rfl ?_
          refine pm_iconst (v := nI 4) hG dX12_isUnder_30 (by decide) ?_
          refine pm_icmp_ne (tgt := 38) hG dX12_isUnder_31 rfl (fun c5 => ?_) (fun c5 => ?_)
          · refine pm_iconst (v := nI 0) hG dX12_isUnder_38 (by decide) ?_
            exact pm_zret hG hF dX12_isUnder_39 rfl (pm_nz (Or.inl rfl)) (Nat.le_refl _) (Nat.le_refl _) ⟨_, rfl, rfl, rfl, (Or.inl rfl)⟩
          · refine pm_iconst (v := nI 1) hG dX12_isUnder_34 (by decide) ?_
            refine pm_goto (tgt := 39) hG dX12_isUnder_35 rfl ?_
            exact pm_zret hG hF dX12_isUnder_39 rfl (pm_nz (Or.inr rfl)) (Nat.le_refl _) (Nat.le_refl _) ⟨_, rfl, rfl, rfl, (Or.inr rfl)⟩
      · refine pm_iloadn hG dX12_isUnder_14 rfl ?_
        refine pm_iconst (v := nI 3) hG dX12_isUnder_15 (by decide) ?_
        refine pm_icmp_eq (tgt := 34) hG dX12_isUnder_16 rfl (fun c6 => ?_) (fun c6 => ?_)
        · refine pm_iconst (v := nI 1) hG dX12_isUnder_34 (by decide) ?_
          refine pm_goto (tgt := 39) hG dX12_isUnder_35 rfl ?_
          exact pm_zret hG hF dX12_isUnder_39 rfl (pm_nz (Or.inr rfl)) (Nat.le_refl _) (Nat.le_refl _) ⟨_, rfl, rfl, rfl, (Or.inr rfl)⟩
        · refine pm_iloadn hG dX12_isUnder_19 rfl ?_
          refine pm_iconst (v := nI 4) hG dX12_isUnder_20 (by decide) ?_
          refine pm_icmp_eq (tgt := 34) hG dX12_isUnder_21 rfl (fun c7 => ?_) (fun c7 => ?_)
          · refine pm_iconst (v := nI 1) hG dX12_isUnder_34 (by decide) ?_
            refine pm_goto (tgt := 39) hG dX12_isUnder_35 rfl ?_
            exact pm_zret hG hF dX12_isUnder_39 rfl (pm_nz (Or.inr rfl)) (Nat.le_refl _) (Nat.le_refl _) ⟨_, rfl, rfl, rfl, (Or.inr rfl)⟩
          · refine pm_iloadn hG dX12_isUnder_24 rfl ?_
            refine pm_top (v := nI 1) c3 ?_
            refine pm_iconst (v := nI 3) hG dX12_isUnder_25 (by decide) ?_
            refine pm_icmpN_ne (tgt := 38) hG dX12_isUnder_26 rfl (by omega) (by omega) (fun _ => ?_) (fun q => absurd q (by omega))
            refine pm_iconst (v := nI 0) hG dX12_isUnder_38 (by decide) ?_
            exact pm_zret hG hF dX12_isUnder_39 rfl (pm_nz (Or.inl rfl)) (Nat.le_refl _) (Nat.le_refl _) ⟨_, rfl, rfl, rfl, (Or.inl rfl)⟩
