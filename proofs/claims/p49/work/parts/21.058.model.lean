set_option maxRecDepth 100000 in
set_option maxHeartbeats 4000000 in
theorem m_isParent {d B cnt p0 t0 : Nat} {σ : pm_S} {I : Nat → Int32} {A : Nat → Nat → Int32} {n k z : Nat → Int32} {ac wt pl im : Int32} {y : Nat → Int32} {za zb zc : Int32} (hdd : 2 ≤ d) (hn : KI n) (hz : SZ z)  : pm_met mX12_isParent d 0 0 B [.ref (B + 54), .int za, .int zb, .int zc] cnt (pm_mid σ (md_L B I A n k z ac wt pl (nI p0) (nI t0) im y)) (pm_Qi (fun v σ' cnt' => σ' = pm_mid σ (md_L B I A n k z ac wt pl (nI p0) (nI t0) im y) ∧ cnt = cnt' ∧ (v = nI 0 ∨ (v = nI 1 ∧ (za = -1 ∨ ∃ j : Nat, j < 20 ∧ za = nI j))))) := by
  refine pm_enter 0 (by decide) (Nat.le_of_ble_eq_true rfl) rfl (fun G hG hR hF => ?_)
  refine pm_iloadn hG dX12_isParent_0 rfl ?_
  refine pm_iconst (v := (-1)) hG dX12_isParent_1 (by decide) ?_
  refine pm_icmp_eq (tgt := 33) hG dX12_isParent_2 rfl (fun c1 => ?_) (fun c1 => ?_)
  · refine pm_iconst (v := nI 1) hG dX12_isParent_33 (by decide) ?_
    refine pm_goto (tgt := 38) hG dX12_isParent_34 rfl ?_
    exact pm_zret hG hF dX12_isParent_38 rfl (pm_nz (Or.inr rfl)) (Nat.le_refl _) (Nat.le_refl _) ⟨_, rfl, rfl, rfl, Or.inr ⟨rfl, Or.inl c1⟩⟩
  · refine pm_aloadn hG dX12_isParent_5 rfl ?_
    refine pm_iloadn hG dX12_isParent_6 rfl ?_
    obtain ⟨k2, hk2, ek2⟩ := KI.nat hn (show kd 2 = (1, 21, true) by decide)
    refine pm_callV (As := [.int za]) (rest := []) hG hR dX12_isParent_7 (lkX12_91 _ rfl) okV_X12_isPerson rfl rfl (m_isPerson (d := 1) (by decide) ek2 (by omega)) rfl rfl hdd (Nat.le_refl _) (Nat.le_refl _) (by decide) (pm_ki (fun v3 σ' cnt' hq => ?_))
    obtain ⟨hq, rfl, rfl⟩ := hq
    rcases hq with ⟨rfl, k5, hk5, ek5⟩ | rfl
    · refine pm_ifN_eq (tgt := 37) hG dX12_isParent_10 rfl (by omega) (fun q => absurd q (by omega)) (fun _ => ?_)
      refine pm_aloadn hG dX12_isParent_13 rfl ?_
      refine pm_iloadn hG dX12_isParent_14 rfl ?_
      refine pm_top (v := nI k5) ek5 ?_
      refine pm_iconst (v := nI 0) hG dX12_isParent_15 (by decide) ?_
      refine pm_callV (As := [.int (nI k5), .int (nI 0)]) (rest := []) hG hR dX12_isParent_16 (lkX12_72 _ rfl) okV_X12_man rfl rfl (m_man (d := 1) (e := 14 * k5 + 110) (by omega) (by omega) (by omega)) rfl rfl hdd (Nat.le_refl _) (Nat.le_refl _) (by decide) (pm_ki (fun v6 σ' cnt' hq => ?_))
      obtain ⟨rfl, rfl, rfl⟩ := hq
      refine pm_gen (fun x7 ex7 => ?_)
      refine pm_iloadn hG dX12_isParent_19 rfl ?_
      refine pm_icmp_ne (tgt := 37) hG dX12_isParent_20 rfl (fun c8 => ?_) (fun c8 => ?_)
      · refine pm_iconst (v := nI 0) hG dX12_isParent_37 (by decide) ?_
        exact pm_zret hG hF dX12_isParent_38 rfl (pm_nz (Or.inl rfl)) (Nat.le_refl _) (Nat.le_refl _) ⟨_, rfl, rfl, rfl, Or.inl rfl⟩
      · refine pm_aloadn hG dX12_isParent_23 rfl ?_
        refine pm_iloadn hG dX12_isParent_24 rfl ?_
        refine pm_top (v := nI k5) ek5 ?_
        refine pm_iconst (v := nI 1) hG dX12_isParent_25 (by decide) ?_
        refine pm_callV (As := [.int (nI k5), .int (nI 1)]) (rest := []) hG hR dX12_isParent_26 (lkX12_72 _ rfl) okV_X12_man rfl rfl (m_man (d := 1) (e := 14 * k5 + 111) (by omega) (by omega) (by omega)) rfl rfl hdd (Nat.le_refl _) (Nat.le_refl _) (by decide) (pm_ki (fun v9 σ' cnt' hq => ?_))
        obtain ⟨rfl, rfl, rfl⟩ := hq
        refine pm_gen (fun x10 ex10 => ?_)
        refine pm_iloadn hG dX12_isParent_29 rfl ?_
        refine pm_icmp_ge (tgt := 37) hG dX12_isParent_30 rfl (fun c11 => ?_) (fun c11 => ?_)
        · refine pm_iconst (v := nI 0) hG dX12_isParent_37 (by decide) ?_
          exact pm_zret hG hF dX12_isParent_38 rfl (pm_nz (Or.inl rfl)) (Nat.le_refl _) (Nat.le_refl _) ⟨_, rfl, rfl, rfl, Or.inl rfl⟩
        · refine pm_iconst (v := nI 1) hG dX12_isParent_33 (by decide) ?_
          refine pm_goto (tgt := 38) hG dX12_isParent_34 rfl ?_
          exact pm_zret hG hF dX12_isParent_38 rfl (pm_nz (Or.inr rfl)) (Nat.le_refl _) (Nat.le_refl _) ⟨_, rfl, rfl, rfl, Or.inr ⟨rfl, Or.inr ⟨k5, by omega, ek5⟩⟩⟩
    · refine pm_ifN_eq (tgt := 37) hG dX12_isParent_10 rfl (by omega) (fun _ => ?_) (fun q => absurd q (by omega))
      refine pm_iconst (v := nI 0) hG dX12_isParent_37 (by decide) ?_
      exact pm_zret hG hF dX12_isParent_38 rfl (pm_nz (Or.inl rfl)) (Nat.le_refl _) (Nat.le_refl _) ⟨_, rfl, rfl, rfl, Or.inl rfl⟩
