set_option maxRecDepth 100000 in
set_option maxHeartbeats 4000000 in
theorem m_ageDay {d B cnt p0 t0 : Nat} {σ : pm_S} {I : Nat → Int32} {A : Nat → Nat → Int32} {n k z : Nat → Int32} {ac wt pl im : Int32} {y : Nat → Int32} (hdd : 4 ≤ d) (hn : KI n) (hr : NR n) (hz : SZ z)  : pm_met mX12_ageDay d 0 0 B [.ref (B + 54)] cnt (pm_mid σ (md_L B I A n k z ac wt pl (nI p0) (nI t0) im y)) (pm_Qi (fun v σ' cnt' => (∃ (I' : Nat → Int32) (A' : Nat → Nat → Int32), σ' = pm_mid σ (md_L B I' A' n k z ac wt pl (nI p0) (nI t0) im y)) ∧ cnt = cnt')) := by
  refine pm_enter 1 (by decide) (Nat.le_of_ble_eq_true rfl) rfl (fun G hG hR hF => ?_)
  refine pm_aloadn hG dX12_ageDay_0 rfl ?_
  refine pm_getf hG dX12_ageDay_1 (flX12_7 _ rfl) rfl rfl ?_
  refine pm_iconst (v := nI 2) hG dX12_ageDay_4 (by decide) ?_
  refine pm_ialdN hG dX12_ageDay_5 rfl (by decide) (by omega) ?_
  obtain ⟨k1, hk1, ek1⟩ := KI.nat hn (show kd 2 = (1, 21, true) by decide)
  refine pm_top (v := nI k1) ek1 ?_
  refine pm_ifN_ne (tgt := 11) hG dX12_ageDay_6 rfl (by omega) (fun c2 => ?_) (fun c2 => ?_)
  · refine pm_aloadn hG dX12_ageDay_11 rfl ?_
    refine pm_getf hG dX12_ageDay_12 (flX12_7 _ rfl) rfl rfl ?_
    refine pm_bipush (v := nI 8) hG dX12_ageDay_15 (by decide) ?_
    refine pm_ialdN hG dX12_ageDay_17 rfl (by decide) (by omega) ?_
    obtain ⟨k3, hk3, ek3⟩ := KI.nat hn (show kd 8 = (1, 2001, false) by decide)
    refine pm_top (v := nI k3) ek3 ?_
    refine pm_istoreXn (loc' := [some (.ref (B + 54)), some (.int (nI k3))]) hG dX12_ageDay_18 (by decide) (pm_c1b rfl) rfl ?_
    have loop19_4 : ∀ (m4 : Nat) (I4 : Nat → Int32) (A4 : Nat → Nat → Int32) (i4 : Nat), i4 ≤ 2001 → 2001 - i4 < m4 → pm_wp mX12_ageDay G B 19 [some (.ref (B + 54)), some (.int (nI i4))] [] 0 0 cnt (pm_mid σ (md_L B I4 A4 n k z ac wt pl (nI p0) (nI t0) im y)) := by
      intro m4
      induction m4 with
      | zero => intro I4 A4 i4 _ hm; exact absurd hm (Nat.not_lt_zero _)
      | succ m4 ih4 =>
        intro I4 A4 i4 hi4 hm4
        refine pm_iloadn hG dX12_ageDay_19 rfl ?_
        refine pm_sipush (v := nI 2000) hG dX12_ageDay_20 (by decide) ?_
        refine pm_icmpN_gt (tgt := 57) hG dX12_ageDay_23 rfl (by omega) (by omega) (fun c5 => ?_) (fun c5 => ?_)
        · refine pm_iconst (v := (-1)) hG dX12_ageDay_57 (by decide) ?_
          exact pm_iret hG hF dX12_ageDay_58 rfl (Nat.le_refl _) (Nat.le_refl _) ⟨_, rfl, ⟨_, _, rfl⟩, rfl⟩
        · refine pm_aloadn hG dX12_ageDay_26 rfl ?_
          refine pm_aloadn hG dX12_ageDay_27 rfl ?_
          refine pm_iconst (v := nI 3) hG dX12_ageDay_28 (by decide) ?_
          refine pm_iloadn hG dX12_ageDay_29 rfl ?_
          refine pm_aloadn hG dX12_ageDay_30 rfl ?_
          refine pm_getf hG dX12_ageDay_31 (flX12_7 _ rfl) rfl rfl ?_
          refine pm_bipush (v := nI 8) hG dX12_ageDay_34 (by decide) ?_
          refine pm_ialdN hG dX12_ageDay_36 rfl (by decide) (by omega) ?_
          refine pm_top (v := nI k3) ek3 ?_
          refine pm_callV (As := [.int (nI 3), .int (nI i4), .int (nI k3)]) (rest := [.ref (B + 54)]) hG hR dX12_ageDay_37 (lkX12_195 _ rfl) okV_X12_inForce rfl rfl (m_inForce (d := 3) (by decide) hn hz) rfl rfl hdd (Nat.le_refl _) (Nat.le_refl _) (Nat.le_of_ble_eq_true rfl) (pm_ki (fun v6 σ' cnt' hq => ?_))
          obtain ⟨rfl, rfl, rv6⟩ := hq
          rcases rv6 with rfl | ⟨k8, hk8, rfl⟩
          · refine pm_iconst (v := nI 0) hG dX12_ageDay_40 (by decide) ?_
            refine pm_iconst (v := (-1)) hG dX12_ageDay_41 (by decide) ?_
            refine pm_iloadn hG dX12_ageDay_42 rfl ?_
            refine pm_callV (As := [.int (-1), .int (nI 0), .int (-1), .int (nI i4)]) (rest := []) hG hR dX12_ageDay_43 (lkX12_214 _ rfl) okV_X12_comesTo rfl rfl (m_comesTo_m_n20_m (d := 3) (by decide) hn hr hz (by omega)) rfl rfl hdd (Nat.le_refl _) (Nat.le_refl _) (by decide) (pm_ki (fun v9 σ' cnt' hq => ?_))
            obtain ⟨⟨I10, A10, rfl⟩, rfl⟩ := hq
            refine pm_if_eq (tgt := 51) hG dX12_ageDay_46 rfl (fun c11 => ?_) (fun c11 => ?_)
            · refine pm_iincX (v := nI (i4 + 1)) (loc' := [some (.ref (B + 54)), some (.int (nI (i4 + 1)))]) hG dX12_ageDay_51 rfl (nI_1 _) (by decide) (pm_c1b rfl) rfl ?_
              refine pm_goto (tgt := 19) hG dX12_ageDay_54 rfl ?_
              exact ih4 I10 A10 (i4 + 1) (by omega) (by omega)
            · refine pm_iloadn hG dX12_ageDay_49 rfl ?_
              exact pm_iret hG hF dX12_ageDay_50 rfl (Nat.le_refl _) (Nat.le_refl _) ⟨_, rfl, ⟨_, _, rfl⟩, rfl⟩
          · refine pm_iconst (v := nI 0) hG dX12_ageDay_40 (by decide) ?_
            refine pm_iconst (v := (-1)) hG dX12_ageDay_41 (by decide) ?_
            refine pm_iloadn hG dX12_ageDay_42 rfl ?_
            refine pm_callV (As := [.int (nI k8), .int (nI 0), .int (-1), .int (nI i4)]) (rest := []) hG hR dX12_ageDay_43 (lkX12_214 _ rfl) okV_X12_comesTo rfl rfl (m_comesTo_n12_n20_m (d := 3) (by decide) hn hr hz (by omega) (by omega)) rfl rfl hdd (Nat.le_refl _) (Nat.le_refl _) (by decide) (pm_ki (fun v12 σ' cnt' hq => ?_))
            obtain ⟨⟨I13, A13, rfl⟩, rfl⟩ := hq
            refine pm_if_eq (tgt := 51) hG dX12_ageDay_46 rfl (fun c14 => ?_) (fun c14 => ?_)
            · refine pm_iincX (v := nI (i4 + 1)) (loc' := [some (.ref (B + 54)), some (.int (nI (i4 + 1)))]) hG dX12_ageDay_51 rfl (nI_1 _) (by decide) (pm_c1b rfl) rfl ?_
              refine pm_goto (tgt := 19) hG dX12_ageDay_54 rfl ?_
              exact ih4 I13 A13 (i4 + 1) (by omega) (by omega)
            · refine pm_iloadn hG dX12_ageDay_49 rfl ?_
              exact pm_iret hG hF dX12_ageDay_50 rfl (Nat.le_refl _) (Nat.le_refl _) ⟨_, rfl, ⟨_, _, rfl⟩, rfl⟩
    exact loop19_4 _ I A k3 (by omega) (Nat.lt_succ_self _)
  · refine pm_iconst (v := (-1)) hG dX12_ageDay_9 (by decide) ?_
    exact pm_iret hG hF dX12_ageDay_10 rfl (Nat.le_refl _) (Nat.le_refl _) ⟨_, rfl, ⟨_, _, rfl⟩, rfl⟩
