set_option maxRecDepth 100000 in
set_option maxHeartbeats 4000000 in
theorem m_wins_c1 {d B cnt p0 t0 : Nat} {σ : pm_S} {I : Nat → Int32} {A : Nat → Nat → Int32} {n k z : Nat → Int32} {ac wt pl im : Int32} {y : Nat → Int32} {zb zc zd : Int32} (hdd : 3 ≤ d) (hn : KI n) (hz : SZ z)  : pm_met mX12_wins d 0 0 B [.ref (B + 54), .int (nI 1), .int zb, .int zc, .int zd] cnt (pm_mid σ (md_L B I A n k z ac wt pl (nI p0) (nI t0) im y)) (pm_Qi (fun v σ' cnt' => (∃ (I' : Nat → Int32) (A' : Nat → Nat → Int32), σ' = pm_mid σ (md_L B I' A' n k z ac wt pl (nI p0) (nI t0) im y)) ∧ cnt = cnt' ∧ (v = 0 ∨ v = 1))) := by
  refine pm_enter 2 (by decide) (Nat.le_of_ble_eq_true rfl) rfl (fun G hG hR hF => ?_)
  refine pm_aloadn hG dX12_wins_0 rfl ?_
  refine pm_iconst (v := (-1)) hG dX12_wins_1 (by decide) ?_
  refine pm_iloadn hG dX12_wins_2 rfl ?_
  refine pm_iloadn hG dX12_wins_3 rfl ?_
  refine pm_iloadn hG dX12_wins_4 rfl ?_
  refine pm_iloadi hG dX12_wins_5 rfl ?_
  refine pm_callV (As := [.int (-1), .int (nI 1), .int zb, .int zc, .int zd]) (rest := []) hG hR dX12_wins_7 (lkX12_260 _ rfl) okV_X12_winsBy rfl rfl (m_winsBy_m_c1 (d := 2) (by decide) hn hz) rfl rfl hdd (Nat.le_refl _) (Nat.le_refl _) (by decide) (pm_ki (fun v1 σ' cnt' hq => ?_))
  obtain ⟨⟨I2, A2, rfl⟩, rfl, bv1⟩ := hq
  refine pm_istoreXi (loc' := [some (.ref (B + 54)), some (.int (nI 1)), some (.int zb), some (.int zc), some (.int zd), some (.int v1), none]) hG dX12_wins_10 (by decide) (pm_c1b rfl) rfl ?_
  refine pm_iconst (v := nI 0) hG dX12_wins_12 (by decide) ?_
  refine pm_istoreXi (loc' := [some (.ref (B + 54)), some (.int (nI 1)), some (.int zb), some (.int zc), some (.int zd), some (.int v1), some (.int (nI 0))]) hG dX12_wins_13 (by decide) (pm_c1b rfl) rfl ?_
  have loop15_3 : ∀ (m3 : Nat) (I3 : Nat → Int32) (A3 : Nat → Nat → Int32) (x3_5 : Int32) (i3 : Nat), (x3_5 = 0 ∨ x3_5 = 1) → i3 ≤ 5 → 5 - i3 < m3 → pm_wp mX12_wins G B 15 [some (.ref (B + 54)), some (.int (nI 1)), some (.int zb), some (.int zc), some (.int zd), some (.int x3_5), some (.int (nI i3))] [] 0 0 cnt (pm_mid σ (md_L B I3 A3 n k z ac wt pl (nI p0) (nI t0) im y)) := by
    intro m3
    induction m3 with
    | zero => intro I3 A3 x3_5 i3 _ _ hm; exact absurd hm (Nat.not_lt_zero _)
    | succ m3 ih3 =>
      intro I3 A3 x3_5 i3 bx3_5 hi3 hm3
      refine pm_iloadi hG dX12_wins_15 rfl ?_
      refine pm_iconst (v := nI 5) hG dX12_wins_17 (by decide) ?_
      refine pm_icmpN_ge (tgt := 64) hG dX12_wins_18 rfl (by omega) (by omega) (fun c4 => ?_) (fun c4 => ?_)
      · refine pm_iloadi hG dX12_wins_64 rfl ?_
        exact pm_zret hG hF dX12_wins_66 rfl (pm_nz bx3_5) (Nat.le_refl _) (Nat.le_refl _) ⟨_, rfl, ⟨_, _, rfl⟩, rfl, bx3_5⟩
      · refine pm_iloadi hG dX12_wins_21 rfl ?_
        refine pm_if_ne (tgt := 64) hG dX12_wins_23 rfl (fun c5 => ?_) (fun c5 => ?_)
        · refine pm_iloadi hG dX12_wins_64 rfl ?_
          exact pm_zret hG hF dX12_wins_66 rfl (pm_nz bx3_5) (Nat.le_refl _) (Nat.le_refl _) ⟨_, rfl, ⟨_, _, rfl⟩, rfl, bx3_5⟩
        · refine pm_aloadn hG dX12_wins_26 rfl ?_
          refine pm_iloadn hG dX12_wins_27 rfl ?_
          refine pm_iloadn hG dX12_wins_28 rfl ?_
          refine pm_iloadi hG dX12_wins_29 rfl ?_
          refine pm_callV (As := [.int zb, .int zc, .int (nI i3)]) (rest := []) hG hR dX12_wins_31 (lkX12_264 _ rfl) okV_X12_canTake rfl rfl (m_canTake (d := 2) (by decide) hn hz (by omega)) rfl rfl hdd (Nat.le_refl _) (Nat.le_refl _) (by decide) (pm_ki (fun v6 σ' cnt' hq => ?_))
          obtain ⟨rfl, rfl, bv6⟩ := hq
          refine pm_if_eq (tgt := 55) hG dX12_wins_34 rfl (fun c8 => ?_) (fun c8 => ?_)
          · refine pm_iconst (v := nI 0) hG dX12_wins_55 (by decide) ?_
            refine pm_istoreXi (loc' := [some (.ref (B + 54)), some (.int (nI 1)), some (.int zb), some (.int zc), some (.int zd), some (.int (nI 0)), some (.int (nI i3))]) hG dX12_wins_56 (by decide) (pm_c1b rfl) rfl ?_
            refine pm_iincX (v := nI (i3 + 1)) (loc' := [some (.ref (B + 54)), some (.int (nI 1)), some (.int zb), some (.int zc), some (.int zd), some (.int (nI 0)), some (.int (nI (i3 + 1)))]) hG dX12_wins_58 rfl (nI_1 _) (by decide) (pm_c1b rfl) rfl ?_
            refine pm_goto (tgt := 15) hG dX12_wins_61 rfl ?_
            exact ih3 I3 A3 (nI 0) (i3 + 1) (Or.inl rfl) (by omega) (by omega)
          · refine pm_aloadn hG dX12_wins_37 rfl ?_
            refine pm_iloadi hG dX12_wins_38 rfl ?_
            refine pm_iloadn hG dX12_wins_40 rfl ?_
            refine pm_iloadn hG dX12_wins_41 rfl ?_
            refine pm_iloadn hG dX12_wins_42 rfl ?_
            refine pm_iloadi hG dX12_wins_43 rfl ?_
            refine pm_callV (As := [.int (nI i3), .int (nI 1), .int zb, .int zc, .int zd]) (rest := []) hG hR dX12_wins_45 (lkX12_260 _ rfl) okV_X12_winsBy rfl rfl (m_winsBy_n5_c1 (d := 2) (by decide) hn hz (by omega)) rfl rfl hdd (Nat.le_refl _) (Nat.le_refl _) (by decide) (pm_ki (fun v9 σ' cnt' hq => ?_))
            obtain ⟨⟨I10, A10, rfl⟩, rfl, bv9⟩ := hq
            refine pm_if_eq (tgt := 55) hG dX12_wins_48 rfl (fun c11 => ?_) (fun c11 => ?_)
            · refine pm_iconst (v := nI 0) hG dX12_wins_55 (by decide) ?_
              refine pm_istoreXi (loc' := [some (.ref (B + 54)), some (.int (nI 1)), some (.int zb), some (.int zc), some (.int zd), some (.int (nI 0)), some (.int (nI i3))]) hG dX12_wins_56 (by decide) (pm_c1b rfl) rfl ?_
              refine pm_iincX (v := nI (i3 + 1)) (loc' := [some (.ref (B + 54)), some (.int (nI 1)), some (.int zb), some (.int zc), some (.int zd), some (.int (nI 0)), some (.int (nI (i3 + 1)))]) hG dX12_wins_58 rfl (nI_1 _) (by decide) (pm_c1b rfl) rfl ?_
              refine pm_goto (tgt := 15) hG dX12_wins_61 rfl ?_
              exact ih3 I10 A10 (nI 0) (i3 + 1) (Or.inl rfl) (by omega) (by omega)
            · refine pm_iconst (v := nI 1) hG dX12_wins_51 (by decide) ?_
              refine pm_goto (tgt := 56) hG dX12_wins_52 rfl ?_
              refine pm_istoreXi (loc' := [some (.ref (B + 54)), some (.int (nI 1)), some (.int zb), some (.int zc), some (.int zd), some (.int (nI 1)), some (.int (nI i3))]) hG dX12_wins_56 (by decide) (pm_c1b rfl) rfl ?_
              refine pm_iincX (v := nI (i3 + 1)) (loc' := [some (.ref (B + 54)), some (.int (nI 1)), some (.int zb), some (.int zc), some (.int zd), some (.int (nI 1)), some (.int (nI (i3 + 1)))]) hG dX12_wins_58 rfl (nI_1 _) (by decide) (pm_c1b rfl) rfl ?_
              refine pm_goto (tgt := 15) hG dX12_wins_61 rfl ?_
              exact ih3 I10 A10 (nI 1) (i3 + 1) (Or.inr rfl) (by omega) (by omega)
  exact loop15_3 _ I2 A2 v1 0 bv1 (by omega) (Nat.lt_succ_self _)
