set_option maxRecDepth 100000 in
set_option maxHeartbeats 4000000 in
theorem m_weightOf {d B cnt p0 t0 : Nat} {σ : pm_S} {I : Nat → Int32} {A : Nat → Nat → Int32} {n k z : Nat → Int32} {ac wt pl im : Int32} {y : Nat → Int32} {za : Int32} (hdd : 1 ≤ d) (hn : KI n) (hz : SZ z)  : pm_met mX12_weightOf d 0 0 B [.ref (B + 54), .int za] cnt (pm_mid σ (md_L B I A n k z ac wt pl (nI p0) (nI t0) im y)) (pm_Qi (fun v σ' cnt' => σ' = pm_mid σ (md_L B I A n k z ac wt pl (nI p0) (nI t0) im y) ∧ cnt = cnt')) := by
  refine pm_enter 2 (by decide) (Nat.le_of_ble_eq_true rfl) rfl (fun G hG hR hF => ?_)
  refine pm_iconst (v := nI 0) hG dX12_weightOf_0 (by decide) ?_
  refine pm_istoreXn (loc' := [some (.ref (B + 54)), some (.int za), some (.int (nI 0)), none]) hG dX12_weightOf_1 (by decide) (pm_c1b rfl) rfl ?_
  refine pm_iconst (v := nI 0) hG dX12_weightOf_2 (by decide) ?_
  refine pm_istoreXn (loc' := [some (.ref (B + 54)), some (.int za), some (.int (nI 0)), some (.int (nI 0))]) hG dX12_weightOf_3 (by decide) (pm_c1b rfl) rfl ?_
  have loop4_1 : ∀ (m1 : Nat) (x1_2 : Int32) (i1 : Nat), i1 ≤ 20 → 20 - i1 < m1 → pm_wp mX12_weightOf G B 4 [some (.ref (B + 54)), some (.int za), some (.int x1_2), some (.int (nI i1))] [] 0 0 cnt (pm_mid σ (md_L B I A n k z ac wt pl (nI p0) (nI t0) im y)) := by
    intro m1
    induction m1 with
    | zero => intro x1_2 i1 _ hm; exact absurd hm (Nat.not_lt_zero _)
    | succ m1 ih1 =>
      intro x1_2 i1 hi1 hm1
      refine pm_iloadn hG dX12_weightOf_4 rfl ?_
      refine pm_aloadn hG dX12_weightOf_5 rfl ?_
      refine pm_getf hG dX12_weightOf_6 (flX12_7 _ rfl) rfl rfl ?_
      refine pm_iconst (v := nI 2) hG dX12_weightOf_9 (by decide) ?_
      refine pm_ialdN hG dX12_weightOf_10 rfl (by decide) (by omega) ?_
      obtain ⟨k2, hk2, ek2⟩ := KI.nat hn (show kd 2 = (1, 21, true) by decide)
      refine pm_top (v := nI k2) ek2 ?_
      refine pm_icmpN_ge (tgt := 47) hG dX12_weightOf_11 rfl (by omega) (by omega) (fun c3 => ?_) (fun c3 => ?_)
      · refine pm_iloadn hG dX12_weightOf_47 rfl ?_
        exact pm_iret hG hF dX12_weightOf_48 rfl (Nat.le_refl _) (Nat.le_refl _) ⟨_, rfl, rfl, rfl⟩
      · refine pm_iloadn hG dX12_weightOf_14 rfl ?_
        refine pm_iloadn hG dX12_weightOf_15 rfl ?_
        refine pm_if_ne (tgt := 29) hG dX12_weightOf_16 rfl (fun c4 => ?_) (fun c4 => ?_)
        · refine pm_aloadn hG dX12_weightOf_29 rfl ?_
          refine pm_getf hG dX12_weightOf_30 (flX12_37 _ rfl) rfl rfl ?_
          refine pm_iloadn hG dX12_weightOf_33 rfl ?_
          refine pm_ialdN hG dX12_weightOf_34 rfl (by decide) (by omega) ?_
          refine pm_any (fun x5 => ?_)
          refine pm_goto (tgt := 39) hG dX12_weightOf_35 rfl ?_
          refine pm_iadd hG dX12_weightOf_39 ?_
          refine pm_istoreXn (loc' := [some (.ref (B + 54)), some (.int za), some (.int (x1_2 + x5)), some (.int (nI i1))]) hG dX12_weightOf_40 (by decide) (pm_c1b rfl) rfl ?_
          refine pm_iincX (v := nI (i1 + 1)) (loc' := [some (.ref (B + 54)), some (.int za), some (.int (x1_2 + x5)), some (.int (nI (i1 + 1)))]) hG dX12_weightOf_41 rfl (nI_1 _) (by decide) (pm_c1b rfl) rfl ?_
          refine pm_goto (tgt := 4) hG dX12_weightOf_44 rfl ?_
          exact ih1 (x1_2 + x5) (i1 + 1) (by omega) (by omega)
        · refine pm_aloadn hG dX12_weightOf_19 rfl ?_
          refine pm_getf hG dX12_weightOf_20 (flX12_40 _ rfl) rfl rfl ?_
          refine pm_iloadn hG dX12_weightOf_23 rfl ?_
          refine pm_ialdN hG dX12_weightOf_24 rfl (by decide) (by omega) ?_
          refine pm_any (fun x6 => ?_)
          refine pm_iconst (v := nI 1) hG dX12_weightOf_25 (by decide) ?_
          refine pm_icmp_ne (tgt := 38) hG dX12_weightOf_26 rfl (fun c7 => ?_) (fun c7 => ?_)
          · refine pm_iconst (v := nI 0) hG dX12_weightOf_38 (by decide) ?_
            refine pm_iadd hG dX12_weightOf_39 ?_
            refine pm_istoreXn (loc' := [some (.ref (B + 54)), some (.int za), some (.int (x1_2 + (nI 0))), some (.int (nI i1))]) hG dX12_weightOf_40 (by decide) (pm_c1b rfl) rfl ?_
            refine pm_iincX (v := nI (i1 + 1)) (loc' := [some (.ref (B + 54)), some (.int za), some (.int (x1_2 + (nI 0))), some (.int (nI (i1 + 1)))]) hG dX12_weightOf_41 rfl (nI_1 _) (by decide) (pm_c1b rfl) rfl ?_
            refine pm_goto (tgt := 4) hG dX12_weightOf_44 rfl ?_
            exact ih1 (x1_2 + (nI 0)) (i1 + 1) (by omega) (by omega)
          · refine pm_aloadn hG dX12_weightOf_29 rfl ?_
            refine pm_getf hG dX12_weightOf_30 (flX12_37 _ rfl) rfl rfl ?_
            refine pm_iloadn hG dX12_weightOf_33 rfl ?_
            refine pm_ialdN hG dX12_weightOf_34 rfl (by decide) (by omega) ?_
            refine pm_any (fun x8 => ?_)
            refine pm_goto (tgt := 39) hG dX12_weightOf_35 rfl ?_
            refine pm_iadd hG dX12_weightOf_39 ?_
            refine pm_istoreXn (loc' := [some (.ref (B + 54)), some (.int za), some (.int (x1_2 + x8)), some (.int (nI i1))]) hG dX12_weightOf_40 (by decide) (pm_c1b rfl) rfl ?_
            refine pm_iincX (v := nI (i1 + 1)) (loc' := [some (.ref (B + 54)), some (.int za), some (.int (x1_2 + x8)), some (.int (nI (i1 + 1)))]) hG dX12_weightOf_41 rfl (nI_1 _) (by decide) (pm_c1b rfl) rfl ?_
            refine pm_goto (tgt := 4) hG dX12_weightOf_44 rfl ?_
            exact ih1 (x1_2 + x8) (i1 + 1) (by omega) (by omega)
  exact loop4_1 _ (nI 0) 0 (by omega) (Nat.lt_succ_self _)
