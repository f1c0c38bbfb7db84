set_option maxRecDepth 100000 in
set_option maxHeartbeats 4000000 in
theorem m_holdsMany {d B cnt p0 t0 : Nat} {σ : pm_S} {I : Nat → Int32} {A : Nat → Nat → Int32} {n k z : Nat → Int32} {ac wt pl im : Int32} {y : Nat → Int32} {za : Int32} (hdd : 1 ≤ d) (hn : KI n) (hz : SZ z)  : pm_met mX12_holdsMany d 0 0 B [.ref (B + 54), .int za] cnt (pm_mid σ (md_L B I A n k z ac wt pl (nI p0) (nI t0) im y)) (pm_Qi (fun v σ' cnt' => σ' = pm_mid σ (md_L B I A n k z ac wt pl (nI p0) (nI t0) im y) ∧ cnt = cnt')) := by
  refine pm_enter 2 (by decide) (Nat.le_of_ble_eq_true rfl) rfl (fun G hG hR hF => ?_)
  refine pm_iconst (v := nI 0) hG dX12_holdsMany_0 (by decide) ?_
  refine pm_istoreXn (loc' := [some (.ref (B + 54)), some (.int za), some (.int (nI 0)), none]) hG dX12_holdsMany_1 (by decide) (pm_c1b rfl) rfl ?_
  refine pm_iconst (v := nI 0) hG dX12_holdsMany_2 (by decide) ?_
  refine pm_istoreXn (loc' := [some (.ref (B + 54)), some (.int za), some (.int (nI 0)), some (.int (nI 0))]) hG dX12_holdsMany_3 (by decide) (pm_c1b rfl) rfl ?_
  have loop4_1 : ∀ (m1 : Nat) (x1_2 : Int32) (i1 : Nat), i1 ≤ 20 → 20 - i1 < m1 → pm_wp mX12_holdsMany G B 4 [some (.ref (B + 54)), some (.int za), some (.int x1_2), some (.int (nI i1))] [] 0 0 cnt (pm_mid σ (md_L B I A n k z ac wt pl (nI p0) (nI t0) im y)) := by
    intro m1
    induction m1 with
    | zero => intro x1_2 i1 _ hm; exact absurd hm (Nat.not_lt_zero _)
    | succ m1 ih1 =>
      intro x1_2 i1 hi1 hm1
      refine pm_iloadn hG dX12_holdsMany_4 rfl ?_
      refine pm_aloadn hG dX12_holdsMany_5 rfl ?_
      refine pm_getf hG dX12_holdsMany_6 (flX12_7 _ rfl) rfl rfl ?_
      refine pm_iconst (v := nI 3) hG dX12_holdsMany_9 (by decide) ?_
      refine pm_ialdN hG dX12_holdsMany_10 rfl (by decide) (by omega) ?_
      obtain ⟨k2, hk2, ek2⟩ := KI.nat hn (show kd 3 = (1, 21, false) by decide)
      refine pm_top (v := nI k2) ek2 ?_
      refine pm_icmpN_ge (tgt := 38) hG dX12_holdsMany_11 rfl (by omega) (by omega) (fun c3 => ?_) (fun c3 => ?_)
      · refine pm_iloadn hG dX12_holdsMany_38 rfl ?_
        exact pm_iret hG hF dX12_holdsMany_39 rfl (Nat.le_refl _) (Nat.le_refl _) ⟨_, rfl, rfl, rfl⟩
      · refine pm_iloadn hG dX12_holdsMany_14 rfl ?_
        refine pm_aloadn hG dX12_holdsMany_15 rfl ?_
        refine pm_iloadn hG dX12_holdsMany_16 rfl ?_
        refine pm_iconst (v := nI 1) hG dX12_holdsMany_17 (by decide) ?_
        refine pm_callV (As := [.int (nI i1), .int (nI 1)]) (rest := [.int x1_2]) hG hR dX12_holdsMany_18 (lkX12_110 _ rfl) okV_X12_its rfl rfl (m_its (d := 0) (e := 6 * i1 + 391) (by omega) (by omega) (by omega)) rfl rfl hdd (Nat.le_refl _) (Nat.le_refl _) (Nat.le_of_ble_eq_true rfl) (pm_ki (fun v4 σ' cnt' hq => ?_))
        obtain ⟨rfl, rfl, rfl⟩ := hq
        rcases KI.opt hn (show kd (6 * i1 + 391) = (2, 20, false) from (kd_W (k := i1) (c := 1) (by omega) (by omega) (by decide))) with ek5 | ⟨k5, hk5, ek5⟩
        · refine pm_top (v := (-1)) ek5 ?_
          refine pm_iloadn hG dX12_holdsMany_21 rfl ?_
          refine pm_icmp_ne (tgt := 29) hG dX12_holdsMany_22 rfl (fun c6 => ?_) (fun c6 => ?_)
          · refine pm_iconst (v := nI 0) hG dX12_holdsMany_29 (by decide) ?_
            refine pm_iadd hG dX12_holdsMany_30 ?_
            refine pm_istoreXn (loc' := [some (.ref (B + 54)), some (.int za), some (.int (x1_2 + (nI 0))), some (.int (nI i1))]) hG dX12_holdsMany_31 (by decide) (pm_c1b rfl) rfl ?_
            refine pm_iincX (v := nI (i1 + 1)) (loc' := [some (.ref (B + 54)), some (.int za), some (.int (x1_2 + (nI 0))), some (.int (nI (i1 + 1)))]) hG dX12_holdsMany_32 rfl (nI_1 _) (by decide) (pm_c1b rfl) rfl ?_
            refine pm_goto (tgt := 4) hG dX12_holdsMany_35 rfl ?_
            exact ih1 (x1_2 + (nI 0)) (i1 + 1) (by omega) (by omega)
          · refine pm_iconst (v := nI 1) hG dX12_holdsMany_25 (by decide) ?_
            refine pm_goto (tgt := 30) hG dX12_holdsMany_26 rfl ?_
            refine pm_iadd hG dX12_holdsMany_30 ?_
            refine pm_istoreXn (loc' := [some (.ref (B + 54)), some (.int za), some (.int (x1_2 + (nI 1))), some (.int (nI i1))]) hG dX12_holdsMany_31 (by decide) (pm_c1b rfl) rfl ?_
            refine pm_iincX (v := nI (i1 + 1)) (loc' := [some (.ref (B + 54)), some (.int za), some (.int (x1_2 + (nI 1))), some (.int (nI (i1 + 1)))]) hG dX12_holdsMany_32 rfl (nI_1 _) (by decide) (pm_c1b rfl) rfl ?_
            refine pm_goto (tgt := 4) hG dX12_holdsMany_35 rfl ?_
            exact ih1 (x1_2 + (nI 1)) (i1 + 1) (by omega) (by omega)
        · refine pm_top (v := nI k5) ek5 ?_
          refine pm_iloadn hG dX12_holdsMany_21 rfl ?_
          refine pm_icmp_ne (tgt := 29) hG dX12_holdsMany_22 rfl (fun c7 => ?_) (fun c7 => ?_)
          · refine pm_iconst (v := nI 0) hG dX12_holdsMany_29 (by decide) ?_
            refine pm_iadd hG dX12_holdsMany_30 ?_
            refine pm_istoreXn (loc' := [some (.ref (B + 54)), some (.int za), some (.int (x1_2 + (nI 0))), some (.int (nI i1))]) hG dX12_holdsMany_31 (by decide) (pm_c1b rfl) rfl ?_
            refine pm_iincX (v := nI (i1 + 1)) (loc' := [some (.ref (B + 54)), some (.int za), some (.int (x1_2 + (nI 0))), some (.int (nI (i1 + 1)))]) hG dX12_holdsMany_32 rfl (nI_1 _) (by decide) (pm_c1b rfl) rfl ?_
            refine pm_goto (tgt := 4) hG dX12_holdsMany_35 rfl ?_
            exact ih1 (x1_2 + (nI 0)) (i1 + 1) (by omega) (by omega)
          · refine pm_iconst (v := nI 1) hG dX12_holdsMany_25 (by decide) ?_
            refine pm_goto (tgt := 30) hG dX12_holdsMany_26 rfl ?_
            refine pm_iadd hG dX12_holdsMany_30 ?_
            refine pm_istoreXn (loc' := [some (.ref (B + 54)), some (.int za), some (.int (x1_2 + (nI 1))), some (.int (nI i1))]) hG dX12_holdsMany_31 (by decide) (pm_c1b rfl) rfl ?_
            refine pm_iincX (v := nI (i1 + 1)) (loc' := [some (.ref (B + 54)), some (.int za), some (.int (x1_2 + (nI 1))), some (.int (nI (i1 + 1)))]) hG dX12_holdsMany_32 rfl (nI_1 _) (by decide) (pm_c1b rfl) rfl ?_
            refine pm_goto (tgt := 4) hG dX12_holdsMany_35 rfl ?_
            exact ih1 (x1_2 + (nI 1)) (i1 + 1) (by omega) (by omega)
  exact loop4_1 _ (nI 0) 0 (by omega) (Nat.lt_succ_self _)
