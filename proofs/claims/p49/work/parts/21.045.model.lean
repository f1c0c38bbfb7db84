set_option maxRecDepth 100000 in
set_option maxHeartbeats 4000000 in
theorem m_thoseIn {d B cnt p0 t0 : Nat} {σ : pm_S} {I : Nat → Int32} {A : Nat → Nat → Int32} {n k z : Nat → Int32} {ac wt pl im : Int32} {y : Nat → Int32} {za : Int32} (hdd : 2 ≤ d) (hn : KI n) (hz : SZ z)  : pm_met mX12_thoseIn d 0 0 B [.ref (B + 54), .int za] cnt (pm_mid σ (md_L B I A n k z ac wt pl (nI p0) (nI t0) im y)) (pm_Qi (fun v σ' cnt' => σ' = pm_mid σ (md_L B I A n k z ac wt pl (nI p0) (nI t0) im y) ∧ cnt = cnt')) := by
  refine pm_enter 2 (by decide) (Nat.le_of_ble_eq_true rfl) rfl (fun G hG hR hF => ?_)
  refine pm_iconst (v := nI 0) hG dX12_thoseIn_0 (by decide) ?_
  refine pm_istoreXn (loc' := [some (.ref (B + 54)), some (.int za), some (.int (nI 0)), none]) hG dX12_thoseIn_1 (by decide) (pm_c1b rfl) rfl ?_
  refine pm_iconst (v := nI 0) hG dX12_thoseIn_2 (by decide) ?_
  refine pm_istoreXn (loc' := [some (.ref (B + 54)), some (.int za), some (.int (nI 0)), some (.int (nI 0))]) hG dX12_thoseIn_3 (by decide) (pm_c1b rfl) rfl ?_
  have loop4_1 : ∀ (m1 : Nat) (x1_2 : Int32) (i1 : Nat), i1 ≤ 20 → 20 - i1 < m1 → pm_wp mX12_thoseIn G B 4 [some (.ref (B + 54)), some (.int za), some (.int x1_2), some (.int (nI i1))] [] 0 0 cnt (pm_mid σ (md_L B I A n k z ac wt pl (nI p0) (nI t0) im y)) := by
    intro m1
    induction m1 with
    | zero => intro x1_2 i1 _ hm; exact absurd hm (Nat.not_lt_zero _)
    | succ m1 ih1 =>
      intro x1_2 i1 hi1 hm1
      refine pm_iloadn hG dX12_thoseIn_4 rfl ?_
      refine pm_aloadn hG dX12_thoseIn_5 rfl ?_
      refine pm_getf hG dX12_thoseIn_6 (flX12_7 _ rfl) rfl rfl ?_
      refine pm_iconst (v := nI 2) hG dX12_thoseIn_9 (by decide) ?_
      refine pm_ialdN hG dX12_thoseIn_10 rfl (by decide) (by omega) ?_
      obtain ⟨k2, hk2, ek2⟩ := KI.nat hn (show kd 2 = (1, 21, true) by decide)
      refine pm_top (v := nI k2) ek2 ?_
      refine pm_icmpN_ge (tgt := 48) hG dX12_thoseIn_11 rfl (by omega) (by omega) (fun c3 => ?_) (fun c3 => ?_)
      · refine pm_iloadn hG dX12_thoseIn_48 rfl ?_
        exact pm_iret hG hF dX12_thoseIn_49 rfl (Nat.le_refl _) (Nat.le_refl _) ⟨_, rfl, rfl, rfl⟩
      · refine pm_iloadn hG dX12_thoseIn_14 rfl ?_
        refine pm_aloadn hG dX12_thoseIn_15 rfl ?_
        refine pm_iloadn hG dX12_thoseIn_16 rfl ?_
        rcases KI.opt hn (show kd (14 * i1 + 119) = (2, 2001, false) from (kd_P (k := i1) (c := 9) (by omega) (by omega) (by decide))) with ek4 | ⟨k4, hk4, ek4⟩
        · refine pm_callV (As := [.int (nI i1)]) (rest := [.int x1_2]) hG hR dX12_thoseIn_17 (lkX12_101 _ rfl) okV_X12_lives rfl rfl (m_lives1 (d := 1) (by decide) (by omega) (by omega : 14 * i1 + 119 = 14 * i1 + 119) ek4) rfl rfl hdd (Nat.le_refl _) (Nat.le_refl _) (Nat.le_of_ble_eq_true rfl) (pm_ki (fun v5 σ' cnt' hq => ?_))
          obtain ⟨rfl, rfl, rfl⟩ := hq
          refine pm_ifN_eq (tgt := 39) hG dX12_thoseIn_20 rfl (by omega) (fun q => absurd q (by omega)) (fun _ => ?_)
          refine pm_aloadn hG dX12_thoseIn_23 rfl ?_
          refine pm_iloadn hG dX12_thoseIn_24 rfl ?_
          refine pm_iconst (v := nI 4) hG dX12_thoseIn_25 (by decide) ?_
          refine pm_callV (As := [.int (nI i1), .int (nI 4)]) (rest := [.int x1_2]) hG hR dX12_thoseIn_26 (lkX12_72 _ rfl) okV_X12_man rfl rfl (m_man (d := 1) (e := 14 * i1 + 114) (by omega) (by omega) (by omega)) rfl rfl hdd (Nat.le_refl _) (Nat.le_refl _) (Nat.le_of_ble_eq_true rfl) (pm_ki (fun v6 σ' cnt' hq => ?_))
          obtain ⟨rfl, rfl, rfl⟩ := hq
          rcases KI.opt hn (show kd (14 * i1 + 114) = (2, 10, false) from (kd_P (k := i1) (c := 4) (by omega) (by omega) (by decide))) with ek7 | ⟨k7, hk7, ek7⟩
          · refine pm_top (v := (-1)) ek7 ?_
            refine pm_iloadn hG dX12_thoseIn_29 rfl ?_
            refine pm_icmp_ne (tgt := 39) hG dX12_thoseIn_30 rfl (fun c8 => ?_) (fun c8 => ?_)
            · refine pm_iconst (v := nI 0) hG dX12_thoseIn_39 (by decide) ?_
              refine pm_ior hG dX12_thoseIn_40 ?_
              refine pm_any (fun x9 => ?_)
              refine pm_istoreXn (loc' := [some (.ref (B + 54)), some (.int za), some (.int x9), some (.int (nI i1))]) hG dX12_thoseIn_41 (by decide) (pm_c1b rfl) rfl ?_
              refine pm_iincX (v := nI (i1 + 1)) (loc' := [some (.ref (B + 54)), some (.int za), some (.int x9), some (.int (nI (i1 + 1)))]) hG dX12_thoseIn_42 rfl (nI_1 _) (by decide) (pm_c1b rfl) rfl ?_
              refine pm_goto (tgt := 4) hG dX12_thoseIn_45 rfl ?_
              exact ih1 x9 (i1 + 1) (by omega) (by omega)
            · refine pm_iconst (v := nI 1) hG dX12_thoseIn_33 (by decide) ?_
              refine pm_iloadn hG dX12_thoseIn_34 rfl ?_
              refine pm_ishl hG dX12_thoseIn_35 ?_
              refine pm_any (fun x10 => ?_)
              refine pm_goto (tgt := 40) hG dX12_thoseIn_36 rfl ?_
              refine pm_ior hG dX12_thoseIn_40 ?_
              refine pm_any (fun x11 => ?_)
              refine pm_istoreXn (loc' := [some (.ref (B + 54)), some (.int za), some (.int x11), some (.int (nI i1))]) hG dX12_thoseIn_41 (by decide) (pm_c1b rfl) rfl ?_
              refine pm_iincX (v := nI (i1 + 1)) (loc' := [some (.ref (B + 54)), some (.int za), some (.int x11), some (.int (nI (i1 + 1)))]) hG dX12_thoseIn_42 rfl (nI_1 _) (by decide) (pm_c1b rfl) rfl ?_
              refine pm_goto (tgt := 4) hG dX12_thoseIn_45 rfl ?_
              exact ih1 x11 (i1 + 1) (by omega) (by omega)
          · refine pm_top (v := nI k7) ek7 ?_
            refine pm_iloadn hG dX12_thoseIn_29 rfl ?_
            refine pm_icmp_ne (tgt := 39) hG dX12_thoseIn_30 rfl (fun c12 => ?_) (fun c12 => ?_)
            · refine pm_iconst (v := nI 0) hG dX12_thoseIn_39 (by decide) ?_
              refine pm_ior hG dX12_thoseIn_40 ?_
              refine pm_any (fun x13 => ?_)
              refine pm_istoreXn (loc' := [some (.ref (B + 54)), some (.int za), some (.int x13), some (.int (nI i1))]) hG dX12_thoseIn_41 (by decide) (pm_c1b rfl) rfl ?_
              refine pm_iincX (v := nI (i1 + 1)) (loc' := [some (.ref (B + 54)), some (.int za), some (.int x13), some (.int (nI (i1 + 1)))]) hG dX12_thoseIn_42 rfl (nI_1 _) (by decide) (pm_c1b rfl) rfl ?_
              refine pm_goto (tgt := 4) hG dX12_thoseIn_45 rfl ?_
              exact ih1 x13 (i1 + 1) (by omega) (by omega)
            · refine pm_iconst (v := nI 1) hG dX12_thoseIn_33 (by decide) ?_
              refine pm_iloadn hG dX12_thoseIn_34 rfl ?_
              refine pm_ishl hG dX12_thoseIn_35 ?_
              refine pm_any (fun x14 => ?_)
              refine pm_goto (tgt := 40) hG dX12_thoseIn_36 rfl ?_
              refine pm_ior hG dX12_thoseIn_40 ?_
              refine pm_any (fun x15 => ?_)
              refine pm_istoreXn (loc' := [some (.ref (B + 54)), some (.int za), some (.int x15), some (.int (nI i1))]) hG dX12_thoseIn_41 (by decide) (pm_c1b rfl) rfl ?_
              refine pm_iincX (v := nI (i1 + 1)) (loc' := [some (.ref (B + 54)), some (.int za), some (.int x15), some (.int (nI (i1 + 1)))]) hG dX12_thoseIn_42 rfl (nI_1 _) (by decide) (pm_c1b rfl) rfl ?_
              refine pm_goto (tgt := 4) hG dX12_thoseIn_45 rfl ?_
              exact ih1 x15 (i1 + 1) (by omega) (by omega)
        · refine pm_callV (As := [.int (nI i1)]) (rest := [.int x1_2]) hG hR dX12_thoseIn_17 (lkX12_101 _ rfl) okV_X12_lives rfl rfl (m_lives0 (d := 1) (by decide) (by omega) (by omega : 14 * i1 + 119 = 14 * i1 + 119) ek4 (by omega)) rfl rfl hdd (Nat.le_refl _) (Nat.le_refl _) (Nat.le_of_ble_eq_true rfl) (pm_ki (fun v16 σ' cnt' hq => ?_))
          obtain ⟨rfl, rfl, rfl⟩ := hq
          refine pm_ifN_eq (tgt := 39) hG dX12_thoseIn_20 rfl (by omega) (fun _ => ?_) (fun q => absurd q (by omega))
          refine pm_iconst (v := nI 0) hG dX12_thoseIn_39 (by decide) ?_
          refine pm_ior hG dX12_thoseIn_40 ?_
          refine pm_any (fun x17 => ?_)
          refine pm_istoreXn (loc' := [some (.ref (B + 54)), some (.int za), some (.int x17), some (.int (nI i1))]) hG dX12_thoseIn_41 (by decide) (pm_c1b rfl) rfl ?_
          refine pm_iincX (v := nI (i1 + 1)) (loc' := [some (.ref (B + 54)), some (.int za), some (.int x17), some (.int (nI (i1 + 1)))]) hG dX12_thoseIn_42 rfl (nI_1 _) (by decide) (pm_c1b rfl) rfl ?_
          refine pm_goto (tgt := 4) hG dX12_thoseIn_45 rfl ?_
          exact ih1 x17 (i1 + 1) (by omega) (by omega)
  exact loop4_1 _ (nI 0) 0 (by omega) (Nat.lt_succ_self _)
