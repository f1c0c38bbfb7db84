set_option maxRecDepth 100000 in
set_option maxHeartbeats 4000000 in
theorem m_plans_c8 {d B cnt p0 t0 : Nat} {σ : pm_S} {I : Nat → Int32} {A : Nat → Nat → Int32} {n k z : Nat → Int32} {ac wt pl im : Int32} {y : Nat → Int32} {zb zc : Int32} {cz : Nat} (hdd : 1 ≤ d) (hn : KI n) (hz : SZ z) (hp0 : p0 < 4) (ez : z p0 = nI cz) (hcz : 8 ≤ cz ∧ cz ≤ 8) : pm_met mX12_plans d 0 0 B [.ref (B + 54), .int (nI 8), .int zb, .int zc] cnt (pm_mid σ (md_L B I A n k z ac wt pl (nI p0) (nI t0) im y)) (pm_Qv (fun σ' cnt' => (∃ (I' : Nat → Int32) (A' : Nat → Nat → Int32), σ' = pm_mid σ (md_L B I' A' n k z ac wt pl (nI p0) (nI t0) im y)) ∧ cnt = cnt')) := by
  refine pm_enter 3 (by decide) (Nat.le_of_ble_eq_true rfl) rfl (fun G hG hR hF => ?_)
  refine pm_iloadn hG dX12_plans_0 rfl ?_
  refine pm_aloadn hG dX12_plans_1 rfl ?_
  refine pm_getf hG dX12_plans_2 (flX12_58 _ rfl) rfl rfl ?_
  refine pm_aloadn hG dX12_plans_5 rfl ?_
  refine pm_getf hG dX12_plans_6 (flX12_270 _ rfl) rfl rfl ?_
  refine pm_ialdN hG dX12_plans_9 rfl (by decide) (by omega) ?_
  refine pm_top (v := nI cz) ez ?_
  refine pm_icmpN_ne (tgt := 124) hG dX12_plans_10 rfl (by omega) (by omega) (fun q => absurd q (by omega)) (fun _ => ?_)
  refine pm_iloadn hG dX12_plans_13 rfl ?_
  refine pm_istoreXi (loc' := [some (.ref (B + 54)), some (.int (nI 8)), some (.int zb), some (.int zc), some (.int zc), none, none]) hG dX12_plans_14 (by decide) (pm_c1b rfl) rfl ?_
  refine pm_iconst (v := nI 0) hG dX12_plans_16 (by decide) ?_
  refine pm_istoreXi (loc' := [some (.ref (B + 54)), some (.int (nI 8)), some (.int zb), some (.int zc), some (.int zc), some (.int (nI 0)), none]) hG dX12_plans_17 (by decide) (pm_c1b rfl) rfl ?_
  have loop19_1 : ∀ (m1 : Nat) (I1 : Nat → Int32) (A1 : Nat → Nat → Int32) (x1_4 : Int32) (i1 : Nat), i1 ≤ 6 → 6 - i1 < m1 → pm_wp mX12_plans G B 19 [some (.ref (B + 54)), some (.int (nI 8)), some (.int zb), some (.int zc), some (.int x1_4), some (.int (nI i1)), none] [] 0 0 cnt (pm_mid σ (md_L B I1 A1 n k z ac wt pl (nI p0) (nI t0) im y)) := by
    intro m1
    induction m1 with
    | zero => intro I1 A1 x1_4 i1 _ hm; exact absurd hm (Nat.not_lt_zero _)
    | succ m1 ih1 =>
      intro I1 A1 x1_4 i1 hi1 hm1
      refine pm_iloadi hG dX12_plans_19 rfl ?_
      refine pm_bipush (v := nI 6) hG dX12_plans_21 (by decide) ?_
      refine pm_icmpN_ge (tgt := 66) hG dX12_plans_23 rfl (by omega) (by omega) (fun c2 => ?_) (fun c2 => ?_)
      · refine pm_aloadn hG dX12_plans_66 rfl ?_
        refine pm_getf hG dX12_plans_67 (flX12_273 _ rfl) rfl rfl ?_
        refine pm_any (fun x3 => ?_)
        refine pm_if_eq (tgt := 83) hG dX12_plans_70 rfl (fun c4 => ?_) (fun c4 => ?_)
        · refine pm_aloadn hG dX12_plans_83 rfl ?_
          refine pm_iconst (v := nI 1) hG dX12_plans_84 (by decide) ?_
          refine pm_putf hG dX12_plans_85 (fwX12_273 _ rfl) rfl (by decide) (by decide) ?_
          refine mdn_hasPlan (fun I_5 => ?_)
          refine pm_aloadn hG dX12_plans_88 rfl ?_
          refine pm_iloadi hG dX12_plans_89 rfl ?_
          refine pm_putf hG dX12_plans_91 (fwX12_277 _ rfl) rfl rfl rfl ?_
          refine mdn_planMost (fun I_6 => ?_)
          refine pm_iconst (v := nI 0) hG dX12_plans_94 (by decide) ?_
          refine pm_istoreXi (loc' := [some (.ref (B + 54)), some (.int (nI 8)), some (.int zb), some (.int zc), some (.int x1_4), some (.int (nI 0)), none]) hG dX12_plans_95 (by decide) (pm_c1b rfl) rfl ?_
          have loop97_7 : ∀ (m7 : Nat) (I7 : Nat → Int32) (A7 : Nat → Nat → Int32) (i7 : Nat), i7 ≤ 8 → 8 - i7 < m7 → pm_wp mX12_plans G B 97 [some (.ref (B + 54)), some (.int (nI 8)), some (.int zb), some (.int zc), some (.int x1_4), some (.int (nI i7)), none] [] 0 0 cnt (pm_mid σ (md_L B I7 A7 n k z ac wt pl (nI p0) (nI t0) im y)) := by
            intro m7
            induction m7 with
            | zero => intro I7 A7 i7 _ hm; exact absurd hm (Nat.not_lt_zero _)
            | succ m7 ih7 =>
              intro I7 A7 i7 hi7 hm7
              refine pm_iloadi hG dX12_plans_97 rfl ?_
              refine pm_iloadn hG dX12_plans_99 rfl ?_
              refine pm_icmpN_ge (tgt := 123) hG dX12_plans_100 rfl (by omega) (by omega) (fun c8 => ?_) (fun c8 => ?_)
              · exact pm_vret hG hF dX12_plans_123 rfl (Nat.le_refl _) (Nat.le_refl _) ⟨rfl, ⟨_, _, rfl⟩, rfl⟩
              · refine pm_aloadn hG dX12_plans_103 rfl ?_
                refine pm_getf hG dX12_plans_104 (flX12_49 _ rfl) rfl rfl ?_
                refine pm_iloadi hG dX12_plans_107 rfl ?_
                refine pm_aloadn hG dX12_plans_109 rfl ?_
                refine pm_getf hG dX12_plans_110 (flX12_46 _ rfl) rfl rfl ?_
                refine pm_iloadi hG dX12_plans_113 rfl ?_
                refine pm_ialdN hG dX12_plans_115 rfl (by decide) (by omega) ?_
                refine pm_any (fun x9 => ?_)
                refine pm_iastN hG dX12_plans_116 rfl (by decide) (by omega) ?_
                refine mdn_bestPledges (fun A_10 => ?_)
                refine pm_iincX (v := nI (i7 + 1)) (loc' := [some (.ref (B + 54)), some (.int (nI 8)), some (.int zb), some (.int zc), some (.int x1_4), some (.int (nI (i7 + 1))), none]) hG dX12_plans_117 rfl (nI_1 _) (by decide) (pm_c1b rfl) rfl ?_
                refine pm_goto (tgt := 97) hG dX12_plans_120 rfl ?_
                exact ih7 I7 A_10 (i7 + 1) (by omega) (by omega)
          exact loop97_7 _ I_6 A1 0 (by omega) (Nat.lt_succ_self _)
        · refine pm_iloadi hG dX12_plans_73 rfl ?_
          refine pm_aloadn hG dX12_plans_75 rfl ?_
          refine pm_getf hG dX12_plans_76 (flX12_277 _ rfl) rfl rfl ?_
          refine pm_any (fun x11 => ?_)
          refine pm_icmp_gt (tgt := 83) hG dX12_plans_79 rfl (fun c12 => ?_) (fun c12 => ?_)
          · refine pm_aloadn hG dX12_plans_83 rfl ?_
            refine pm_iconst (v := nI 1) hG dX12_plans_84 (by decide) ?_
            refine pm_putf hG dX12_plans_85 (fwX12_273 _ rfl) rfl (by decide) (by decide) ?_
            refine mdn_hasPlan (fun I_13 => ?_)
            refine pm_aloadn hG dX12_plans_88 rfl ?_
            refine pm_iloadi hG dX12_plans_89 rfl ?_
            refine pm_putf hG dX12_plans_91 (fwX12_277 _ rfl) rfl rfl rfl ?_
            refine mdn_planMost (fun I_14 => ?_)
            refine pm_iconst (v := nI 0) hG dX12_plans_94 (by decide) ?_
            refine pm_istoreXi (loc' := [some (.ref (B + 54)), some (.int (nI 8)), some (.int zb), some (.int zc), some (.int x1_4), some (.int (nI 0)), none]) hG dX12_plans_95 (by decide) (pm_c1b rfl) rfl ?_
            have loop97_15 : ∀ (m15 : Nat) (I15 : Nat → Int32) (A15 : Nat → Nat → Int32) (i15 : Nat), i15 ≤ 8 → 8 - i15 < m15 → pm_wp mX12_plans G B 97 [some (.ref (B + 54)), some (.int (nI 8)), some (.int zb), some (.int zc), some (.int x1_4), some (.int (nI i15)), none] [] 0 0 cnt (pm_mid σ (md_L B I15 A15 n k z ac wt pl (nI p0) (nI t0) im y)) := by
              intro m15
              induction m15 with
              | zero => intro I15 A15 i15 _ hm; exact absurd hm (Nat.not_lt_zero _)
              | succ m15 ih15 =>
                intro I15 A15 i15 hi15 hm15
                refine pm_iloadi hG dX12_plans_97 rfl ?_
                refine pm_iloadn hG dX12_plans_99 rfl ?_
                refine pm_icmpN_ge (tgt := 123) hG dX12_plans_100 rfl (by omega) (by omega) (fun c16 => ?_) (fun c16 => ?_)
                · exact pm_vret hG hF dX12_plans_123 rfl (Nat.le_refl _) (Nat.le_refl _) ⟨rfl, ⟨_, _, rfl⟩, rfl⟩
                · refine pm_aloadn hG dX12_plans_103 rfl ?_
                  refine pm_getf hG dX12_plans_104 (flX12_49 _ rfl) rfl rfl ?_
                  refine pm_iloadi hG dX12_plans_107 rfl ?_
                  refine pm_aloadn hG dX12_plans_109 rfl ?_
                  refine pm_getf hG dX12_plans_110 (flX12_46 _ rfl) rfl rfl ?_
                  refine pm_iloadi hG dX12_plans_113 rfl ?_
                  refine pm_ialdN hG dX12_plans_115 rfl (by decide) (by omega) ?_
                  refine pm_any (fun x17 => ?_)
                  refine pm_iastN hG dX12_plans_116 rfl (by decide) (by omega) ?_
                  refine mdn_bestPledges (fun A_18 => ?_)
                  refine pm_iincX (v := nI (i15 + 1)) (loc' := [some (.ref (B + 54)), some (.int (nI 8)), some (.int zb), some (.int zc), some (.int x1_4), some (.int (nI (i15 + 1))), none]) hG dX12_plans_117 rfl (nI_1 _) (by decide) (pm_c1b rfl) rfl ?_
                  refine pm_goto (tgt := 97) hG dX12_plans_120 rfl ?_
                  exact ih15 I15 A_18 (i15 + 1) (by omega) (by omega)
            exact loop97_15 _ I_14 A1 0 (by omega) (Nat.lt_succ_self _)
          · exact pm_vret hG hF dX12_plans_82 rfl (Nat.le_refl _) (Nat.le_refl _) ⟨rfl, ⟨_, _, rfl⟩, rfl⟩
      · refine pm_iloadi hG dX12_plans_26 rfl ?_
        refine pm_iloadn hG dX12_plans_28 rfl ?_
        refine pm_iloadi hG dX12_plans_29 rfl ?_
        refine pm_ishr hG dX12_plans_31 ?_
        refine pm_any (fun x19 => ?_)
        refine pm_iconst (v := nI 1) hG dX12_plans_32 (by decide) ?_
        refine pm_iand hG dX12_plans_33 ?_
        refine pm_any (fun x20 => ?_)
        refine pm_iconst (v := nI 1) hG dX12_plans_34 (by decide) ?_
        refine pm_icmp_ne (tgt := 56) hG dX12_plans_35 rfl (fun c21 => ?_) (fun c21 => ?_)
        · refine pm_iconst (v := nI 0) hG dX12_plans_56 (by decide) ?_
          refine pm_iadd hG dX12_plans_57 ?_
          refine pm_istoreXi (loc' := [some (.ref (B + 54)), some (.int (nI 8)), some (.int zb), some (.int zc), some (.int (x1_4 + (nI 0))), some (.int (nI i1)), none]) hG dX12_plans_58 (by decide) (pm_c1b rfl) rfl ?_
          refine pm_iincX (v := nI (i1 + 1)) (loc' := [some (.ref (B + 54)), some (.int (nI 8)), some (.int zb), some (.int zc), some (.int (x1_4 + (nI 0))), some (.int (nI (i1 + 1))), none]) hG dX12_plans_60 rfl (nI_1 _) (by decide) (pm_c1b rfl) rfl ?_
          refine pm_goto (tgt := 19) hG dX12_plans_63 rfl ?_
          exact ih1 I1 A1 (x1_4 + (nI 0)) (i1 + 1) (by omega) (by omega)
        · refine pm_bipush (v := nI 8) hG dX12_plans_38 (by decide) ?_
          refine pm_aloadn hG dX12_plans_40 rfl ?_
          refine pm_getf hG dX12_plans_41 (flX12_7 _ rfl) rfl rfl ?_
          refine pm_bipush (v := nI 20) hG dX12_plans_44 (by decide) ?_
          refine pm_iconst (v := nI 3) hG dX12_plans_46 (by decide) ?_
          refine pm_iloadi hG dX12_plans_47 rfl ?_
          refine pm_imulN (c := 3 * i1) hG dX12_plans_49 (by omega) ?_
          refine pm_iaddN (c := 3 * i1 + 20) hG dX12_plans_50 (by omega) ?_
          refine pm_ialdN hG dX12_plans_51 rfl (by decide) (by omega) ?_
          refine pm_gen (fun x22 ex22 => ?_)
          refine pm_imul hG dX12_plans_52 ?_
          refine pm_goto (tgt := 57) hG dX12_plans_53 rfl ?_
          refine pm_iadd hG dX12_plans_57 ?_
          refine pm_istoreXi (loc' := [some (.ref (B + 54)), some (.int (nI 8)), some (.int zb), some (.int zc), some (.int (x1_4 + ((nI 8) * x22))), some (.int (nI i1)), none]) hG dX12_plans_58 (by decide) (pm_c1b rfl) rfl ?_
          refine pm_iincX (v := nI (i1 + 1)) (loc' := [some (.ref (B + 54)), some (.int (nI 8)), some (.int zb), some (.int zc), some (.int (x1_4 + ((nI 8) * x22))), some (.int (nI (i1 + 1))), none]) hG dX12_plans_60 rfl (nI_1 _) (by decide) (pm_c1b rfl) rfl ?_
          refine pm_goto (tgt := 19) hG dX12_plans_63 rfl ?_
          exact ih1 I1 A1 (x1_4 + ((nI 8) * x22)) (i1 + 1) (by omega) (by omega)
  exact loop19_1 _ I A zc 0 (by omega) (Nat.lt_succ_self _)
