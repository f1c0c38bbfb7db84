set_option maxRecDepth 100000 in
set_option maxHeartbeats 4000000 in
theorem m_cause {d B cnt p0 t0 : Nat} {σ : pm_S} {I : Nat → Int32} {A : Nat → Nat → Int32} {n k z : Nat → Int32} {ac wt pl im : Int32} {y : Nat → Int32} {za zb : Int32} (hdd : 5 ≤ d) (hn : KI n) (hr : NR n) (hz : SZ z)  : pm_met mX12_cause d 0 0 B [.ref (B + 54), .int za, .int zb] cnt (pm_mid σ (md_L B I A n k z ac wt pl (nI p0) (nI t0) im y)) (pm_Qi (fun v σ' cnt' => (∃ (I' : Nat → Int32) (A' : Nat → Nat → Int32), σ' = pm_mid σ (md_L B I' A' n k z ac wt pl (nI p0) (nI t0) im y)) ∧ cnt = cnt')) := by
  refine pm_enter 2 (by decide) (Nat.le_of_ble_eq_true rfl) rfl (fun G hG hR hF => ?_)
  refine pm_iloadn hG dX12_cause_0 rfl ?_
  refine pm_iconst (v := nI 0) hG dX12_cause_1 (by decide) ?_
  refine pm_iconst (v := nI 5) hG dX12_cause_2 (by decide) ?_
  refine pm_callS (As := [.int za, .int (nI 0), .int (nI 5)]) (rest := []) hG hR dX12_cause_3 (lkX12_68 _ rfl) okS_X12_in (m_in (d := 4)) rfl rfl hdd (Nat.le_refl _) (Nat.le_refl _) (by decide) (pm_ki (fun v1 σ' cnt' hq => ?_))
  obtain ⟨hq, rfl, rfl⟩ := hq
  rcases hq with ⟨rfl, ac2, bc2⟩ | ⟨rfl, c2⟩
  · obtain ⟨k3, hk3, ek3⟩ := in_nat (by omega) (by omega) ac2 bc2
    refine pm_ifN_eq (tgt := 18) hG dX12_cause_6 rfl (by omega) (fun q => absurd q (by omega)) (fun _ => ?_)
    refine pm_iloadn hG dX12_cause_9 rfl ?_
    refine pm_iconst (v := nI 0) hG dX12_cause_10 (by decide) ?_
    refine pm_iconst (v := nI 3) hG dX12_cause_11 (by decide) ?_
    refine pm_callS (As := [.int zb, .int (nI 0), .int (nI 3)]) (rest := []) hG hR dX12_cause_12 (lkX12_68 _ rfl) okS_X12_in (m_in (d := 4)) rfl rfl hdd (Nat.le_refl _) (Nat.le_refl _) (by decide) (pm_ki (fun v4 σ' cnt' hq => ?_))
    obtain ⟨hq, rfl, rfl⟩ := hq
    rcases hq with ⟨rfl, ac5, bc5⟩ | ⟨rfl, c5⟩
    · obtain ⟨k6, hk6, ek6⟩ := in_nat (by omega) (by omega) ac5 bc5
      refine pm_ifN_ne (tgt := 24) hG dX12_cause_15 rfl (by omega) (fun _ => ?_) (fun q => absurd q (by omega))
      refine pm_iloadn hG dX12_cause_24 rfl ?_
      refine pm_top (v := nI k6) ek6 ?_
      refine pm_iconst (v := nI 3) hG dX12_cause_25 (by decide) ?_
      refine pm_icmpN_ne (tgt := 82) hG dX12_cause_26 rfl (by omega) (by omega) (fun c7 => ?_) (fun c7 => ?_)
      · refine pm_aloadn hG dX12_cause_82 rfl ?_
        refine pm_iloadn hG dX12_cause_83 rfl ?_
        refine pm_top (v := nI k3) ek3 ?_
        refine pm_callV (As := [.int (nI k3)]) (rest := []) hG hR dX12_cause_84 (lkX12_246 _ rfl) okV_X12_weigh rfl rfl (m_weigh (d := 4) (by decide) hn hr hz) rfl rfl hdd (Nat.le_refl _) (Nat.le_refl _) (by decide) (pm_kv (fun σ' cnt' hq => ?_))
        obtain ⟨⟨I9, A9, rfl⟩, rfl⟩ := hq
        refine pm_aloadn hG dX12_cause_87 rfl ?_
        refine pm_iconst (v := nI 0) hG dX12_cause_88 (by decide) ?_
        refine pm_callV (As := [.int (nI 0)]) (rest := []) hG hR dX12_cause_89 (lkX12_249 _ rfl) okV_X12_weightOf rfl rfl (m_weightOf (d := 4) (by decide) hn hz) rfl rfl hdd (Nat.le_refl _) (Nat.le_refl _) (by decide) (pm_ki (fun v10 σ' cnt' hq => ?_))
        obtain ⟨rfl, rfl⟩ := hq
        refine pm_istoreXn (loc' := [some (.ref (B + 54)), some (.int za), some (.int zb), some (.int v10), none]) hG dX12_cause_92 (by decide) (pm_c1b rfl) rfl ?_
        refine pm_aloadn hG dX12_cause_93 rfl ?_
        refine pm_iconst (v := nI 1) hG dX12_cause_94 (by decide) ?_
        refine pm_callV (As := [.int (nI 1)]) (rest := []) hG hR dX12_cause_95 (lkX12_249 _ rfl) okV_X12_weightOf rfl rfl (m_weightOf (d := 4) (by decide) hn hz) rfl rfl hdd (Nat.le_refl _) (Nat.le_refl _) (by decide) (pm_ki (fun v12 σ' cnt' hq => ?_))
        obtain ⟨rfl, rfl⟩ := hq
        refine pm_istoreXi (loc' := [some (.ref (B + 54)), some (.int za), some (.int zb), some (.int v10), some (.int v12)]) hG dX12_cause_98 (by decide) (pm_c1b rfl) rfl ?_
        refine pm_iloadn hG dX12_cause_100 rfl ?_
        refine pm_top (v := nI k6) ek6 ?_
        refine pm_ifN_ne (tgt := 108) hG dX12_cause_101 rfl (by omega) (fun c14 => ?_) (fun c14 => ?_)
        · refine pm_iloadn hG dX12_cause_108 rfl ?_
          refine pm_top (v := nI k6) ek6 ?_
          refine pm_iconst (v := nI 1) hG dX12_cause_109 (by decide) ?_
          refine pm_icmpN_ne (tgt := 118) hG dX12_cause_110 rfl (by omega) (by omega) (fun c15 => ?_) (fun c15 => ?_)
          · refine pm_iconst (v := nI 2) hG dX12_cause_118 (by decide) ?_
            refine pm_iloadn hG dX12_cause_119 rfl ?_
            refine pm_imul hG dX12_cause_120 ?_
            refine pm_iloadi hG dX12_cause_121 rfl ?_
            refine pm_icmp_le (tgt := 130) hG dX12_cause_123 rfl (fun c16 => ?_) (fun c16 => ?_)
            · refine pm_iconst (v := nI 0) hG dX12_cause_130 (by decide) ?_
              exact pm_iret hG hF dX12_cause_131 rfl (Nat.le_refl _) (Nat.le_refl _) ⟨_, rfl, ⟨_, _, rfl⟩, rfl⟩
            · refine pm_iconst (v := nI 1) hG dX12_cause_126 (by decide) ?_
              refine pm_goto (tgt := 131) hG dX12_cause_127 rfl ?_
              exact pm_iret hG hF dX12_cause_131 rfl (Nat.le_refl _) (Nat.le_refl _) ⟨_, rfl, ⟨_, _, rfl⟩, rfl⟩
          · refine pm_iloadi hG dX12_cause_113 rfl ?_
            refine pm_goto (tgt := 131) hG dX12_cause_115 rfl ?_
            exact pm_iret hG hF dX12_cause_131 rfl (Nat.le_refl _) (Nat.le_refl _) ⟨_, rfl, ⟨_, _, rfl⟩, rfl⟩
        · refine pm_iloadn hG dX12_cause_104 rfl ?_
          refine pm_goto (tgt := 131) hG dX12_cause_105 rfl ?_
          exact pm_iret hG hF dX12_cause_131 rfl (Nat.le_refl _) (Nat.le_refl _) ⟨_, rfl, ⟨_, _, rfl⟩, rfl⟩
      · refine pm_iconst (v := nI 0) hG dX12_cause_29 (by decide) ?_
        refine pm_istoreXn (loc' := [some (.ref (B + 54)), some (.int za), some (.int zb), some (.int (nI 0)), none]) hG dX12_cause_30 (by decide) (pm_c1b rfl) rfl ?_
        have loop31_17 : ∀ (m17 : Nat) (I17 : Nat → Int32) (A17 : Nat → Nat → Int32) (i17 : Nat), i17 ≤ 30 → 30 - i17 < m17 → pm_wp mX12_cause G B 31 [some (.ref (B + 54)), some (.int za), some (.int zb), some (.int (nI i17)), none] [] 0 0 cnt (pm_mid σ (md_L B I17 A17 n k z ac wt pl (nI p0) (nI t0) im y)) := by
          intro m17
          induction m17 with
          | zero => intro I17 A17 i17 _ hm; exact absurd hm (Nat.not_lt_zero _)
          | succ m17 ih17 =>
            intro I17 A17 i17 hi17 hm17
            refine pm_iloadn hG dX12_cause_31 rfl ?_
            refine pm_aloadn hG dX12_cause_32 rfl ?_
            refine pm_getf hG dX12_cause_33 (flX12_7 _ rfl) rfl rfl ?_
            refine pm_bipush (v := nI 7) hG dX12_cause_36 (by decide) ?_
            refine pm_ialdN hG dX12_cause_38 rfl (by decide) (by omega) ?_
            obtain ⟨k18, hk18, ek18⟩ := KI.nat hn (show kd 7 = (1, 31, false) by decide)
            refine pm_top (v := nI k18) ek18 ?_
            refine pm_icmpN_ge (tgt := 80) hG dX12_cause_39 rfl (by omega) (by omega) (fun c19 => ?_) (fun c19 => ?_)
            · refine pm_iconst (v := (-1)) hG dX12_cause_80 (by decide) ?_
              exact pm_iret hG hF dX12_cause_81 rfl (Nat.le_refl _) (Nat.le_refl _) ⟨_, rfl, ⟨_, _, rfl⟩, rfl⟩
            · refine pm_aloadn hG dX12_cause_42 rfl ?_
              refine pm_iloadn hG dX12_cause_43 rfl ?_
              refine pm_iconst (v := nI 1) hG dX12_cause_44 (by decide) ?_
              refine pm_callV (As := [.int (nI i17), .int (nI 1)]) (rest := []) hG hR dX12_cause_45 (lkX12_223 _ rfl) okV_X12_promised rfl rfl (m_promised (d := 4) (e := 6 * i17 + 1807) (by omega) (by omega) (by omega)) rfl rfl hdd (Nat.le_refl _) (Nat.le_refl _) (by decide) (pm_ki (fun v20 σ' cnt' hq => ?_))
              obtain ⟨rfl, rfl, rfl⟩ := hq
              refine pm_gen (fun x21 ex21 => ?_)
              refine pm_iloadn hG dX12_cause_48 rfl ?_
              refine pm_top (v := nI k3) ek3 ?_
              refine pm_icmp_ne (tgt := 74) hG dX12_cause_49 rfl (fun c22 => ?_) (fun c22 => ?_)
              · refine pm_iincX (v := nI (i17 + 1)) (loc' := [some (.ref (B + 54)), some (.int za), some (.int zb), some (.int (nI (i17 + 1))), none]) hG dX12_cause_74 rfl (nI_1 _) (by decide) (pm_c1b rfl) rfl ?_
                refine pm_goto (tgt := 31) hG dX12_cause_77 rfl ?_
                exact ih17 I17 A17 (i17 + 1) (by omega) (by omega)
              · refine pm_aloadn hG dX12_cause_52 rfl ?_
                refine pm_iloadn hG dX12_cause_53 rfl ?_
                refine pm_iconst (v := nI 3) hG dX12_cause_54 (by decide) ?_
                refine pm_callV (As := [.int (nI i17), .int (nI 3)]) (rest := []) hG hR dX12_cause_55 (lkX12_223 _ rfl) okV_X12_promised rfl rfl (m_promised (d := 4) (e := 6 * i17 + 1809) (by omega) (by omega) (by omega)) rfl rfl hdd (Nat.le_refl _) (Nat.le_refl _) (by decide) (pm_ki (fun v23 σ' cnt' hq => ?_))
                obtain ⟨rfl, rfl, rfl⟩ := hq
                refine pm_gen (fun x24 ex24 => ?_)
                refine pm_iconst (v := nI 1) hG dX12_cause_58 (by decide) ?_
                refine pm_icmp_ne (tgt := 74) hG dX12_cause_59 rfl (fun c25 => ?_) (fun c25 => ?_)
                · refine pm_iincX (v := nI (i17 + 1)) (loc' := [some (.ref (B + 54)), some (.int za), some (.int zb), some (.int (nI (i17 + 1))), none]) hG dX12_cause_74 rfl (nI_1 _) (by decide) (pm_c1b rfl) rfl ?_
                  refine pm_goto (tgt := 31) hG dX12_cause_77 rfl ?_
                  exact ih17 I17 A17 (i17 + 1) (by omega) (by omega)
                · refine pm_aloadn hG dX12_cause_62 rfl ?_
                  refine pm_iloadn hG dX12_cause_63 rfl ?_
                  refine pm_iconst (v := nI 4) hG dX12_cause_64 (by decide) ?_
                  refine pm_callV (As := [.int (nI i17), .int (nI 4)]) (rest := []) hG hR dX12_cause_65 (lkX12_223 _ rfl) okV_X12_promised rfl rfl (m_promised (d := 4) (e := 6 * i17 + 1810) (by omega) (by omega) (by omega)) rfl rfl hdd (Nat.le_refl _) (Nat.le_refl _) (by decide) (pm_ki (fun v26 σ' cnt' hq => ?_))
                  obtain ⟨rfl, rfl, rfl⟩ := hq
                  refine pm_gen (fun x27 ex27 => ?_)
                  refine pm_iconst (v := nI 1) hG dX12_cause_68 (by decide) ?_
                  refine pm_icmp_ne (tgt := 74) hG dX12_cause_69 rfl (fun c28 => ?_) (fun c28 => ?_)
                  · refine pm_iincX (v := nI (i17 + 1)) (loc' := [some (.ref (B + 54)), some (.int za), some (.int zb), some (.int (nI (i17 + 1))), none]) hG dX12_cause_74 rfl (nI_1 _) (by decide) (pm_c1b rfl) rfl ?_
                    refine pm_goto (tgt := 31) hG dX12_cause_77 rfl ?_
                    exact ih17 I17 A17 (i17 + 1) (by omega) (by omega)
                  · refine pm_iloadn hG dX12_cause_72 rfl ?_
                    exact pm_iret hG hF dX12_cause_73 rfl (Nat.le_refl _) (Nat.le_refl _) ⟨_, rfl, ⟨_, _, rfl⟩, rfl⟩
        exact loop31_17 _ I A 0 (by omega) (Nat.lt_succ_self _)
    · refine pm_ifN_ne (tgt := 24) hG dX12_cause_15 rfl (by omega) (fun q => absurd q (by omega)) (fun _ => ?_)
      refine pm_aloadn hG dX12_cause_18 rfl ?_
      refine pm_iconst (v := nI 1) hG dX12_cause_19 (by decide) ?_
      refine pm_callV (As := [.int (nI 1)]) (rest := []) hG hR dX12_cause_20 (lkX12_80 _ rfl) okV_X12_finds rfl rfl (m_finds (d := 4) (by decide) hn hz (by omega)) rfl rfl hdd (Nat.le_refl _) (Nat.le_refl _) (by decide) (pm_ki (fun v29 σ' cnt' hq => ?_))
      obtain ⟨⟨I30, A30, rfl⟩, rfl, fv29⟩ := hq
      exact pm_iret hG hF dX12_cause_23 rfl (Nat.le_refl _) (Nat.le_refl _) ⟨_, rfl, ⟨_, _, rfl⟩, rfl⟩
  · refine pm_ifN_eq (tgt := 18) hG dX12_cause_6 rfl (by omega) (fun _ => ?_) (fun q => absurd q (by omega))
    refine pm_aloadn hG dX12_cause_18 rfl ?_
    refine pm_iconst (v := nI 1) hG dX12_cause_19 (by decide) ?_
    refine pm_callV (As := [.int (nI 1)]) (rest := []) hG hR dX12_cause_20 (lkX12_80 _ rfl) okV_X12_finds rfl rfl (m_finds (d := 4) (by decide) hn hz (by omega)) rfl rfl hdd (Nat.le_refl _) (Nat.le_refl _) (by decide) (pm_ki (fun v31 σ' cnt' hq => ?_))
    obtain ⟨⟨I32, A32, rfl⟩, rfl, fv31⟩ := hq
    exact pm_iret hG hF dX12_cause_23 rfl (Nat.le_refl _) (Nat.le_refl _) ⟨_, rfl, ⟨_, _, rfl⟩, rfl⟩
