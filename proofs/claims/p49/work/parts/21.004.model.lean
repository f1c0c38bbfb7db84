set_option maxRecDepth 100000 in
set_option maxHeartbeats 4000000 in
theorem m_stepsOf {d B cnt p0 t0 : Nat} {σ : pm_S} {I : Nat → Int32} {A : Nat → Nat → Int32} {n k z : Nat → Int32} {ac wt pl im : Int32} {y : Nat → Int32} {ba : Nat} (hdd : 1 ≤ d) (hn : KI n) (hz : SZ z) (hba : ba < 20) : pm_met mX12_stepsOf d 0 0 B [.ref (B + 54), .int (nI ba)] cnt (pm_mid σ (md_L B I A n k z ac wt pl (nI p0) (nI t0) im y)) (pm_Qi (fun v σ' cnt' => (∃ (I' : Nat → Int32) (A' : Nat → Nat → Int32), σ' = pm_mid σ (md_L B I' A' n k z ac wt pl (nI p0) (nI t0) im y)) ∧ cnt = cnt')) := by
  refine pm_enter 4 (by decide) (Nat.le_of_ble_eq_true rfl) rfl (fun G hG hR hF => ?_)
  refine pm_iconst (v := nI 0) hG dX12_stepsOf_0 (by decide) ?_
  refine pm_istoreXn (loc' := [some (.ref (B + 54)), some (.int (nI ba)), some (.int (nI 0)), none, none, none]) hG dX12_stepsOf_1 (by decide) (pm_c1b rfl) rfl ?_
  have loop2_1 : ∀ (m1 : Nat) (I1 : Nat → Int32) (A1 : Nat → Nat → Int32) (i1 : Nat), i1 ≤ 20 → 20 - i1 < m1 → pm_wp mX12_stepsOf G B 2 [some (.ref (B + 54)), some (.int (nI ba)), some (.int (nI i1)), none, none, none] [] 0 0 cnt (pm_mid σ (md_L B I1 A1 n k z ac wt pl (nI p0) (nI t0) im y)) := by
    intro m1
    induction m1 with
    | zero => intro I1 A1 i1 _ hm; exact absurd hm (Nat.not_lt_zero _)
    | succ m1 ih1 =>
      intro I1 A1 i1 hi1 hm1
      refine pm_iloadn hG dX12_stepsOf_2 rfl ?_
      refine pm_bipush (v := nI 20) hG dX12_stepsOf_3 (by decide) ?_
      refine pm_icmpN_ge (tgt := 30) hG dX12_stepsOf_5 rfl (by omega) (by omega) (fun c2 => ?_) (fun c2 => ?_)
      · refine pm_iconst (v := nI 1) hG dX12_stepsOf_30 (by decide) ?_
        refine pm_istoreXn (loc' := [some (.ref (B + 54)), some (.int (nI ba)), some (.int (nI 1)), none, none, none]) hG dX12_stepsOf_31 (by decide) (pm_c1b rfl) rfl ?_
        have loop32_3 : ∀ (m3 : Nat) (I3 : Nat → Int32) (A3 : Nat → Nat → Int32) (i3 : Nat), i3 ≤ 20 → 20 - i3 < m3 → pm_wp mX12_stepsOf G B 32 [some (.ref (B + 54)), some (.int (nI ba)), some (.int (nI i3)), none, none, none] [] 0 0 cnt (pm_mid σ (md_L B I3 A3 n k z ac wt pl (nI p0) (nI t0) im y)) := by
          intro m3
          induction m3 with
          | zero => intro I3 A3 i3 _ hm; exact absurd hm (Nat.not_lt_zero _)
          | succ m3 ih3 =>
            intro I3 A3 i3 hi3 hm3
            refine pm_iloadn hG dX12_stepsOf_32 rfl ?_
            refine pm_bipush (v := nI 20) hG dX12_stepsOf_33 (by decide) ?_
            refine pm_icmpN_ge (tgt := 155) hG dX12_stepsOf_35 rfl (by omega) (by omega) (fun c4 => ?_) (fun c4 => ?_)
            · refine pm_aloadn hG dX12_stepsOf_155 rfl ?_
              refine pm_getf hG dX12_stepsOf_156 (flX12_22 _ rfl) rfl rfl ?_
              refine pm_iloadn hG dX12_stepsOf_159 rfl ?_
              refine pm_ialdN hG dX12_stepsOf_160 rfl (by decide) (by omega) ?_
              refine pm_any (fun x5 => ?_)
              exact pm_iret hG hF dX12_stepsOf_161 rfl (Nat.le_refl _) (Nat.le_refl _) ⟨_, rfl, ⟨_, _, rfl⟩, rfl⟩
            · refine pm_iconst (v := nI 0) hG dX12_stepsOf_38 (by decide) ?_
              refine pm_istoreXn (loc' := [some (.ref (B + 54)), some (.int (nI ba)), some (.int (nI i3)), some (.int (nI 0)), none, none]) hG dX12_stepsOf_39 (by decide) (pm_c1b rfl) rfl ?_
              have loop40_6 : ∀ (m6 : Nat) (I6 : Nat → Int32) (A6 : Nat → Nat → Int32) (i6 : Nat), i6 ≤ 20 → 20 - i6 < m6 → pm_wp mX12_stepsOf G B 40 [some (.ref (B + 54)), some (.int (nI ba)), some (.int (nI i3)), some (.int (nI i6)), none, none] [] 0 0 cnt (pm_mid σ (md_L B I6 A6 n k z ac wt pl (nI p0) (nI t0) im y)) := by
                intro m6
                induction m6 with
                | zero => intro I6 A6 i6 _ hm; exact absurd hm (Nat.not_lt_zero _)
                | succ m6 ih6 =>
                  intro I6 A6 i6 hi6 hm6
                  refine pm_iloadn hG dX12_stepsOf_40 rfl ?_
                  refine pm_aloadn hG dX12_stepsOf_41 rfl ?_
                  refine pm_getf hG dX12_stepsOf_42 (flX12_7 _ rfl) rfl rfl ?_
                  refine pm_iconst (v := nI 2) hG dX12_stepsOf_45 (by decide) ?_
                  refine pm_ialdN hG dX12_stepsOf_46 rfl (by decide) (by omega) ?_
                  obtain ⟨k7, hk7, ek7⟩ := KI.nat hn (show kd 2 = (1, 21, true) by decide)
                  refine pm_top (v := nI k7) ek7 ?_
                  refine pm_icmpN_ge (tgt := 149) hG dX12_stepsOf_47 rfl (by omega) (by omega) (fun c8 => ?_) (fun c8 => ?_)
                  · refine pm_iincX (v := nI (i3 + 1)) (loc' := [some (.ref (B + 54)), some (.int (nI ba)), some (.int (nI (i3 + 1))), some (.int (nI i6)), none, none]) hG dX12_stepsOf_149 rfl (nI_1 _) (by decide) (pm_c1b rfl) rfl ?_
                    refine pm_goto (tgt := 32) hG dX12_stepsOf_152 rfl ?_
                    refine pm_fg 3 (loc' := [some (.ref (B + 54)), some (.int (nI ba)), some (.int (nI (i3 + 1))), none, none, none]) rfl ?_
                    exact ih3 I6 A6 (i3 + 1) (by omega) (by omega)
                  · refine pm_iconst (v := nI 2) hG dX12_stepsOf_50 (by decide) ?_
                    refine pm_istoreXi (loc' := [some (.ref (B + 54)), some (.int (nI ba)), some (.int (nI i3)), some (.int (nI i6)), some (.int (nI 2)), none]) hG dX12_stepsOf_51 (by decide) (pm_c1b rfl) rfl ?_
                    have loop53_9 : ∀ (m9 : Nat) (I9 : Nat → Int32) (A9 : Nat → Nat → Int32) (i9 : Nat), i9 ≤ 4 → 2 ≤ i9 → 4 - i9 < m9 → pm_wp mX12_stepsOf G B 53 [some (.ref (B + 54)), some (.int (nI ba)), some (.int (nI i3)), some (.int (nI i6)), some (.int (nI i9)), none] [] 0 0 cnt (pm_mid σ (md_L B I9 A9 n k z ac wt pl (nI p0) (nI t0) im y)) := by
                      intro m9
                      induction m9 with
                      | zero => intro I9 A9 i9 _ _ hm; exact absurd hm (Nat.not_lt_zero _)
                      | succ m9 ih9 =>
                        intro I9 A9 i9 hi9 hl9 hm9
                        refine pm_iloadi hG dX12_stepsOf_53 rfl ?_
                        refine pm_iconst (v := nI 3) hG dX12_stepsOf_55 (by decide) ?_
                        refine pm_icmpN_gt (tgt := 143) hG dX12_stepsOf_56 rfl (by omega) (by omega) (fun c10 => ?_) (fun c10 => ?_)
                        · refine pm_iincX (v := nI (i6 + 1)) (loc' := [some (.ref (B + 54)), some (.int (nI ba)), some (.int (nI i3)), some (.int (nI (i6 + 1))), some (.int (nI i9)), none]) hG dX12_stepsOf_143 rfl (nI_1 _) (by decide) (pm_c1b rfl) rfl ?_
                          refine pm_goto (tgt := 40) hG dX12_stepsOf_146 rfl ?_
                          refine pm_fg 4 (loc' := [some (.ref (B + 54)), some (.int (nI ba)), some (.int (nI i3)), some (.int (nI (i6 + 1))), none, none]) rfl ?_
                          exact ih6 I9 A9 (i6 + 1) (by omega) (by omega)
                        · refine pm_aloadn hG dX12_stepsOf_59 rfl ?_
                          refine pm_iloadn hG dX12_stepsOf_60 rfl ?_
                          refine pm_iloadi hG dX12_stepsOf_61 rfl ?_
                          refine pm_callV (As := [.int (nI i6), .int (nI i9)]) (rest := []) hG hR dX12_stepsOf_63 (lkX12_72 _ rfl) okV_X12_man rfl rfl (m_man (d := 0) (e := 14 * i6 + i9 + 110) (by omega) (by omega) (by omega)) rfl rfl hdd (Nat.le_refl _) (Nat.le_refl _) (by decide) (pm_ki (fun v11 σ' cnt' hq => ?_))
                          obtain ⟨rfl, rfl, rfl⟩ := hq
                          rcases KI.opt hn (show kd (14 * i6 + i9 + 110) = (2, 20, false) from (kd_PF (k := i6) (c := i9) (by omega) (by omega) (by omega) (by omega))) with ek12 | ⟨k12, hk12, ek12⟩
                          · refine pm_top (v := (-1)) ek12 ?_
                            refine pm_istoreXi (loc' := [some (.ref (B + 54)), some (.int (nI ba)), some (.int (nI i3)), some (.int (nI i6)), some (.int (nI i9)), some (.int (-1))]) hG dX12_stepsOf_66 (by decide) (pm_c1b rfl) rfl ?_
                            refine pm_iloadi hG dX12_stepsOf_68 rfl ?_
                            refine pm_if_ge (tgt := 76) hG dX12_stepsOf_70 rfl (fun q => absurd q (by decide)) (fun _ => ?_)
                            refine pm_goto (tgt := 137) hG dX12_stepsOf_73 rfl ?_
                            refine pm_iincX (v := nI (i9 + 1)) (loc' := [some (.ref (B + 54)), some (.int (nI ba)), some (.int (nI i3)), some (.int (nI i6)), some (.int (nI (i9 + 1))), some (.int (-1))]) hG dX12_stepsOf_137 rfl (nI_1 _) (by decide) (pm_c1b rfl) rfl ?_
                            refine pm_goto (tgt := 53) hG dX12_stepsOf_140 rfl ?_
                            refine pm_fg 5 (loc' := [some (.ref (B + 54)), some (.int (nI ba)), some (.int (nI i3)), some (.int (nI i6)), some (.int (nI (i9 + 1))), none]) rfl ?_
                            exact ih9 I9 A9 (i9 + 1) (by omega) (by omega) (by omega)
                          · refine pm_top (v := nI k12) ek12 ?_
                            refine pm_istoreXi (loc' := [some (.ref (B + 54)), some (.int (nI ba)), some (.int (nI i3)), some (.int (nI i6)), some (.int (nI i9)), some (.int (nI k12))]) hG dX12_stepsOf_66 (by decide) (pm_c1b rfl) rfl ?_
                            refine pm_iloadi hG dX12_stepsOf_68 rfl ?_
                            refine pm_ifN_ge (tgt := 76) hG dX12_stepsOf_70 rfl (by omega) ?_
                            refine pm_aloadn hG dX12_stepsOf_76 rfl ?_
                            refine pm_getf hG dX12_stepsOf_77 (flX12_22 _ rfl) rfl rfl ?_
                            refine pm_iloadi hG dX12_stepsOf_80 rfl ?_
                            refine pm_ialdN hG dX12_stepsOf_82 rfl (by decide) (by omega) ?_
                            refine pm_any (fun x13 => ?_)
                            refine pm_iloadn hG dX12_stepsOf_83 rfl ?_
                            refine pm_iconst (v := nI 1) hG dX12_stepsOf_84 (by decide) ?_
                            refine pm_isub hG dX12_stepsOf_85 ?_
                            refine pm_icmp_ne (tgt := 106) hG dX12_stepsOf_86 rfl (fun c14 => ?_) (fun c14 => ?_)
                            · refine pm_aloadn hG dX12_stepsOf_106 rfl ?_
                              refine pm_getf hG dX12_stepsOf_107 (flX12_22 _ rfl) rfl rfl ?_
                              refine pm_iloadn hG dX12_stepsOf_110 rfl ?_
                              refine pm_ialdN hG dX12_stepsOf_111 rfl (by decide) (by omega) ?_
                              refine pm_any (fun x15 => ?_)
                              refine pm_iloadn hG dX12_stepsOf_112 rfl ?_
                              refine pm_iconst (v := nI 1) hG dX12_stepsOf_113 (by decide) ?_
                              refine pm_isub hG dX12_stepsOf_114 ?_
                              refine pm_icmp_ne (tgt := 137) hG dX12_stepsOf_115 rfl (fun c16 => ?_) (fun c16 => ?_)
                              · refine pm_iincX (v := nI (i9 + 1)) (loc' := [some (.ref (B + 54)), some (.int (nI ba)), some (.int (nI i3)), some (.int (nI i6)), some (.int (nI (i9 + 1))), some (.int (nI k12))]) hG dX12_stepsOf_137 rfl (nI_1 _) (by decide) (pm_c1b rfl) rfl ?_
                                refine pm_goto (tgt := 53) hG dX12_stepsOf_140 rfl ?_
                                refine pm_fg 5 (loc' := [some (.ref (B + 54)), some (.int (nI ba)), some (.int (nI i3)), some (.int (nI i6)), some (.int (nI (i9 + 1))), none]) rfl ?_
                                exact ih9 I9 A9 (i9 + 1) (by omega) (by omega) (by omega)
                              · refine pm_aloadn hG dX12_stepsOf_118 rfl ?_
                                refine pm_getf hG dX12_stepsOf_119 (flX12_22 _ rfl) rfl rfl ?_
                                refine pm_iloadi hG dX12_stepsOf_122 rfl ?_
                                refine pm_ialdN hG dX12_stepsOf_124 rfl (by decide) (by omega) ?_
                                refine pm_any (fun x17 => ?_)
                                refine pm_iloadn hG dX12_stepsOf_125 rfl ?_
                                refine pm_icmp_le (tgt := 137) hG dX12_stepsOf_126 rfl (fun c18 => ?_) (fun c18 => ?_)
                                · refine pm_iincX (v := nI (i9 + 1)) (loc' := [some (.ref (B + 54)), some (.int (nI ba)), some (.int (nI i3)), some (.int (nI i6)), some (.int (nI (i9 + 1))), some (.int (nI k12))]) hG dX12_stepsOf_137 rfl (nI_1 _) (by decide) (pm_c1b rfl) rfl ?_
                                  refine pm_goto (tgt := 53) hG dX12_stepsOf_140 rfl ?_
                                  refine pm_fg 5 (loc' := [some (.ref (B + 54)), some (.int (nI ba)), some (.int (nI i3)), some (.int (nI i6)), some (.int (nI (i9 + 1))), none]) rfl ?_
                                  exact ih9 I9 A9 (i9 + 1) (by omega) (by omega) (by omega)
                                · refine pm_aloadn hG dX12_stepsOf_129 rfl ?_
                                  refine pm_getf hG dX12_stepsOf_130 (flX12_22 _ rfl) rfl rfl ?_
                                  refine pm_iloadi hG dX12_stepsOf_133 rfl ?_
                                  refine pm_iloadn hG dX12_stepsOf_135 rfl ?_
                                  refine pm_iastN hG dX12_stepsOf_136 rfl (by decide) (by omega) ?_
                                  refine mdn_steps (fun A_19 => ?_)
                                  refine pm_iincX (v := nI (i9 + 1)) (loc' := [some (.ref (B + 54)), some (.int (nI ba)), some (.int (nI i3)), some (.int (nI i6)), some (.int (nI (i9 + 1))), some (.int (nI k12))]) hG dX12_stepsOf_137 rfl (nI_1 _) (by decide) (pm_c1b rfl) rfl ?_
                                  refine pm_goto (tgt := 53) hG dX12_stepsOf_140 rfl ?_
                                  refine pm_fg 5 (loc' := [some (.ref (B + 54)), some (.int (nI ba)), some (.int (nI i3)), some (.int (nI i6)), some (.int (nI (i9 + 1))), none]) rfl ?_
                                  exact ih9 I9 A_19 (i9 + 1) (by omega) (by omega) (by omega)
                            · refine pm_aloadn hG dX12_stepsOf_89 rfl ?_
                              refine pm_getf hG dX12_stepsOf_90 (flX12_22 _ rfl) rfl rfl ?_
                              refine pm_iloadn hG dX12_stepsOf_93 rfl ?_
                              refine pm_ialdN hG dX12_stepsOf_94 rfl (by decide) (by omega) ?_
                              refine pm_any (fun x20 => ?_)
                              refine pm_iloadn hG dX12_stepsOf_95 rfl ?_
                              refine pm_icmp_le (tgt := 106) hG dX12_stepsOf_96 rfl (fun c21 => ?_) (fun c21 => ?_)
                              · refine pm_aloadn hG dX12_stepsOf_106 rfl ?_
                                refine pm_getf hG dX12_stepsOf_107 (flX12_22 _ rfl) rfl rfl ?_
                                refine pm_iloadn hG dX12_stepsOf_110 rfl ?_
                                refine pm_ialdN hG dX12_stepsOf_111 rfl (by decide) (by omega) ?_
                                refine pm_any (fun x22 => ?_)
                                refine pm_iloadn hG dX12_stepsOf_112 rfl ?_
                                refine pm_iconst (v := nI 1) hG dX12_stepsOf_113 (by decide) ?_
                                refine pm_isub hG dX12_stepsOf_114 ?_
                                refine pm_icmp_ne (tgt := 137) hG dX12_stepsOf_115 rfl (fun c23 => ?_) (fun c23 => ?_)
                                · refine pm_iincX (v := nI (i9 + 1)) (loc' := [some (.ref (B + 54)), some (.int (nI ba)), some (.int (nI i3)), some (.int (nI i6)), some (.int (nI (i9 + 1))), some (.int (nI k12))]) hG dX12_stepsOf_137 rfl (nI_1 _) (by decide) (pm_c1b rfl) rfl ?_
                                  refine pm_goto (tgt := 53) hG dX12_stepsOf_140 rfl ?_
                                  refine pm_fg 5 (loc' := [some (.ref (B + 54)), some (.int (nI ba)), some (.int (nI i3)), some (.int (nI i6)), some (.int (nI (i9 + 1))), none]) rfl ?_
                                  exact ih9 I9 A9 (i9 + 1) (by omega) (by omega) (by omega)
                                · refine pm_aloadn hG dX12_stepsOf_118 rfl ?_
                                  refine pm_getf hG dX12_stepsOf_119 (flX12_22 _ rfl) rfl rfl ?_
                                  refine pm_iloadi hG dX12_stepsOf_122 rfl ?_
                                  refine pm_ialdN hG dX12_stepsOf_124 rfl (by decide) (by omega) ?_
                                  refine pm_any (fun x24 => ?_)
                                  refine pm_iloadn hG dX12_stepsOf_125 rfl ?_
                                  refine pm_icmp_le (tgt := 137) hG dX12_stepsOf_126 rfl (fun c25 => ?_) (fun c25 => ?_)
                                  · refine pm_iincX (v := nI (i9 + 1)) (loc' := [some (.ref (B + 54)), some (.int (nI ba)), some (.int (nI i3)), some (.int (nI i6)), some (.int (nI (i9 + 1))), some (.int (nI k12))]) hG dX12_stepsOf_137 rfl (nI_1 _) (by decide) (pm_c1b rfl) rfl ?_
                                    refine pm_goto (tgt := 53) hG dX12_stepsOf_140 rfl ?_
                                    refine pm_fg 5 (loc' := [some (.ref (B + 54)), some (.int (nI ba)), some (.int (nI i3)), some (.int (nI i6)), some (.int (nI (i9 + 1))), none]) rfl ?_
                                    exact ih9 I9 A9 (i9 + 1) (by omega) (by omega) (by omega)
                                  · refine pm_aloadn hG dX12_stepsOf_129 rfl ?_
                                    refine pm_getf hG dX12_stepsOf_130 (flX12_22 _ rfl) rfl rfl ?_
                                    refine pm_iloadi hG dX12_stepsOf_133 rfl ?_
                                    refine pm_iloadn hG dX12_stepsOf_135 rfl ?_
                                    refine pm_iastN hG dX12_stepsOf_136 rfl (by decide) (by omega) ?_
                                    refine mdn_steps (fun A_26 => ?_)
                                    refine pm_iincX (v := nI (i9 + 1)) (loc' := [some (.ref (B + 54)), some (.int (nI ba)), some (.int (nI i3)), some (.int (nI i6)), some (.int (nI (i9 + 1))), some (.int (nI k12))]) hG dX12_stepsOf_137 rfl (nI_1 _) (by decide) (pm_c1b rfl) rfl ?_
                                    refine pm_goto (tgt := 53) hG dX12_stepsOf_140 rfl ?_
                                    refine pm_fg 5 (loc' := [some (.ref (B + 54)), some (.int (nI ba)), some (.int (nI i3)), some (.int (nI i6)), some (.int (nI (i9 + 1))), none]) rfl ?_
                                    exact ih9 I9 A_26 (i9 + 1) (by omega) (by omega) (by omega)
                              · refine pm_aloadn hG dX12_stepsOf_99 rfl ?_
                                refine pm_getf hG dX12_stepsOf_100 (flX12_22 _ rfl) rfl rfl ?_
                                refine pm_iloadn hG dX12_stepsOf_103 rfl ?_
                                refine pm_iloadn hG dX12_stepsOf_104 rfl ?_
                                refine pm_iastN hG dX12_stepsOf_105 rfl (by decide) (by omega) ?_
                                refine mdn_steps (fun A_27 => ?_)
                                refine pm_aloadn hG dX12_stepsOf_106 rfl ?_
                                refine pm_getf hG dX12_stepsOf_107 (flX12_22 _ rfl) rfl rfl ?_
                                refine pm_iloadn hG dX12_stepsOf_110 rfl ?_
                                refine pm_ialdN hG dX12_stepsOf_111 rfl (by decide) (by omega) ?_
                                refine pm_any (fun x28 => ?_)
                                refine pm_iloadn hG dX12_stepsOf_112 rfl ?_
                                refine pm_iconst (v := nI 1) hG dX12_stepsOf_113 (by decide) ?_
                                refine pm_isub hG dX12_stepsOf_114 ?_
                                refine pm_icmp_ne (tgt := 137) hG dX12_stepsOf_115 rfl (fun c29 => ?_) (fun c29 => ?_)
                                · refine pm_iincX (v := nI (i9 + 1)) (loc' := [some (.ref (B + 54)), some (.int (nI ba)), some (.int (nI i3)), some (.int (nI i6)), some (.int (nI (i9 + 1))), some (.int (nI k12))]) hG dX12_stepsOf_137 rfl (nI_1 _) (by decide) (pm_c1b rfl) rfl ?_
                                  refine pm_goto (tgt := 53) hG dX12_stepsOf_140 rfl ?_
                                  refine pm_fg 5 (loc' := [some (.ref (B + 54)), some (.int (nI ba)), some (.int (nI i3)), some (.int (nI i6)), some (.int (nI (i9 + 1))), none]) rfl ?_
                                  exact ih9 I9 A_27 (i9 + 1) (by omega) (by omega) (by omega)
                                · refine pm_aloadn hG dX12_stepsOf_118 rfl ?_
                                  refine pm_getf hG dX12_stepsOf_119 (flX12_22 _ rfl) rfl rfl ?_
                                  refine pm_iloadi hG dX12_stepsOf_122 rfl ?_
                                  refine pm_ialdN hG dX12_stepsOf_124 rfl (by decide) (by omega) ?_
                                  refine pm_any (fun x30 => ?_)
                                  refine pm_iloadn hG dX12_stepsOf_125 rfl ?_
                                  refine pm_icmp_le (tgt := 137) hG dX12_stepsOf_126 rfl (fun c31 => ?_) (fun c31 => ?_)
                                  · refine pm_iincX (v := nI (i9 + 1)) (loc' := [some (.ref (B + 54)), some (.int (nI ba)), some (.int (nI i3)), some (.int (nI i6)), some (.int (nI (i9 + 1))), some (.int (nI k12))]) hG dX12_stepsOf_137 rfl (nI_1 _) (by decide) (pm_c1b rfl) rfl ?_
                                    refine pm_goto (tgt := 53) hG dX12_stepsOf_140 rfl ?_
                                    refine pm_fg 5 (loc' := [some (.ref (B + 54)), some (.int (nI ba)), some (.int (nI i3)), some (.int (nI i6)), some (.int (nI (i9 + 1))), none]) rfl ?_
                                    exact ih9 I9 A_27 (i9 + 1) (by omega) (by omega) (by omega)
                                  · refine pm_aloadn hG dX12_stepsOf_129 rfl ?_
                                    refine pm_getf hG dX12_stepsOf_130 (flX12_22 _ rfl) rfl rfl ?_
                                    refine pm_iloadi hG dX12_stepsOf_133 rfl ?_
                                    refine pm_iloadn hG dX12_stepsOf_135 rfl ?_
                                    refine pm_iastN hG dX12_stepsOf_136 rfl (by decide) (by omega) ?_
                                    refine mdn_steps (fun A_32 => ?_)
                                    refine pm_iincX (v := nI (i9 + 1)) (loc' := [some (.ref (B + 54)), some (.int (nI ba)), some (.int (nI i3)), some (.int (nI i6)), some (.int (nI (i9 + 1))), some (.int (nI k12))]) hG dX12_stepsOf_137 rfl (nI_1 _) (by decide) (pm_c1b rfl) rfl ?_
                                    refine pm_goto (tgt := 53) hG dX12_stepsOf_140 rfl ?_
                                    refine pm_fg 5 (loc' := [some (.ref (B + 54)), some (.int (nI ba)), some (.int (nI i3)), some (.int (nI i6)), some (.int (nI (i9 + 1))), none]) rfl ?_
                                    exact ih9 I9 A_32 (i9 + 1) (by omega) (by omega) (by omega)
                    exact loop53_9 _ I6 A6 2 (by omega) (by omega) (Nat.lt_succ_self _)
              exact loop40_6 _ I3 A3 0 (by omega) (Nat.lt_succ_self _)
        exact loop32_3 _ I1 A1 1 (by omega) (Nat.lt_succ_self _)
      · refine pm_aloadn hG dX12_stepsOf_8 rfl ?_
        refine pm_getf hG dX12_stepsOf_9 (flX12_22 _ rfl) rfl rfl ?_
        refine pm_iloadn hG dX12_stepsOf_12 rfl ?_
        refine pm_iloadn hG dX12_stepsOf_13 rfl ?_
        refine pm_ifN_ne (tgt := 21) hG dX12_stepsOf_14 rfl (by omega) (fun c33 => ?_) (fun c33 => ?_)
        · refine pm_bipush (v := nI 99) hG dX12_stepsOf_21 (by decide) ?_
          refine pm_iastN hG dX12_stepsOf_23 rfl (by decide) (by omega) ?_
          refine mdn_steps (fun A_34 => ?_)
          refine pm_iincX (v := nI (i1 + 1)) (loc' := [some (.ref (B + 54)), some (.int (nI ba)), some (.int (nI (i1 + 1))), none, none, none]) hG dX12_stepsOf_24 rfl (nI_1 _) (by decide) (pm_c1b rfl) rfl ?_
          refine pm_goto (tgt := 2) hG dX12_stepsOf_27 rfl ?_
          exact ih1 I1 A_34 (i1 + 1) (by omega) (by omega)
        · refine pm_iconst (v := nI 0) hG dX12_stepsOf_17 (by decide) ?_
          refine pm_goto (tgt := 23) hG dX12_stepsOf_18 rfl ?_
          refine pm_iastN hG dX12_stepsOf_23 rfl (by decide) (by omega) ?_
          refine mdn_steps (fun A_35 => ?_)
          refine pm_iincX (v := nI (i1 + 1)) (loc' := [some (.ref (B + 54)), some (.int (nI ba)), some (.int (nI (i1 + 1))), none, none, none]) hG dX12_stepsOf_24 rfl (nI_1 _) (by decide) (pm_c1b rfl) rfl ?_
          refine pm_goto (tgt := 2) hG dX12_stepsOf_27 rfl ?_
          exact ih1 I1 A_35 (i1 + 1) (by omega) (by omega)
  exact loop2_1 _ I A 0 (by omega) (Nat.lt_succ_self _)
