set_option maxRecDepth 100000 in
set_option maxHeartbeats 4000000 in
theorem m_move {d B cnt p0 t0 : Nat} {σ : pm_S} {I : Nat → Int32} {A : Nat → Nat → Int32} {n k z : Nat → Int32} {ac wt pl : Int32} {za zb zc zd ze : Int32} (hdd : 2 ≤ d) (hn : KI n) (hz : SZ z)  : pm_met mX12_move d 0 0 B [.ref (B + 54), .int za, .int zb, .int zc, .int zd, .int ze] cnt (pm_mid σ (md_L B I A n k z ac wt pl (nI p0) (nI t0))) (pm_Qi (fun v σ' cnt' => (∃ (I' : Nat → Int32) (A' : Nat → Nat → Int32), σ' = pm_mid σ (md_L B I' A' n k z ac wt pl (nI p0) (nI t0))) ∧ cnt' = cnt)) := by
  refine pm_enter 1 (by decide) (Nat.le_of_ble_eq_true rfl) rfl (fun G hG hR hF => ?_)
  refine pm_iloadn hG dX12_move_0 rfl ?_
  refine pm_callS (As := [.int za]) (rest := []) hG hR dX12_move_1 (lkX12_239 _ rfl) okS_X12_isSheet (m_isSheet (d := 1) (by decide)) rfl rfl hdd (Nat.le_refl _) (Nat.le_refl _) (by decide) (pm_ki (fun v1 σ' cnt' hq => ?_))
  obtain ⟨hq, rfl, rfl⟩ := hq
  rcases hq with ⟨rfl, ac2, bc2⟩ | ⟨rfl, c2⟩
  · obtain ⟨k3, hk3, ek3⟩ := in_nat (by omega) (by omega) ac2 bc2
    refine pm_ifN_eq (tgt := 14) hG dX12_move_4 rfl (by omega) (fun q => absurd q (by omega)) (fun _ => ?_)
    refine pm_iloadn hG dX12_move_7 rfl ?_
    refine pm_callS (As := [.int zc]) (rest := []) hG hR dX12_move_8 (lkX12_239 _ rfl) okS_X12_isSheet (m_isSheet (d := 1) (by decide)) rfl rfl hdd (Nat.le_refl _) (Nat.le_refl _) (by decide) (pm_ki (fun v4 σ' cnt' hq => ?_))
    obtain ⟨hq, rfl, rfl⟩ := hq
    rcases hq with ⟨rfl, ac5, bc5⟩ | ⟨rfl, c5⟩
    · obtain ⟨k6, hk6, ek6⟩ := in_nat (by omega) (by omega) ac5 bc5
      refine pm_ifN_ne (tgt := 20) hG dX12_move_11 rfl (by omega) (fun _ => ?_) (fun q => absurd q (by omega))
      refine pm_aloadn hG dX12_move_20 rfl ?_
      refine pm_getf hG dX12_move_21 (flX12_55 _ rfl) rfl rfl ?_
      refine pm_iloadn hG dX12_move_24 rfl ?_
      refine pm_top (v := nI k3) ek3 ?_
      refine pm_ialdN hG dX12_move_25 rfl (by decide) (by omega) ?_
      refine pm_any (fun x7 => ?_)
      refine pm_if_eq (tgt := 38) hG dX12_move_26 rfl (fun c8 => ?_) (fun c8 => ?_)
      · refine pm_aloadn hG dX12_move_38 rfl ?_
        refine pm_iconst (v := nI 2) hG dX12_move_39 (by decide) ?_
        refine pm_callV (As := [.int (nI 2)]) (rest := []) hG hR dX12_move_40 (lkX12_80 _ rfl) okV_X12_finds rfl rfl (m_finds (d := 1) (by decide) hn hz (by omega)) rfl rfl hdd (Nat.le_refl _) (Nat.le_refl _) (by decide) (pm_ki (fun v9 σ' cnt' hq => ?_))
        obtain ⟨⟨I10, A10, rfl⟩, rfl⟩ := hq
        exact pm_iret hG hF dX12_move_43 rfl (Nat.le_refl _) (Nat.le_refl _) ⟨_, rfl, ⟨_, _, rfl⟩, rfl⟩
      · refine pm_aloadn hG dX12_move_29 rfl ?_
        refine pm_getf hG dX12_move_30 (flX12_55 _ rfl) rfl rfl ?_
        refine pm_iloadn hG dX12_move_33 rfl ?_
        refine pm_top (v := nI k6) ek6 ?_
        refine pm_ialdN hG dX12_move_34 rfl (by decide) (by omega) ?_
        refine pm_any (fun x11 => ?_)
        refine pm_if_ne (tgt := 44) hG dX12_move_35 rfl (fun c12 => ?_) (fun c12 => ?_)
        · refine pm_aloadn hG dX12_move_44 rfl ?_
          refine pm_getf hG dX12_move_45 (flX12_55 _ rfl) rfl rfl ?_
          refine pm_iloadn hG dX12_move_48 rfl ?_
          refine pm_top (v := nI k3) ek3 ?_
          refine pm_ialdN hG dX12_move_49 rfl (by decide) (by omega) ?_
          refine pm_any (fun x13 => ?_)
          refine pm_aloadn hG dX12_move_50 rfl ?_
          refine pm_getf hG dX12_move_51 (flX12_55 _ rfl) rfl rfl ?_
          refine pm_iloadn hG dX12_move_54 rfl ?_
          refine pm_top (v := nI k6) ek6 ?_
          refine pm_ialdN hG dX12_move_55 rfl (by decide) (by omega) ?_
          refine pm_any (fun x14 => ?_)
          refine pm_icmp_eq (tgt := 65) hG dX12_move_56 rfl (fun c15 => ?_) (fun c15 => ?_)
          · refine pm_iloadi hG dX12_move_65 rfl ?_
            refine pm_if_lt (tgt := 114) hG dX12_move_67 rfl (fun c16 => ?_) (fun c16 => ?_)
            · refine pm_aloadn hG dX12_move_114 rfl ?_
              refine pm_iconst (v := nI 1) hG dX12_move_115 (by decide) ?_
              refine pm_callV (As := [.int (nI 1)]) (rest := []) hG hR dX12_move_116 (lkX12_80 _ rfl) okV_X12_finds rfl rfl (m_finds (d := 1) (by decide) hn hz (by omega)) rfl rfl hdd (Nat.le_refl _) (Nat.le_refl _) (by decide) (pm_ki (fun v17 σ' cnt' hq => ?_))
              obtain ⟨⟨I18, A18, rfl⟩, rfl⟩ := hq
              exact pm_iret hG hF dX12_move_119 rfl (Nat.le_refl _) (Nat.le_refl _) ⟨_, rfl, ⟨_, _, rfl⟩, rfl⟩
            · obtain ⟨k19, hk19, ek19⟩ := nI_of c16
              refine pm_iloadn hG dX12_move_70 rfl ?_
              refine pm_if_lt (tgt := 114) hG dX12_move_71 rfl (fun c20 => ?_) (fun c20 => ?_)
              · refine pm_aloadn hG dX12_move_114 rfl ?_
                refine pm_iconst (v := nI 1) hG dX12_move_115 (by decide) ?_
                refine pm_callV (As := [.int (nI 1)]) (rest := []) hG hR dX12_move_116 (lkX12_80 _ rfl) okV_X12_finds rfl rfl (m_finds (d := 1) (by decide) hn hz (by omega)) rfl rfl hdd (Nat.le_refl _) (Nat.le_refl _) (by decide) (pm_ki (fun v21 σ' cnt' hq => ?_))
                obtain ⟨⟨I22, A22, rfl⟩, rfl⟩ := hq
                exact pm_iret hG hF dX12_move_119 rfl (Nat.le_refl _) (Nat.le_refl _) ⟨_, rfl, ⟨_, _, rfl⟩, rfl⟩
              · obtain ⟨k23, hk23, ek23⟩ := nI_of c20
                refine pm_iloadi hG dX12_move_74 rfl ?_
                refine pm_if_lt (tgt := 114) hG dX12_move_76 rfl (fun c24 => ?_) (fun c24 => ?_)
                · refine pm_aloadn hG dX12_move_114 rfl ?_
                  refine pm_iconst (v := nI 1) hG dX12_move_115 (by decide) ?_
                  refine pm_callV (As := [.int (nI 1)]) (rest := []) hG hR dX12_move_116 (lkX12_80 _ rfl) okV_X12_finds rfl rfl (m_finds (d := 1) (by decide) hn hz (by omega)) rfl rfl hdd (Nat.le_refl _) (Nat.le_refl _) (by decide) (pm_ki (fun v25 σ' cnt' hq => ?_))
                  obtain ⟨⟨I26, A26, rfl⟩, rfl⟩ := hq
                  exact pm_iret hG hF dX12_move_119 rfl (Nat.le_refl _) (Nat.le_refl _) ⟨_, rfl, ⟨_, _, rfl⟩, rfl⟩
                · obtain ⟨k27, hk27, ek27⟩ := nI_of c24
                  refine pm_iloadn hG dX12_move_79 rfl ?_
                  refine pm_top (v := nI k23) ek23 ?_
                  refine pm_i2l hG dX12_move_80 rfl ?_
                  refine pm_iloadi hG dX12_move_81 rfl ?_
                  refine pm_top (v := nI k19) ek19 ?_
                  refine pm_i2l hG dX12_move_83 rfl ?_
                  refine pm_ladd hG dX12_move_84 ?_
                  refine pm_aloadn hG dX12_move_85 rfl ?_
                  refine pm_getf hG dX12_move_86 (flX12_58 _ rfl) rfl rfl ?_
                  refine pm_iloadn hG dX12_move_89 rfl ?_
                  refine pm_top (v := nI k3) ek3 ?_
                  refine pm_ialdN hG dX12_move_90 rfl (by decide) (by omega) ?_
                  obtain ⟨k28, hk28, ek28⟩ := hz k3 (by omega)
                  refine pm_top (v := nI k28) ek28 ?_
                  refine pm_i2l hG dX12_move_91 rfl ?_
                  refine pm_lcmp hG dX12_move_92 ?_
                  refine pm_any (fun x29 => ?_)
                  refine pm_if_gt (tgt := 114) hG dX12_move_93 rfl (fun c30 => ?_) (fun c30 => ?_)
                  · refine pm_aloadn hG dX12_move_114 rfl ?_
                    refine pm_iconst (v := nI 1) hG dX12_move_115 (by decide) ?_
                    refine pm_callV (As := [.int (nI 1)]) (rest := []) hG hR dX12_move_116 (lkX12_80 _ rfl) okV_X12_finds rfl rfl (m_finds (d := 1) (by decide) hn hz (by omega)) rfl rfl hdd (Nat.le_refl _) (Nat.le_refl _) (by decide) (pm_ki (fun v31 σ' cnt' hq => ?_))
                    obtain ⟨⟨I32, A32, rfl⟩, rfl⟩ := hq
                    exact pm_iret hG hF dX12_move_119 rfl (Nat.le_refl _) (Nat.le_refl _) ⟨_, rfl, ⟨_, _, rfl⟩, rfl⟩
                  · refine pm_iloadi hG dX12_move_96 rfl ?_
                    refine pm_top (v := nI k27) ek27 ?_
                    refine pm_i2l hG dX12_move_98 rfl ?_
                    refine pm_iloadi hG dX12_move_99 rfl ?_
                    refine pm_top (v := nI k19) ek19 ?_
                    refine pm_i2l hG dX12_move_101 rfl ?_
                    refine pm_ladd hG dX12_move_102 ?_
                    refine pm_aloadn hG dX12_move_103 rfl ?_
                    refine pm_getf hG dX12_move_104 (flX12_58 _ rfl) rfl rfl ?_
                    refine pm_iloadn hG dX12_move_107 rfl ?_
                    refine pm_top (v := nI k6) ek6 ?_
                    refine pm_ialdN hG dX12_move_108 rfl (by decide) (by omega) ?_
                    obtain ⟨k33, hk33, ek33⟩ := hz k6 (by omega)
                    refine pm_top (v := nI k33) ek33 ?_
                    refine pm_i2l hG dX12_move_109 rfl ?_
                    refine pm_lcmp hG dX12_move_110 ?_
                    refine pm_any (fun x34 => ?_)
                    refine pm_if_le (tgt := 120) hG dX12_move_111 rfl (fun c35 => ?_) (fun c35 => ?_)
                    · refine pm_iconst (v := nI 0) hG dX12_move_120 (by decide) ?_
                      refine pm_istoreXi (loc' := [some (.ref (B + 54)), some (.int za), some (.int zb), some (.int zc), some (.int zd), some (.int ze), some (.int (nI 0))]) hG dX12_move_121 (by decide) (pm_c1b rfl) rfl ?_
                      have loop123_36 : ∀ (m36 : Nat) (I36 : Nat → Int32) (A36 : Nat → Nat → Int32) (i36 : Nat), i36 ≤ 2147483647 → 2147483647 - i36 < m36 → pm_wp mX12_move G B 123 [some (.ref (B + 54)), some (.int za), some (.int zb), some (.int zc), some (.int zd), some (.int ze), some (.int (nI i36))] [] 0 0 cnt (pm_mid σ (md_L B I36 A36 n k z ac wt pl (nI p0) (nI t0))) := by
                        intro m36
                        induction m36 with
                        | zero => intro I36 A36 i36 _ hm; exact absurd hm (Nat.not_lt_zero _)
                        | succ m36 ih36 =>
                          intro I36 A36 i36 hi36 hm36
                          refine pm_iloadi hG dX12_move_123 rfl ?_
                          refine pm_iloadi hG dX12_move_125 rfl ?_
                          refine pm_top (v := nI k19) ek19 ?_
                          refine pm_icmpN_ge (tgt := 157) hG dX12_move_127 rfl (by omega) (by omega) (fun c37 => ?_) (fun c37 => ?_)
                          · refine pm_iconst (v := nI 0) hG dX12_move_157 (by decide) ?_
                            refine pm_istoreXi (loc' := [some (.ref (B + 54)), some (.int za), some (.int zb), some (.int zc), some (.int zd), some (.int ze), some (.int (nI 0))]) hG dX12_move_158 (by decide) (pm_c1b rfl) rfl ?_
                            have loop160_38 : ∀ (m38 : Nat) (I38 : Nat → Int32) (A38 : Nat → Nat → Int32) (i38 : Nat), i38 ≤ 2147483647 → 2147483647 - i38 < m38 → pm_wp mX12_move G B 160 [some (.ref (B + 54)), some (.int za), some (.int zb), some (.int zc), some (.int zd), some (.int ze), some (.int (nI i38))] [] 0 0 cnt (pm_mid σ (md_L B I38 A38 n k z ac wt pl (nI p0) (nI t0))) := by
                              intro m38
                              induction m38 with
                              | zero => intro I38 A38 i38 _ hm; exact absurd hm (Nat.not_lt_zero _)
                              | succ m38 ih38 =>
                                intro I38 A38 i38 hi38 hm38
                                refine pm_iloadi hG dX12_move_160 rfl ?_
                                refine pm_iloadi hG dX12_move_162 rfl ?_
                                refine pm_top (v := nI k19) ek19 ?_
                                refine pm_icmpN_ge (tgt := 195) hG dX12_move_164 rfl (by omega) (by omega) (fun c39 => ?_) (fun c39 => ?_)
                                · refine pm_iloadi hG dX12_move_195 rfl ?_
                                  refine pm_top (v := nI k19) ek19 ?_
                                  exact pm_iret hG hF dX12_move_197 rfl (Nat.le_refl _) (Nat.le_refl _) ⟨_, rfl, ⟨_, _, rfl⟩, rfl⟩
                                · refine pm_aloadn hG dX12_move_167 rfl ?_
                                  refine pm_getf hG dX12_move_168 (flX12_61 _ rfl) rfl rfl ?_
                                  refine pm_bipush (v := nI 24) hG dX12_move_171 (by decide) ?_
                                  refine pm_iloadn hG dX12_move_173 rfl ?_
                                  refine pm_top (v := nI k6) ek6 ?_
                                  refine pm_imulN (c := 24 * k6) hG dX12_move_174 (by omega) ?_
                                  refine pm_iloadi hG dX12_move_175 rfl ?_
                                  refine pm_top (v := nI k27) ek27 ?_
                                  refine pm_iaddN (c := k27 + 24 * k6) hG dX12_move_177 (by omega) ?_
                                  refine pm_iloadi hG dX12_move_178 rfl ?_
                                  refine pm_iaddN (c := i38 + k27 + 24 * k6) hG dX12_move_180 (by omega) ?_
                                  refine pm_aloadn hG dX12_move_181 rfl ?_
                                  refine pm_getf hG dX12_move_182 (flX12_64 _ rfl) rfl rfl ?_
                                  refine pm_iloadi hG dX12_move_185 rfl ?_
                                  refine pm_ialdN hG dX12_move_187 rfl (by decide) (by omega) ?_
                                  refine pm_any (fun x40 => ?_)
                                  refine pm_iastN hG dX12_move_188 rfl (by decide) (by omega) ?_
                                  refine mdn_sheets (fun A_41 => ?_)
                                  refine pm_iincX (v := nI (i38 + 1)) (loc' := [some (.ref (B + 54)), some (.int za), some (.int zb), some (.int zc), some (.int zd), some (.int ze), some (.int (nI (i38 + 1)))]) hG dX12_move_189 rfl (nI_1 _) (by decide) (pm_c1b rfl) rfl ?_
                                  refine pm_goto (tgt := 160) hG dX12_move_192 rfl ?_
                                  exact ih38 I38 A_41 (i38 + 1) (by omega) (by omega)
                            exact loop160_38 _ I36 A36 0 (by omega) (Nat.lt_succ_self _)
                          · refine pm_aloadn hG dX12_move_130 rfl ?_
                            refine pm_getf hG dX12_move_131 (flX12_64 _ rfl) rfl rfl ?_
                            refine pm_iloadi hG dX12_move_134 rfl ?_
                            refine pm_aloadn hG dX12_move_136 rfl ?_
                            refine pm_getf hG dX12_move_137 (flX12_61 _ rfl) rfl rfl ?_
                            refine pm_bipush (v := nI 24) hG dX12_move_140 (by decide) ?_
                            refine pm_iloadn hG dX12_move_142 rfl ?_
                            refine pm_top (v := nI k3) ek3 ?_
                            refine pm_imulN (c := 24 * k3) hG dX12_move_143 (by omega) ?_
                            refine pm_iloadn hG dX12_move_144 rfl ?_
                            refine pm_top (v := nI k23) ek23 ?_
                            refine pm_iaddN (c := k23 + 24 * k3) hG dX12_move_145 (by omega) ?_
                            refine pm_iloadi hG dX12_move_146 rfl ?_
                            refine pm_iaddN (c := i36 + k23 + 24 * k3) hG dX12_move_148 (by omega) ?_
                            refine pm_ialdN hG dX12_move_149 rfl (by decide) (by omega) ?_
                            refine pm_any (fun x42 => ?_)
                            refine pm_iastN hG dX12_move_150 rfl (by decide) (by omega) ?_
                            refine mdn_carried (fun A_43 => ?_)
                            refine pm_iincX (v := nI (i36 + 1)) (loc' := [some (.ref (B + 54)), some (.int za), some (.int zb), some (.int zc), some (.int zd), some (.int ze), some (.int (nI (i36 + 1)))]) hG dX12_move_151 rfl (nI_1 _) (by decide) (pm_c1b rfl) rfl ?_
                            refine pm_goto (tgt := 123) hG dX12_move_154 rfl ?_
                            exact ih36 I36 A_43 (i36 + 1) (by omega) (by omega)
                      exact loop123_36 _ I A 0 (by omega) (Nat.lt_succ_self _)
                    · refine pm_aloadn hG dX12_move_114 rfl ?_
                      refine pm_iconst (v := nI 1) hG dX12_move_115 (by decide) ?_
                      refine pm_callV (As := [.int (nI 1)]) (rest := []) hG hR dX12_move_116 (lkX12_80 _ rfl) okV_X12_finds rfl rfl (m_finds (d := 1) (by decide) hn hz (by omega)) rfl rfl hdd (Nat.le_refl _) (Nat.le_refl _) (by decide) (pm_ki (fun v44 σ' cnt' hq => ?_))
                      obtain ⟨⟨I45, A45, rfl⟩, rfl⟩ := hq
                      exact pm_iret hG hF dX12_move_119 rfl (Nat.le_refl _) (Nat.le_refl _) ⟨_, rfl, ⟨_, _, rfl⟩, rfl⟩
          · refine pm_aloadn hG dX12_move_59 rfl ?_
            refine pm_iconst (v := nI 5) hG dX12_move_60 (by decide) ?_
            refine pm_callV (As := [.int (nI 5)]) (rest := []) hG hR dX12_move_61 (lkX12_80 _ rfl) okV_X12_finds rfl rfl (m_finds (d := 1) (by decide) hn hz (by omega)) rfl rfl hdd (Nat.le_refl _) (Nat.le_refl _) (by decide) (pm_ki (fun v46 σ' cnt' hq => ?_))
            obtain ⟨⟨I47, A47, rfl⟩, rfl⟩ := hq
            exact pm_iret hG hF dX12_move_64 rfl (Nat.le_refl _) (Nat.le_refl _) ⟨_, rfl, ⟨_, _, rfl⟩, rfl⟩
        · refine pm_aloadn hG dX12_move_38 rfl ?_
          refine pm_iconst (v := nI 2) hG dX12_move_39 (by decide) ?_
          refine pm_callV (As := [.int (nI 2)]) (rest := []) hG hR dX12_move_40 (lkX12_80 _ rfl) okV_X12_finds rfl rfl (m_finds (d := 1) (by decide) hn hz (by omega)) rfl rfl hdd (Nat.le_refl _) (Nat.le_refl _) (by decide) (pm_ki (fun v48 σ' cnt' hq => ?_))
          obtain ⟨⟨I49, A49, rfl⟩, rfl⟩ := hq
          exact pm_iret hG hF dX12_move_43 rfl (Nat.le_refl _) (Nat.le_refl _) ⟨_, rfl, ⟨_, _, rfl⟩, rfl⟩
    · refine pm_ifN_ne (tgt := 20) hG dX12_move_11 rfl (by omega) (fun q => absurd q (by omega)) (fun _ => ?_)
      refine pm_aloadn hG dX12_move_14 rfl ?_
      refine pm_iconst (v := nI 1) hG dX12_move_15 (by decide) ?_
      refine pm_callV (As := [.int (nI 1)]) (rest := []) hG hR dX12_move_16 (lkX12_80 _ rfl) okV_X12_finds rfl rfl (m_finds (d := 1) (by decide) hn hz (by omega)) rfl rfl hdd (Nat.le_refl _) (Nat.le_refl _) (by decide) (pm_ki (fun v50 σ' cnt' hq => ?_))
      obtain ⟨⟨I51, A51, rfl⟩, rfl⟩ := hq
      exact pm_iret hG hF dX12_move_19 rfl (Nat.le_refl _) (Nat.le_refl _) ⟨_, rfl, ⟨_, _, rfl⟩, rfl⟩
  · refine pm_ifN_eq (tgt := 14) hG dX12_move_4 rfl (by omega) (fun _ => ?_) (fun q => absurd q (by omega))
    refine pm_aloadn hG dX12_move_14 rfl ?_
    refine pm_iconst (v := nI 1) hG dX12_move_15 (by decide) ?_
    refine pm_callV (As := [.int (nI 1)]) (rest := []) hG hR dX12_move_16 (lkX12_80 _ rfl) okV_X12_finds rfl rfl (m_finds (d := 1) (by decide) hn hz (by omega)) rfl rfl hdd (Nat.le_refl _) (Nat.le_refl _) (by decide) (pm_ki (fun v52 σ' cnt' hq => ?_))
    obtain ⟨⟨I53, A53, rfl⟩, rfl⟩ := hq
    exact pm_iret hG hF dX12_move_19 rfl (Nat.le_refl _) (Nat.le_refl _) ⟨_, rfl, ⟨_, _, rfl⟩, rfl⟩

set_option maxRecDepth 100000 in
set_option maxHeartbeats 4000000 in
theorem m_nameOf {d B cnt p0 t0 : Nat} {σ : pm_S} {I : Nat → Int32} {A : Nat → Nat → Int32} {n k z : Nat → Int32} {ac wt pl : Int32} {za : Int32} (hdd : 1 ≤ d) (hn : KI n) (hz : SZ z)  : pm_met mX12_nameOf d 0 0 B [.int za] cnt (pm_mid σ (md_L B I A n k z ac wt pl (nI p0) (nI t0))) (pm_Qi (fun v σ' cnt' => σ' = pm_mid σ (md_L B I A n k z ac wt pl (nI p0) (nI t0)) ∧ cnt' = cnt)) := by
  refine pm_enter 0 (by decide) (Nat.le_of_ble_eq_true rfl) rfl (fun G hG hR hF => ?_)
  refine pm_iloadn hG dX12_nameOf_0 rfl ?_
  by_cases c1 : za = nI 97
  · refine pm_top (v := nI 97) c1 ?_
    refine pm_tswIn (tgt := 116) hG dX12_nameOf_1 (by decide) (by decide) rfl rfl ?_
    refine pm_iconst (v := nI 1) hG dX12_nameOf_116 (by decide) ?_
    exact pm_iret hG hF dX12_nameOf_117 rfl (Nat.le_refl _) (Nat.le_refl _) ⟨_, rfl, rfl, rfl⟩
  by_cases c2 : za = nI 98
  · refine pm_top (v := nI 98) c2 ?_
    refine pm_tswIn (tgt := 129) hG dX12_nameOf_1 (by decide) (by decide) rfl rfl ?_
    refine pm_bipush (v := nI 7) hG dX12_nameOf_129 (by decide) ?_
    exact pm_iret hG hF dX12_nameOf_131 rfl (Nat.le_refl _) (Nat.le_refl _) ⟨_, rfl, rfl, rfl⟩
  by_cases c3 : za = nI 99
  · refine pm_top (v := nI 99) c3 ?_
    refine pm_tswIn (tgt := 122) hG dX12_nameOf_1 (by decide) (by decide) rfl rfl ?_
    refine pm_iconst (v := nI 4) hG dX12_nameOf_122 (by decide) ?_
    exact pm_iret hG hF dX12_nameOf_123 rfl (Nat.le_refl _) (Nat.le_refl _) ⟨_, rfl, rfl, rfl⟩
  by_cases c4 : za = nI 100
  · refine pm_top (v := nI 100) c4 ?_
    refine pm_tswIn (tgt := 141) hG dX12_nameOf_1 (by decide) (by decide) rfl rfl ?_
    refine pm_iloadn hG dX12_nameOf_141 rfl ?_
    refine pm_top (v := nI 100) c4 ?_
    refine pm_bipush (v := nI 100) hG dX12_nameOf_142 (by decide) ?_
    refine pm_icmpN_ne (tgt := 152) hG dX12_nameOf_144 rfl (by omega) (by omega) (fun q => absurd q (by omega)) (fun _ => ?_)
    refine pm_bipush (v := nI 11) hG dX12_nameOf_147 (by decide) ?_
    refine pm_goto (tgt := 153) hG dX12_nameOf_149 rfl ?_
    exact pm_iret hG hF dX12_nameOf_153 rfl (Nat.le_refl _) (Nat.le_refl _) ⟨_, rfl, rfl, rfl⟩
  by_cases c5 : za = nI 101
  · refine pm_top (v := nI 101) c5 ?_
    refine pm_tswIn (tgt := 141) hG dX12_nameOf_1 (by decide) (by decide) rfl rfl ?_
    refine pm_iloadn hG dX12_nameOf_141 rfl ?_
    refine pm_top (v := nI 101) c5 ?_
    refine pm_bipush (v := nI 100) hG dX12_nameOf_142 (by decide) ?_
    refine pm_icmpN_ne (tgt := 152) hG dX12_nameOf_144 rfl (by omega) (by omega) (fun _ => ?_) (fun q => absurd q (by omega))
    refine pm_iconst (v := nI 0) hG dX12_nameOf_152 (by decide) ?_
    exact pm_iret hG hF dX12_nameOf_153 rfl (Nat.le_refl _) (Nat.le_refl _) ⟨_, rfl, rfl, rfl⟩
  by_cases c6 : za = nI 102
  · refine pm_top (v := nI 102) c6 ?_
    refine pm_tswIn (tgt := 141) hG dX12_nameOf_1 (by decide) (by decide) rfl rfl ?_
    refine pm_iloadn hG dX12_nameOf_141 rfl ?_
    refine pm_top (v := nI 102) c6 ?_
    refine pm_bipush (v := nI 100) hG dX12_nameOf_142 (by decide) ?_
    refine pm_icmpN_ne (tgt := 152) hG dX12_nameOf_144 rfl (by omega) (by omega) (fun _ => ?_) (fun q => absurd q (by omega))
    refine pm_iconst (v := nI 0) hG dX12_nameOf_152 (by decide) ?_
    exact pm_iret hG hF dX12_nameOf_153 rfl (Nat.le_refl _) (Nat.le_refl _) ⟨_, rfl, rfl, rfl⟩
  by_cases c7 : za = nI 103
  · refine pm_top (v := nI 103) c7 ?_
    refine pm_tswIn (tgt := 141) hG dX12_nameOf_1 (by decide) (by decide) rfl rfl ?_
    refine pm_iloadn hG dX12_nameOf_141 rfl ?_
    refine pm_top (v := nI 103) c7 ?_
    refine pm_bipush (v := nI 100) hG dX12_nameOf_142 (by decide) ?_
    refine pm_icmpN_ne (tgt := 152) hG dX12_nameOf_144 rfl (by omega) (by omega) (fun _ => ?_) (fun q => absurd q (by omega))
    refine pm_iconst (v := nI 0) hG dX12_nameOf_152 (by decide) ?_
    exact pm_iret hG hF dX12_nameOf_153 rfl (Nat.le_refl _) (Nat.le_refl _) ⟨_, rfl, rfl, rfl⟩
  by_cases c8 : za = nI 104
  · refine pm_top (v := nI 104) c8 ?_
    refine pm_tswIn (tgt := 141) hG dX12_nameOf_1 (by decide) (by decide) rfl rfl ?_
    refine pm_iloadn hG dX12_nameOf_141 rfl ?_
    refine pm_top (v := nI 104) c8 ?_
    refine pm_bipush (v := nI 100) hG dX12_nameOf_142 (by decide) ?_
    refine pm_icmpN_ne (tgt := 152) hG dX12_nameOf_144 rfl (by omega) (by omega) (fun _ => ?_) (fun q => absurd q (by omega))
    refine pm_iconst (v := nI 0) hG dX12_nameOf_152 (by decide) ?_
    exact pm_iret hG hF dX12_nameOf_153 rfl (Nat.le_refl _) (Nat.le_refl _) ⟨_, rfl, rfl, rfl⟩
  by_cases c9 : za = nI 105
  · refine pm_top (v := nI 105) c9 ?_
    refine pm_tswIn (tgt := 141) hG dX12_nameOf_1 (by decide) (by decide) rfl rfl ?_
    refine pm_iloadn hG dX12_nameOf_141 rfl ?_
    refine pm_top (v := nI 105) c9 ?_
    refine pm_bipush (v := nI 100) hG dX12_nameOf_142 (by decide) ?_
    refine pm_icmpN_ne (tgt := 152) hG dX12_nameOf_144 rfl (by omega) (by omega) (fun _ => ?_) (fun q => absurd q (by omega))
    refine pm_iconst (v := nI 0) hG dX12_nameOf_152 (by decide) ?_
    exact pm_iret hG hF dX12_nameOf_153 rfl (Nat.le_refl _) (Nat.le_refl _) ⟨_, rfl, rfl, rfl⟩
  by_cases c10 : za = nI 106
  · refine pm_top (v := nI 106) c10 ?_
    refine pm_tswIn (tgt := 141) hG dX12_nameOf_1 (by decide) (by decide) rfl rfl ?_
    refine pm_iloadn hG dX12_nameOf_141 rfl ?_
    refine pm_top (v := nI 106) c10 ?_
    refine pm_bipush (v := nI 100) hG dX12_nameOf_142 (by decide) ?_
    refine pm_icmpN_ne (tgt := 152) hG dX12_nameOf_144 rfl (by omega) (by omega) (fun _ => ?_) (fun q => absurd q (by omega))
    refine pm_iconst (v := nI 0) hG dX12_nameOf_152 (by decide) ?_
    exact pm_iret hG hF dX12_nameOf_153 rfl (Nat.le_refl _) (Nat.le_refl _) ⟨_, rfl, rfl, rfl⟩
  by_cases c11 : za = nI 107
  · refine pm_top (v := nI 107) c11 ?_
    refine pm_tswIn (tgt := 120) hG dX12_nameOf_1 (by decide) (by decide) rfl rfl ?_
    refine pm_iconst (v := nI 3) hG dX12_nameOf_120 (by decide) ?_
    exact pm_iret hG hF dX12_nameOf_121 rfl (Nat.le_refl _) (Nat.le_refl _) ⟨_, rfl, rfl, rfl⟩
  by_cases c12 : za = nI 108
  · refine pm_top (v := nI 108) c12 ?_
    refine pm_tswIn (tgt := 141) hG dX12_nameOf_1 (by decide) (by decide) rfl rfl ?_
    refine pm_iloadn hG dX12_nameOf_141 rfl ?_
    refine pm_top (v := nI 108) c12 ?_
    refine pm_bipush (v := nI 100) hG dX12_nameOf_142 (by decide) ?_
    refine pm_icmpN_ne (tgt := 152) hG dX12_nameOf_144 rfl (by omega) (by omega) (fun _ => ?_) (fun q => absurd q (by omega))
    refine pm_iconst (v := nI 0) hG dX12_nameOf_152 (by decide) ?_
    exact pm_iret hG hF dX12_nameOf_153 rfl (Nat.le_refl _) (Nat.le_refl _) ⟨_, rfl, rfl, rfl⟩
  by_cases c13 : za = nI 109
  · refine pm_top (v := nI 109) c13 ?_
    refine pm_tswIn (tgt := 124) hG dX12_nameOf_1 (by decide) (by decide) rfl rfl ?_
    refine pm_iconst (v := nI 5) hG dX12_nameOf_124 (by decide) ?_
    exact pm_iret hG hF dX12_nameOf_125 rfl (Nat.le_refl _) (Nat.le_refl _) ⟨_, rfl, rfl, rfl⟩
  by_cases c14 : za = nI 110
  · refine pm_top (v := nI 110) c14 ?_
    refine pm_tswIn (tgt := 141) hG dX12_nameOf_1 (by decide) (by decide) rfl rfl ?_
    refine pm_iloadn hG dX12_nameOf_141 rfl ?_
    refine pm_top (v := nI 110) c14 ?_
    refine pm_bipush (v := nI 100) hG dX12_nameOf_142 (by decide) ?_
    refine pm_icmpN_ne (tgt := 152) hG dX12_nameOf_144 rfl (by omega) (by omega) (fun _ => ?_) (fun q => absurd q (by omega))
    refine pm_iconst (v := nI 0) hG dX12_nameOf_152 (by decide) ?_
    exact pm_iret hG hF dX12_nameOf_153 rfl (Nat.le_refl _) (Nat.le_refl _) ⟨_, rfl, rfl, rfl⟩
  by_cases c15 : za = nI 111
  · refine pm_top (v := nI 111) c15 ?_
    refine pm_tswIn (tgt := 135) hG dX12_nameOf_1 (by decide) (by decide) rfl rfl ?_
    refine pm_bipush (v := nI 9) hG dX12_nameOf_135 (by decide) ?_
    exact pm_iret hG hF dX12_nameOf_137 rfl (Nat.le_refl _) (Nat.le_refl _) ⟨_, rfl, rfl, rfl⟩
  by_cases c16 : za = nI 112
  · refine pm_top (v := nI 112) c16 ?_
    refine pm_tswIn (tgt := 141) hG dX12_nameOf_1 (by decide) (by decide) rfl rfl ?_
    refine pm_iloadn hG dX12_nameOf_141 rfl ?_
    refine pm_top (v := nI 112) c16 ?_
    refine pm_bipush (v := nI 100) hG dX12_nameOf_142 (by decide) ?_
    refine pm_icmpN_ne (tgt := 152) hG dX12_nameOf_144 rfl (by omega) (by omega) (fun _ => ?_) (fun q => absurd q (by omega))
    refine pm_iconst (v := nI 0) hG dX12_nameOf_152 (by decide) ?_
    exact pm_iret hG hF dX12_nameOf_153 rfl (Nat.le_refl _) (Nat.le_refl _) ⟨_, rfl, rfl, rfl⟩
  by_cases c17 : za = nI 113
  · refine pm_top (v := nI 113) c17 ?_
    refine pm_tswIn (tgt := 141) hG dX12_nameOf_1 (by decide) (by decide) rfl rfl ?_
    refine pm_iloadn hG dX12_nameOf_141 rfl ?_
    refine pm_top (v := nI 113) c17 ?_
    refine pm_bipush (v := nI 100) hG dX12_nameOf_142 (by decide) ?_
    refine pm_icmpN_ne (tgt := 152) hG dX12_nameOf_144 rfl (by omega) (by omega) (fun _ => ?_) (fun q => absurd q (by omega))
    refine pm_iconst (v := nI 0) hG dX12_nameOf_152 (by decide) ?_
    exact pm_iret hG hF dX12_nameOf_153 rfl (Nat.le_refl _) (Nat.le_refl _) ⟨_, rfl, rfl, rfl⟩
  by_cases c18 : za = nI 114
  · refine pm_top (v := nI 114) c18 ?_
    refine pm_tswIn (tgt := 141) hG dX12_nameOf_1 (by decide) (by decide) rfl rfl ?_
    refine pm_iloadn hG dX12_nameOf_141 rfl ?_
    refine pm_top (v := nI 114) c18 ?_
    refine pm_bipush (v := nI 100) hG dX12_nameOf_142 (by decide) ?_
    refine pm_icmpN_ne (tgt := 152) hG dX12_nameOf_144 rfl (by omega) (by omega) (fun _ => ?_) (fun q => absurd q (by omega))
    refine pm_iconst (v := nI 0) hG dX12_nameOf_152 (by decide) ?_
    exact pm_iret hG hF dX12_nameOf_153 rfl (Nat.le_refl _) (Nat.le_refl _) ⟨_, rfl, rfl, rfl⟩
  by_cases c19 : za = nI 115
  · refine pm_top (v := nI 115) c19 ?_
    refine pm_tswIn (tgt := 118) hG dX12_nameOf_1 (by decide) (by decide) rfl rfl ?_
    refine pm_iconst (v := nI 2) hG dX12_nameOf_118 (by decide) ?_
    exact pm_iret hG hF dX12_nameOf_119 rfl (Nat.le_refl _) (Nat.le_refl _) ⟨_, rfl, rfl, rfl⟩
  by_cases c20 : za = nI 116
  · refine pm_top (v := nI 116) c20 ?_
    refine pm_tswIn (tgt := 126) hG dX12_nameOf_1 (by decide) (by decide) rfl rfl ?_
    refine pm_bipush (v := nI 6) hG dX12_nameOf_126 (by decide) ?_
    exact pm_iret hG hF dX12_nameOf_128 rfl (Nat.le_refl _) (Nat.le_refl _) ⟨_, rfl, rfl, rfl⟩
  by_cases c21 : za = nI 117
  · refine pm_top (v := nI 117) c21 ?_
    refine pm_tswIn (tgt := 141) hG dX12_nameOf_1 (by decide) (by decide) rfl rfl ?_
    refine pm_iloadn hG dX12_nameOf_141 rfl ?_
    refine pm_top (v := nI 117) c21 ?_
    refine pm_bipush (v := nI 100) hG dX12_nameOf_142 (by decide) ?_
    refine pm_icmpN_ne (tgt := 152) hG dX12_nameOf_144 rfl (by omega) (by omega) (fun _ => ?_) (fun q => absurd q (by omega))
    refine pm_iconst (v := nI 0) hG dX12_nameOf_152 (by decide) ?_
    exact pm_iret hG hF dX12_nameOf_153 rfl (Nat.le_refl _) (Nat.le_refl _) ⟨_, rfl, rfl, rfl⟩
  by_cases c22 : za = nI 118
  · refine pm_top (v := nI 118) c22 ?_
    refine pm_tswIn (tgt := 141) hG dX12_nameOf_1 (by decide) (by decide) rfl rfl ?_
    refine pm_iloadn hG dX12_nameOf_141 rfl ?_
    refine pm_top (v := nI 118) c22 ?_
    refine pm_bipush (v := nI 100) hG dX12_nameOf_142 (by decide) ?_
    refine pm_icmpN_ne (tgt := 152) hG dX12_nameOf_144 rfl (by omega) (by omega) (fun _ => ?_) (fun q => absurd q (by omega))
    refine pm_iconst (v := nI 0) hG dX12_nameOf_152 (by decide) ?_
    exact pm_iret hG hF dX12_nameOf_153 rfl (Nat.le_refl _) (Nat.le_refl _) ⟨_, rfl, rfl, rfl⟩
  by_cases c23 : za = nI 119
  · refine pm_top (v := nI 119) c23 ?_
    refine pm_tswIn (tgt := 138) hG dX12_nameOf_1 (by decide) (by decide) rfl rfl ?_
    refine pm_bipush (v := nI 10) hG dX12_nameOf_138 (by decide) ?_
    exact pm_iret hG hF dX12_nameOf_140 rfl (Nat.le_refl _) (Nat.le_refl _) ⟨_, rfl, rfl, rfl⟩
  by_cases c24 : za = nI 120
  · refine pm_top (v := nI 120) c24 ?_
    refine pm_tswIn (tgt := 141) hG dX12_nameOf_1 (by decide) (by decide) rfl rfl ?_
    refine pm_iloadn hG dX12_nameOf_141 rfl ?_
    refine pm_top (v := nI 120) c24 ?_
    refine pm_bipush (v := nI 100) hG dX12_nameOf_142 (by decide) ?_
    refine pm_icmpN_ne (tgt := 152) hG dX12_nameOf_144 rfl (by omega) (by omega) (fun _ => ?_) (fun q => absurd q (by omega))
    refine pm_iconst (v := nI 0) hG dX12_nameOf_152 (by decide) ?_
    exact pm_iret hG hF dX12_nameOf_153 rfl (Nat.le_refl _) (Nat.le_refl _) ⟨_, rfl, rfl, rfl⟩
  by_cases c25 : za = nI 121
  · refine pm_top (v := nI 121) c25 ?_
    refine pm_tswIn (tgt := 132) hG dX12_nameOf_1 (by decide) (by decide) rfl rfl ?_
    refine pm_bipush (v := nI 8) hG dX12_nameOf_132 (by decide) ?_
    exact pm_iret hG hF dX12_nameOf_134 rfl (Nat.le_refl _) (Nat.le_refl _) ⟨_, rfl, rfl, rfl⟩
  have tc1 : ¬ za.toInt = 97 := fun q => c1 (Int32.toInt_inj.mp (q.trans (by decide)))
  have tc2 : ¬ za.toInt = 98 := fun q => c2 (Int32.toInt_inj.mp (q.trans (by decide)))
  have tc3 : ¬ za.toInt = 99 := fun q => c3 (Int32.toInt_inj.mp (q.trans (by decide)))
  have tc4 : ¬ za.toInt = 100 := fun q => c4 (Int32.toInt_inj.mp (q.trans (by decide)))
  have tc5 : ¬ za.toInt = 101 := fun q => c5 (Int32.toInt_inj.mp (q.trans (by decide)))
  have tc6 : ¬ za.toInt = 102 := fun q => c6 (Int32.toInt_inj.mp (q.trans (by decide)))
  have tc7 : ¬ za.toInt = 103 := fun q => c7 (Int32.toInt_inj.mp (q.trans (by decide)))
  have tc8 : ¬ za.toInt = 104 := fun q => c8 (Int32.toInt_inj.mp (q.trans (by decide)))
  have tc9 : ¬ za.toInt = 105 := fun q => c9 (Int32.toInt_inj.mp (q.trans (by decide)))
  have tc10 : ¬ za.toInt = 106 := fun q => c10 (Int32.toInt_inj.mp (q.trans (by decide)))
  have tc11 : ¬ za.toInt = 107 := fun q => c11 (Int32.toInt_inj.mp (q.trans (by decide)))
  have tc12 : ¬ za.toInt = 108 := fun q => c12 (Int32.toInt_inj.mp (q.trans (by decide)))
  have tc13 : ¬ za.toInt = 109 := fun q => c13 (Int32.toInt_inj.mp (q.trans (by decide)))
  have tc14 : ¬ za.toInt = 110 := fun q => c14 (Int32.toInt_inj.mp (q.trans (by decide)))
  have tc15 : ¬ za.toInt = 111 := fun q => c15 (Int32.toInt_inj.mp (q.trans (by decide)))
  have tc16 : ¬ za.toInt = 112 := fun q => c16 (Int32.toInt_inj.mp (q.trans (by decide)))
  have tc17 : ¬ za.toInt = 113 := fun q => c17 (Int32.toInt_inj.mp (q.trans (by decide)))
  have tc18 : ¬ za.toInt = 114 := fun q => c18 (Int32.toInt_inj.mp (q.trans (by decide)))
  have tc19 : ¬ za.toInt = 115 := fun q => c19 (Int32.toInt_inj.mp (q.trans (by decide)))
  have tc20 : ¬ za.toInt = 116 := fun q => c20 (Int32.toInt_inj.mp (q.trans (by decide)))
  have tc21 : ¬ za.toInt = 117 := fun q => c21 (Int32.toInt_inj.mp (q.trans (by decide)))
  have tc22 : ¬ za.toInt = 118 := fun q => c22 (Int32.toInt_inj.mp (q.trans (by decide)))
  have tc23 : ¬ za.toInt = 119 := fun q => c23 (Int32.toInt_inj.mp (q.trans (by decide)))
  have tc24 : ¬ za.toInt = 120 := fun q => c24 (Int32.toInt_inj.mp (q.trans (by decide)))
  have tc25 : ¬ za.toInt = 121 := fun q => c25 (Int32.toInt_inj.mp (q.trans (by decide)))
  refine pm_tswOut (tgt := 141) hG dX12_nameOf_1 (by omega) rfl ?_
  refine pm_iloadn hG dX12_nameOf_141 rfl ?_
  refine pm_bipush (v := nI 100) hG dX12_nameOf_142 (by decide) ?_
  refine pm_icmp_ne (tgt := 152) hG dX12_nameOf_144 rfl (fun c26 => ?_) (fun c26 => ?_)
  · refine pm_iconst (v := nI 0) hG dX12_nameOf_152 (by decide) ?_
    exact pm_iret hG hF dX12_nameOf_153 rfl (Nat.le_refl _) (Nat.le_refl _) ⟨_, rfl, rfl, rfl⟩
  · refine pm_bipush (v := nI 11) hG dX12_nameOf_147 (by decide) ?_
    refine pm_goto (tgt := 153) hG dX12_nameOf_149 rfl ?_
    exact pm_iret hG hF dX12_nameOf_153 rfl (Nat.le_refl _) (Nat.le_refl _) ⟨_, rfl, rfl, rfl⟩

set_option maxRecDepth 100000 in
set_option maxHeartbeats 4000000 in
theorem m_comesTo_m_n20_n40 {d B cnt p0 t0 : Nat} {σ : pm_S} {I : Nat → Int32} {A : Nat → Nat → Int32} {n k z : Nat → Int32} {ac wt pl : Int32} {zd : Int32} {ab ac : Nat} (hdd : 1 ≤ d) (hn : KI n) (hr : NR n) (hz : SZ z) (hab : ab < 20) (hac : ac < 40) : pm_met mX12_comesTo d 0 0 B [.ref (B + 54), .int (-1), .int (nI ab), .int (nI ac), .int zd] cnt (pm_mid σ (md_L B I A n k z ac wt pl (nI p0) (nI t0))) (pm_Qi (fun v σ' cnt' => (∃ (I' : Nat → Int32) (A' : Nat → Nat → Int32), σ' = pm_mid σ (md_L B I' A' n k z ac wt pl (nI p0) (nI t0))) ∧ cnt' = cnt)) := by
  refine pm_enter 4 (by decide) (Nat.le_of_ble_eq_true rfl) rfl (fun G hG hR hF => ?_)
  refine pm_iloadn hG dX12_comesTo_0 rfl ?_
  refine pm_if_ge (tgt := 6) hG dX12_comesTo_1 rfl (fun q => absurd q (by decide)) (fun _ => ?_)
  refine pm_iconst (v := nI 1) hG dX12_comesTo_4 (by decide) ?_
  exact pm_iret hG hF dX12_comesTo_5 rfl (Nat.le_refl _) (Nat.le_refl _) ⟨_, rfl, ⟨_, _, rfl⟩, rfl⟩

set_option maxRecDepth 100000 in
set_option maxHeartbeats 4000000 in
theorem m_setNames_n20_n40 {d B cnt p0 t0 : Nat} {σ : pm_S} {I : Nat → Int32} {A : Nat → Nat → Int32} {n k z : Nat → Int32} {ac wt pl : Int32} {zc : Int32} {aa ab : Nat} (hdd : 2 ≤ d) (hn : KI n) (hz : SZ z) (haa : aa < 20) (hab : ab < 40) : pm_met mX12_setNames d 0 0 B [.ref (B + 54), .int (nI aa), .int (nI ab), .int zc] cnt (pm_mid σ (md_L B I A n k z ac wt pl (nI p0) (nI t0))) (pm_Qv (fun σ' cnt' => (∃ (I' : Nat → Int32) (A' : Nat → Nat → Int32), σ' = pm_mid σ (md_L B I' A' n k z ac wt pl (nI p0) (nI t0))) ∧ cnt' = cnt)) := by
  refine pm_enter 0 (by decide) (Nat.le_of_ble_eq_true rfl) rfl (fun G hG hR hF => ?_)
  refine pm_aloadn hG dX12_setNames_0 rfl ?_
  refine pm_getf hG dX12_setNames_1 (flX12_34 _ rfl) rfl rfl ?_
  refine pm_iconst (v := nI 0) hG dX12_setNames_4 (by decide) ?_
  refine pm_iloadn hG dX12_setNames_5 rfl ?_
  refine pm_ifN_ge (tgt := 13) hG dX12_setNames_6 rfl (by omega) ?_
  refine pm_iloadn hG dX12_setNames_13 rfl ?_
  refine pm_aloadn hG dX12_setNames_14 rfl ?_
  refine pm_iloadn hG dX12_setNames_15 rfl ?_
  refine pm_iconst (v := nI 1) hG dX12_setNames_16 (by decide) ?_
  refine pm_callV (As := [.int (nI aa), .int (nI 1)]) (rest := [.int zc, .int (nI 0), .ref (B + 63)]) hG hR dX12_setNames_17 (lkX12_72 _ rfl) okV_X12_man rfl rfl (m_man (d := 1) (e := 14 * aa + 111) (by omega) (by omega) (by omega)) rfl rfl hdd (Nat.le_refl _) (Nat.le_refl _) (Nat.le_of_ble_eq_true rfl) (pm_ki (fun v1 σ' cnt' hq => ?_))
  obtain ⟨rfl, rfl, rfl⟩ := hq
  refine pm_gen (fun x2 ex2 => ?_)
  refine pm_isub hG dX12_setNames_20 ?_
  refine pm_sipush (v := nI 360) hG dX12_setNames_21 (by decide) ?_
  refine pm_idiv hG dX12_setNames_24 (by decide) ?_
  refine pm_any (fun x3 => ?_)
  refine pm_iastN hG dX12_setNames_25 rfl (by decide) (by omega) ?_
  refine mdn_names (fun A_4 => ?_)
  refine pm_aloadn hG dX12_setNames_26 rfl ?_
  refine pm_getf hG dX12_setNames_27 (flX12_34 _ rfl) rfl rfl ?_
  refine pm_iconst (v := nI 1) hG dX12_setNames_30 (by decide) ?_
  refine pm_iloadn hG dX12_setNames_31 rfl ?_
  refine pm_ifN_ge (tgt := 39) hG dX12_setNames_32 rfl (by omega) ?_
  refine pm_aloadn hG dX12_setNames_39 rfl ?_
  refine pm_iloadn hG dX12_setNames_40 rfl ?_
  refine pm_iconst (v := nI 0) hG dX12_setNames_41 (by decide) ?_
  refine pm_callV (As := [.int (nI aa), .int (nI 0)]) (rest := [.int (nI 1), .ref (B + 63)]) hG hR dX12_setNames_42 (lkX12_72 _ rfl) okV_X12_man rfl rfl (m_man (d := 1) (e := 14 * aa + 110) (by omega) (by omega) (by omega)) rfl rfl hdd (Nat.le_refl _) (Nat.le_refl _) (Nat.le_of_ble_eq_true rfl) (pm_ki (fun v5 σ' cnt' hq => ?_))
  obtain ⟨rfl, rfl, rfl⟩ := hq
  refine pm_gen (fun x6 ex6 => ?_)
  refine pm_iastN hG dX12_setNames_45 rfl (by decide) (by omega) ?_
  refine mdn_names (fun A_7 => ?_)
  refine pm_aloadn hG dX12_setNames_46 rfl ?_
  refine pm_getf hG dX12_setNames_47 (flX12_34 _ rfl) rfl rfl ?_
  refine pm_iconst (v := nI 2) hG dX12_setNames_50 (by decide) ?_
  refine pm_iloadn hG dX12_setNames_51 rfl ?_
  refine pm_ifN_ge (tgt := 59) hG dX12_setNames_52 rfl (by omega) ?_
  refine pm_aloadn hG dX12_setNames_59 rfl ?_
  refine pm_iloadn hG dX12_setNames_60 rfl ?_
  refine pm_callV (As := [.int (nI aa)]) (rest := [.int (nI 2), .ref (B + 63)]) hG hR dX12_setNames_61 (lkX12_122 _ rfl) okV_X12_holdsMany rfl rfl (m_holdsMany (d := 1) (by decide) hn hz) rfl rfl hdd (Nat.le_refl _) (Nat.le_refl _) (Nat.le_of_ble_eq_true rfl) (pm_ki (fun v8 σ' cnt' hq => ?_))
  obtain ⟨rfl, rfl⟩ := hq
  refine pm_iastN hG dX12_setNames_64 rfl (by decide) (by omega) ?_
  refine mdn_names (fun A_10 => ?_)
  refine pm_aloadn hG dX12_setNames_65 rfl ?_
  refine pm_getf hG dX12_setNames_66 (flX12_34 _ rfl) rfl rfl ?_
  refine pm_iconst (v := nI 3) hG dX12_setNames_69 (by decide) ?_
  refine pm_iloadn hG dX12_setNames_70 rfl ?_
  refine pm_ifN_ge (tgt := 78) hG dX12_setNames_71 rfl (by omega) ?_
  refine pm_aloadn hG dX12_setNames_78 rfl ?_
  refine pm_iloadn hG dX12_setNames_79 rfl ?_
  refine pm_bipush (v := nI 7) hG dX12_setNames_80 (by decide) ?_
  refine pm_callV (As := [.int (nI aa), .int (nI 7)]) (rest := [.int (nI 3), .ref (B + 63)]) hG hR dX12_setNames_82 (lkX12_72 _ rfl) okV_X12_man rfl rfl (m_man (d := 1) (e := 14 * aa + 117) (by omega) (by omega) (by omega)) rfl rfl hdd (Nat.le_refl _) (Nat.le_refl _) (Nat.le_of_ble_eq_true rfl) (pm_ki (fun v11 σ' cnt' hq => ?_))
  obtain ⟨rfl, rfl, rfl⟩ := hq
  refine pm_gen (fun x12 ex12 => ?_)
  refine pm_iastN hG dX12_setNames_85 rfl (by decide) (by omega) ?_
  refine mdn_names (fun A_13 => ?_)
  refine pm_aloadn hG dX12_setNames_86 rfl ?_
  refine pm_getf hG dX12_setNames_87 (flX12_34 _ rfl) rfl rfl ?_
  refine pm_iconst (v := nI 4) hG dX12_setNames_90 (by decide) ?_
  refine pm_iloadn hG dX12_setNames_91 rfl ?_
  refine pm_ifN_ge (tgt := 99) hG dX12_setNames_92 rfl (by omega) ?_
  refine pm_aloadn hG dX12_setNames_99 rfl ?_
  refine pm_iloadn hG dX12_setNames_100 rfl ?_
  refine pm_bipush (v := nI 8) hG dX12_setNames_101 (by decide) ?_
  refine pm_callV (As := [.int (nI aa), .int (nI 8)]) (rest := [.int (nI 4), .ref (B + 63)]) hG hR dX12_setNames_103 (lkX12_72 _ rfl) okV_X12_man rfl rfl (m_man (d := 1) (e := 14 * aa + 118) (by omega) (by omega) (by omega)) rfl rfl hdd (Nat.le_refl _) (Nat.le_refl _) (Nat.le_of_ble_eq_true rfl) (pm_ki (fun v14 σ' cnt' hq => ?_))
  obtain ⟨rfl, rfl, rfl⟩ := hq
  refine pm_gen (fun x15 ex15 => ?_)
  refine pm_iastN hG dX12_setNames_106 rfl (by decide) (by omega) ?_
  refine mdn_names (fun A_16 => ?_)
  refine pm_aloadn hG dX12_setNames_107 rfl ?_
  refine pm_getf hG dX12_setNames_108 (flX12_34 _ rfl) rfl rfl ?_
  refine pm_iconst (v := nI 5) hG dX12_setNames_111 (by decide) ?_
  refine pm_iloadn hG dX12_setNames_112 rfl ?_
  refine pm_ifN_ge (tgt := 120) hG dX12_setNames_113 rfl (by omega) ?_
  refine pm_aloadn hG dX12_setNames_120 rfl ?_
  refine pm_iloadn hG dX12_setNames_121 rfl ?_
  refine pm_iconst (v := nI 4) hG dX12_setNames_122 (by decide) ?_
  refine pm_callV (As := [.int (nI aa), .int (nI 4)]) (rest := [.int (nI 5), .ref (B + 63)]) hG hR dX12_setNames_123 (lkX12_72 _ rfl) okV_X12_man rfl rfl (m_man (d := 1) (e := 14 * aa + 114) (by omega) (by omega) (by omega)) rfl rfl hdd (Nat.le_refl _) (Nat.le_refl _) (Nat.le_of_ble_eq_true rfl) (pm_ki (fun v17 σ' cnt' hq => ?_))
  obtain ⟨rfl, rfl, rfl⟩ := hq
  rcases KI.opt hn (kd_P (k := aa) (c := 4) (by omega) (by omega) (by decide)) with ek18 | ⟨k18, hk18, ek18⟩
  · refine pm_top (v := (-1)) ek18 ?_
    refine pm_if_ge (tgt := 134) hG dX12_setNames_126 rfl (fun q => absurd q (by decide)) (fun _ => ?_)
    refine pm_bipush (v := nI 10) hG dX12_setNames_129 (by decide) ?_
    refine pm_goto (tgt := 140) hG dX12_setNames_131 rfl ?_
    refine pm_iastN hG dX12_setNames_140 rfl (by decide) (by omega) ?_
    refine mdn_names (fun A_19 => ?_)
    refine pm_aloadn hG dX12_setNames_141 rfl ?_
    refine pm_getf hG dX12_setNames_142 (flX12_34 _ rfl) rfl rfl ?_
    refine pm_bipush (v := nI 6) hG dX12_setNames_145 (by decide) ?_
    refine pm_iloadn hG dX12_setNames_147 rfl ?_
    refine pm_ifN_ge (tgt := 155) hG dX12_setNames_148 rfl (by omega) ?_
    refine pm_aloadn hG dX12_setNames_155 rfl ?_
    refine pm_iloadn hG dX12_setNames_156 rfl ?_
    refine pm_callV (As := [.int (nI aa)]) (rest := [.int (nI 6), .ref (B + 63)]) hG hR dX12_setNames_157 (lkX12_125 _ rfl) okV_X12_stepsOf rfl rfl (m_stepsOf (d := 1) (by decide) hn hz (by omega)) rfl rfl hdd (Nat.le_refl _) (Nat.le_refl _) (Nat.le_of_ble_eq_true rfl) (pm_ki (fun v20 σ' cnt' hq => ?_))
    obtain ⟨⟨I21, A21, rfl⟩, rfl⟩ := hq
    refine pm_iastN hG dX12_setNames_160 rfl (by decide) (by omega) ?_
    refine mdn_names (fun A_22 => ?_)
    refine pm_aloadn hG dX12_setNames_161 rfl ?_
    refine pm_getf hG dX12_setNames_162 (flX12_34 _ rfl) rfl rfl ?_
    refine pm_bipush (v := nI 7) hG dX12_setNames_165 (by decide) ?_
    refine pm_iloadn hG dX12_setNames_167 rfl ?_
    refine pm_ifN_ge (tgt := 175) hG dX12_setNames_168 rfl (by omega) ?_
    refine pm_aloadn hG dX12_setNames_175 rfl ?_
    refine pm_iloadn hG dX12_setNames_176 rfl ?_
    refine pm_iconst (v := nI 3) hG dX12_setNames_177 (by decide) ?_
    refine pm_callV (As := [.int (nI ab), .int (nI 3)]) (rest := [.int (nI 7), .ref (B + 63)]) hG hR dX12_setNames_178 (lkX12_199 _ rfl) okV_X12_of rfl rfl (m_of (d := 1) (e := 12 * ab + 1293) (by omega) (by omega) (by omega)) rfl rfl hdd (Nat.le_refl _) (Nat.le_refl _) (Nat.le_of_ble_eq_true rfl) (pm_ki (fun v23 σ' cnt' hq => ?_))
    obtain ⟨rfl, rfl, rfl⟩ := hq
    refine pm_gen (fun x24 ex24 => ?_)
    refine pm_callS (As := [.int x24]) (rest := [.int (nI 7), .ref (B + 63)]) hG hR dX12_setNames_181 (lkX12_202 _ rfl) okS_X12_bits (m_bits (d := 1) (by decide) hn hz) rfl rfl hdd (Nat.le_refl _) (Nat.le_refl _) (Nat.le_of_ble_eq_true rfl) (pm_ki (fun v25 σ' cnt' hq => ?_))
    obtain ⟨rfl, rfl⟩ := hq
    refine pm_iastN hG dX12_setNames_184 rfl (by decide) (by omega) ?_
    refine mdn_names (fun A_27 => ?_)
    refine pm_aloadn hG dX12_setNames_185 rfl ?_
    refine pm_getf hG dX12_setNames_186 (flX12_34 _ rfl) rfl rfl ?_
    refine pm_bipush (v := nI 8) hG dX12_setNames_189 (by decide) ?_
    refine pm_iloadn hG dX12_setNames_191 rfl ?_
    refine pm_ifN_ge (tgt := 199) hG dX12_setNames_192 rfl (by omega) ?_
    refine pm_aloadn hG dX12_setNames_199 rfl ?_
    refine pm_iloadn hG dX12_setNames_200 rfl ?_
    refine pm_iconst (v := nI 1) hG dX12_setNames_201 (by decide) ?_
    refine pm_callV (As := [.int (nI ab), .int (nI 1)]) (rest := [.int (nI 8), .ref (B + 63)]) hG hR dX12_setNames_202 (lkX12_199 _ rfl) okV_X12_of rfl rfl (m_of (d := 1) (e := 12 * ab + 1291) (by omega) (by omega) (by omega)) rfl rfl hdd (Nat.le_refl _) (Nat.le_refl _) (Nat.le_of_ble_eq_true rfl) (pm_ki (fun v28 σ' cnt' hq => ?_))
    obtain ⟨rfl, rfl, rfl⟩ := hq
    refine pm_gen (fun x29 ex29 => ?_)
    refine pm_iastN hG dX12_setNames_205 rfl (by decide) (by omega) ?_
    refine mdn_names (fun A_30 => ?_)
    refine pm_aloadn hG dX12_setNames_206 rfl ?_
    refine pm_getf hG dX12_setNames_207 (flX12_34 _ rfl) rfl rfl ?_
    refine pm_bipush (v := nI 9) hG dX12_setNames_210 (by decide) ?_
    refine pm_iloadn hG dX12_setNames_212 rfl ?_
    refine pm_ifN_ge (tgt := 220) hG dX12_setNames_213 rfl (by omega) ?_
    refine pm_aloadn hG dX12_setNames_220 rfl ?_
    refine pm_iloadn hG dX12_setNames_221 rfl ?_
    refine pm_iconst (v := nI 2) hG dX12_setNames_222 (by decide) ?_
    refine pm_callV (As := [.int (nI ab), .int (nI 2)]) (rest := [.int (nI 9), .ref (B + 63)]) hG hR dX12_setNames_223 (lkX12_199 _ rfl) okV_X12_of rfl rfl (m_of (d := 1) (e := 12 * ab + 1292) (by omega) (by omega) (by omega)) rfl rfl hdd (Nat.le_refl _) (Nat.le_refl _) (Nat.le_of_ble_eq_true rfl) (pm_ki (fun v31 σ' cnt' hq => ?_))
    obtain ⟨rfl, rfl, rfl⟩ := hq
    obtain ⟨k32, hk32, ek32⟩ := KI.nat hn (kd_E (k := ab) (c := 2) (by omega) (by omega) (by decide))
    refine pm_top (v := nI k32) ek32 ?_
    refine pm_iastN hG dX12_setNames_226 rfl (by decide) (by omega) ?_
    refine mdn_names (fun A_33 => ?_)
    refine pm_aloadn hG dX12_setNames_227 rfl ?_
    refine pm_getf hG dX12_setNames_228 (flX12_34 _ rfl) rfl rfl ?_
    refine pm_bipush (v := nI 10) hG dX12_setNames_231 (by decide) ?_
    refine pm_iloadn hG dX12_setNames_233 rfl ?_
    refine pm_iastN hG dX12_setNames_234 rfl (by decide) (by omega) ?_
    refine mdn_names (fun A_34 => ?_)
    exact pm_vret hG hF dX12_setNames_235 rfl (Nat.le_refl _) (Nat.le_refl _) ⟨rfl, ⟨_, _, rfl⟩, rfl⟩
  · refine pm_top (v := nI k18) ek18 ?_
    refine pm_ifN_ge (tgt := 134) hG dX12_setNames_126 rfl (by omega) ?_
    refine pm_aloadn hG dX12_setNames_134 rfl ?_
    refine pm_iloadn hG dX12_setNames_135 rfl ?_
    refine pm_iconst (v := nI 4) hG dX12_setNames_136 (by decide) ?_
    refine pm_callV (As := [.int (nI aa), .int (nI 4)]) (rest := [.int (nI 5), .ref (B + 63)]) hG hR dX12_setNames_137 (lkX12_72 _ rfl) okV_X12_man rfl rfl (m_man (d := 1) (e := 14 * aa + 114) (by omega) (by omega) (by omega)) rfl rfl hdd (Nat.le_refl _) (Nat.le_refl _) (Nat.le_of_ble_eq_true rfl) (pm_ki (fun v35 σ' cnt' hq => ?_))
    obtain ⟨rfl, rfl, rfl⟩ := hq
    refine pm_top (v := nI k18) ek18 ?_
    refine pm_iastN hG dX12_setNames_140 rfl (by decide) (by omega) ?_
    refine mdn_names (fun A_36 => ?_)
    refine pm_aloadn hG dX12_setNames_141 rfl ?_
    refine pm_getf hG dX12_setNames_142 (flX12_34 _ rfl) rfl rfl ?_
    refine pm_bipush (v := nI 6) hG dX12_setNames_145 (by decide) ?_
    refine pm_iloadn hG dX12_setNames_147 rfl ?_
    refine pm_ifN_ge (tgt := 155) hG dX12_setNames_148 rfl (by omega) ?_
    refine pm_aloadn hG dX12_setNames_155 rfl ?_
    refine pm_iloadn hG dX12_setNames_156 rfl ?_
    refine pm_callV (As := [.int (nI aa)]) (rest := [.int (nI 6), .ref (B + 63)]) hG hR dX12_setNames_157 (lkX12_125 _ rfl) okV_X12_stepsOf rfl rfl (m_stepsOf (d := 1) (by decide) hn hz (by omega)) rfl rfl hdd (Nat.le_refl _) (Nat.le_refl _) (Nat.le_of_ble_eq_true rfl) (pm_ki (fun v37 σ' cnt' hq => ?_))
    obtain ⟨⟨I38, A38, rfl⟩, rfl⟩ := hq
    refine pm_iastN hG dX12_setNames_160 rfl (by decide) (by omega) ?_
    refine mdn_names (fun A_39 => ?_)
    refine pm_aloadn hG dX12_setNames_161 rfl ?_
    refine pm_getf hG dX12_setNames_162 (flX12_34 _ rfl) rfl rfl ?_
    refine pm_bipush (v := nI 7) hG dX12_setNames_165 (by decide) ?_
    refine pm_iloadn hG dX12_setNames_167 rfl ?_
    refine pm_ifN_ge (tgt := 175) hG dX12_setNames_168 rfl (by omega) ?_
    refine pm_aloadn hG dX12_setNames_175 rfl ?_
    refine pm_iloadn hG dX12_setNames_176 rfl ?_
    refine pm_iconst (v := nI 3) hG dX12_setNames_177 (by decide) ?_
    refine pm_callV (As := [.int (nI ab), .int (nI 3)]) (rest := [.int (nI 7), .ref (B + 63)]) hG hR dX12_setNames_178 (lkX12_199 _ rfl) okV_X12_of rfl rfl (m_of (d := 1) (e := 12 * ab + 1293) (by omega) (by omega) (by omega)) rfl rfl hdd (Nat.le_refl _) (Nat.le_refl _) (Nat.le_of_ble_eq_true rfl) (pm_ki (fun v40 σ' cnt' hq => ?_))
    obtain ⟨rfl, rfl, rfl⟩ := hq
    refine pm_gen (fun x41 ex41 => ?_)
    refine pm_callS (As := [.int x41]) (rest := [.int (nI 7), .ref (B + 63)]) hG hR dX12_setNames_181 (lkX12_202 _ rfl) okS_X12_bits (m_bits (d := 1) (by decide) hn hz) rfl rfl hdd (Nat.le_refl _) (Nat.le_refl _) (Nat.le_of_ble_eq_true rfl) (pm_ki (fun v42 σ' cnt' hq => ?_))
    obtain ⟨rfl, rfl⟩ := hq
    refine pm_iastN hG dX12_setNames_184 rfl (by decide) (by omega) ?_
    refine mdn_names (fun A_44 => ?_)
    refine pm_aloadn hG dX12_setNames_185 rfl ?_
    refine pm_getf hG dX12_setNames_186 (flX12_34 _ rfl) rfl rfl ?_
    refine pm_bipush (v := nI 8) hG dX12_setNames_189 (by decide) ?_
    refine pm_iloadn hG dX12_setNames_191 rfl ?_
    refine pm_ifN_ge (tgt := 199) hG dX12_setNames_192 rfl (by omega) ?_
    refine pm_aloadn hG dX12_setNames_199 rfl ?_
    refine pm_iloadn hG dX12_setNames_200 rfl ?_
    refine pm_iconst (v := nI 1) hG dX12_setNames_201 (by decide) ?_
    refine pm_callV (As := [.int (nI ab), .int (nI 1)]) (rest := [.int (nI 8), .ref (B + 63)]) hG hR dX12_setNames_202 (lkX12_199 _ rfl) okV_X12_of rfl rfl (m_of (d := 1) (e := 12 * ab + 1291) (by omega) (by omega) (by omega)) rfl rfl hdd (Nat.le_refl _) (Nat.le_refl _) (Nat.le_of_ble_eq_true rfl) (pm_ki (fun v45 σ' cnt' hq => ?_))
    obtain ⟨rfl, rfl, rfl⟩ := hq
    refine pm_gen (fun x46 ex46 => ?_)
    refine pm_iastN hG dX12_setNames_205 rfl (by decide) (by omega) ?_
    refine mdn_names (fun A_47 => ?_)
    refine pm_aloadn hG dX12_setNames_206 rfl ?_
    refine pm_getf hG dX12_setNames_207 (flX12_34 _ rfl) rfl rfl ?_
    refine pm_bipush (v := nI 9) hG dX12_setNames_210 (by decide) ?_
    refine pm_iloadn hG dX12_setNames_212 rfl ?_
    refine pm_ifN_ge (tgt := 220) hG dX12_setNames_213 rfl (by omega) ?_
    refine pm_aloadn hG dX12_setNames_220 rfl ?_
    refine pm_iloadn hG dX12_setNames_221 rfl ?_
    refine pm_iconst (v := nI 2) hG dX12_setNames_222 (by decide) ?_
    refine pm_callV (As := [.int (nI ab), .int (nI 2)]) (rest := [.int (nI 9), .ref (B + 63)]) hG hR dX12_setNames_223 (lkX12_199 _ rfl) okV_X12_of rfl rfl (m_of (d := 1) (e := 12 * ab + 1292) (by omega) (by omega) (by omega)) rfl rfl hdd (Nat.le_refl _) (Nat.le_refl _) (Nat.le_of_ble_eq_true rfl) (pm_ki (fun v48 σ' cnt' hq => ?_))
    obtain ⟨rfl, rfl, rfl⟩ := hq
    obtain ⟨k49, hk49, ek49⟩ := KI.nat hn (kd_E (k := ab) (c := 2) (by omega) (by omega) (by decide))
    refine pm_top (v := nI k49) ek49 ?_
    refine pm_iastN hG dX12_setNames_226 rfl (by decide) (by omega) ?_
    refine mdn_names (fun A_50 => ?_)
    refine pm_aloadn hG dX12_setNames_227 rfl ?_
    refine pm_getf hG dX12_setNames_228 (flX12_34 _ rfl) rfl rfl ?_
    refine pm_bipush (v := nI 10) hG dX12_setNames_231 (by decide) ?_
    refine pm_iloadn hG dX12_setNames_233 rfl ?_
    refine pm_iastN hG dX12_setNames_234 rfl (by decide) (by omega) ?_
    refine mdn_names (fun A_51 => ?_)
    exact pm_vret hG hF dX12_setNames_235 rfl (Nat.le_refl _) (Nat.le_refl _) ⟨rfl, ⟨_, _, rfl⟩, rfl⟩
